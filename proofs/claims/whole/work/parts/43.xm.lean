/-! ===== YawnKeys: days, drift, what is foretold ===== -/
def lv1 (b : Bool) (z : CS × (Nat → MC) × Nat) : CS × (Nat → MC) × Nat := (dayC (if b = true then dtC z.1 else z.1), remM z.2.1 z.2.2 (mom z.1), remN z.2.2)
def liv (b : Bool) (z : CS × (Nat → MC) × Nat) : Nat → CS × (Nat → MC) × Nat
  | 0 => z
  | n + 1 => lv1 b (liv b z n)
theorem lv1_wf {b : Bool} {z : CS × (Nat → MC) × Nat} (h : WfC z.1) : WfC (lv1 b z).1 := by
  unfold lv1
  by_cases hb : b = true
  · simp only [if_pos hb]; exact (dayC_wf (dtC_wf h).1).1
  · simp only [if_neg hb]; exact (dayC_wf h).1
theorem liv_wf {b : Bool} {z : CS × (Nat → MC) × Nat} (h : WfC z.1) : ∀ n : Nat, WfC (liv b z n).1
  | 0 => h
  | n + 1 => lv1_wf (liv_wf h n)
def x_live (k : Int32) (b : Bool) (ψ : XS) : XS × Int32 := if inr k 1 40 = true then (if ψ.1.2.2.2.1 + k ≤ 9999 then (((liv b (ψ.1, ψ.2.2.1) k.toNatClampNeg).1, ψ.2.1, (liv b (ψ.1, ψ.2.2.1) k.toNatClampNeg).2, ψ.2.2.2), (liv b (ψ.1, ψ.2.2.1) k.toNatClampNeg).1.2.2.2.2.1 - ψ.1.2.2.2.2.1) else (ψ, -3)) else (ψ, -1)
def sp_X6_live (Γ : Cx) : YSp := fun av σ K => ∃ (a : Int32) (b : Bool), xq Γ [.int a, .int (bI b)] (fn (x_live a b)) PX av σ K
theorem rv_X6_live {Γ : Cx} : Recv (sp_X6_live Γ) 2 6 := by
  intro av σ K h
  obtain ⟨a, b, h⟩ := h
  obtain ⟨q, fs, h1, h2, h3⟩ := rv_xq h
  exact ⟨q, _, fs, h1, rfl, h2, h3⟩
theorem bw_504 : Cond.code yX0_drawTalk cX0_drawTalk 1 none ∈ BW := bw_i 504 (by decide +kernel) (by decide +kernel)
theorem no_X0_drawTalk : NameOK yX0_drawTalk 0 := by unfold NameOK; decide +kernel
theorem bw_501 : Cond.methodLink RX6 240 yX0_drawTalk ∈ BW := bw_i 501 (by decide +kernel) (by decide +kernel)
theorem bw_502 : Cond.instanceMethod yX0_drawTalk ∈ BW := bw_i 502 (by decide +kernel) (by decide +kernel)
theorem bw_503 : Cond.selects RX0 yX0_drawTalk yX0_drawTalk ∈ BW := bw_i 503 (by decide +kernel) (by decide +kernel)
theorem bw_514 : Cond.methodLink RX6 163 yX0_passDay ∈ BW := bw_i 514 (by decide +kernel) (by decide +kernel)
theorem bc_40 : (Int8.ofInt 40).toInt32 = 40 := by decide
theorem sc_9999 : (Int16.ofInt 9999).toInt32 = 9999 := by decide
theorem tg_24_6 : tgo 24 6 = some 30 := by decide
theorem tg_44_38 : tgo 44 38 = some 82 := by decide
theorem tg_59_10 : tgo 59 10 = some 69 := by decide
theorem tg_79_m38 : tgo 79 (-38) = some 41 := by decide
def mX6_live : Mt := (⟨4, 0, 0, 102⟩, RX6, cX6_live, 5, some .int, (0, 0), none)
theorem mX6_live_c : mX6_live.2.2.1 = cX6_live := rfl
theorem mX6_live_n : mX6_live.2.2.2.1 = 5 := rfl
theorem mX6_live_r : mX6_live.2.2.2.2.1 = some .int := rfl
theorem mX6_live_l : mX6_live.2.2.2.2.2.2 = none := rfl
def jX6_live (Γ : Cx) : List ((Nat × Nat) × Nat × Bool × YSp) := [((1, 57), 3, true, sp_X6_within Γ), ((0, 145), 2, false, sp_X2_remember Γ), ((0, 240), 1, false, sp_X0_drawTalk Γ), ((0, 163), 1, false, sp_X0_passDay Γ)]
theorem jX6_live_1_57 (Γ : Cx) : kT (jX6_live Γ) 1 57 = some (3, true, sp_X6_within Γ) := rfl
theorem jX6_live_0_145 (Γ : Cx) : kT (jX6_live Γ) 0 145 = some (2, false, sp_X2_remember Γ) := rfl
theorem jX6_live_0_240 (Γ : Cx) : kT (jX6_live Γ) 0 240 = some (1, false, sp_X0_drawTalk Γ) := rfl
theorem jX6_live_0_163 (Γ : Cx) : kT (jX6_live Γ) 0 163 = some (1, false, sp_X0_passDay Γ) := rfl
theorem uX6_live (Γ : Cx) : TbOK Γ mX6_live (fT fX6, cT kX6, kT (jX6_live Γ)) := tb_ok fX6_ok kX6_ok (all_cons ⟨call_S (n := 3) (ok_X6_within Γ) (rv_X6_within (Γ := Γ)) bw_241 bw_239 bw_240 bw_42 no_X6_within ⟨⟨rfl, rfl⟩, ⟨by decide, by decide⟩, ⟨by decide, by decide⟩⟩, fun _ => mono_X6_within (Γ := Γ)⟩ (all_cons ⟨call_V (n := 1) (T := TX2) (N := 2) (ok_X2_remember Γ) (rv_X2_remember (Γ := Γ)) rfl bw_495 bw_492 bw_493 bw_494 bw_45 no_X2_remember ⟨⟨rfl, rfl⟩, ⟨by decide, by decide⟩, ⟨by decide, by decide⟩⟩, fun z => by cases z⟩ (all_cons ⟨call_V (n := 0) (T := TX0) (N := 9) (ok_X0_drawTalk Γ) (rv_X0_drawTalk (Γ := Γ)) rfl bw_504 bw_501 bw_502 bw_503 bw_44 no_X0_drawTalk ⟨⟨rfl, rfl⟩, ⟨by decide, by decide⟩, ⟨by decide, by decide⟩⟩, fun z => by cases z⟩ (all_cons ⟨call_V (n := 0) (T := TX0) (N := 9) (ok_X0_passDay Γ) (rv_X0_passDay (Γ := Γ)) rfl bw_517 bw_514 bw_515 bw_516 bw_44 no_X0_passDay ⟨⟨rfl, rfl⟩, ⟨by decide, by decide⟩, ⟨by decide, by decide⟩⟩, fun z => by cases z⟩ (all_nil)))))
set_option maxRecDepth 20000 in
theorem ok_X6_live (Γ : Cx) : Ok Γ yX6_live mX6_live (sp_X6_live Γ) := by
  refine ok_intro (by decide +kernel) rfl rfl ?_
  intro av σ K h
  obtain ⟨a, b, lab, X, ψ, rfl, hW, hpre, h⟩ := h
  obtain ⟨x, sh, ⟨n0, n1, n2, n3⟩, ⟨t0, t1, t2, t3⟩, p, ⟨i0, i1, i2, i3⟩, ip, ⟨ta, tl⟩, ⟨pa, pk⟩, S⟩ := X
  obtain ⟨⟨w, kp, kd, day, gone, draw, P, rule, gd⟩, si, ⟨pc, pn⟩, ⟨qc, qn⟩, hi, ⟨l, len⟩, ss⟩ := ψ
  have hW0 := hW
  obtain ⟨⟨x1, x2, x3, x4⟩, x5, ⟨sf, x6, x7⟩, ⟨cN, lN⟩, ⟨⟨t, cT⟩, lT⟩, pP, ⟨cI, lI⟩, pI, ⟨⟨pl, tT⟩, lTp, hlen⟩, ⟨⟨pls, pPl⟩, lPl⟩, hS⟩ := hW
  simp only at cN lN cT lT pP cI lI pI tT lTp hlen pPl lPl hS x6 x7
  obtain ⟨⟨m1, m2, m3, m4⟩, e1, e2, e3, e4⟩ := id cN
  simp only [XE, ColE, iA] at x1 x2 x5 m1 m2 m3 m4 e1 e2 e3 e4
  unfold fn x_live at h
  simp only at h
  refine ⟨Nat.le_of_ble_eq_true rfl, yvc_ok (uX6_live Γ) (S := [41]) 60 _ _ _ _ ?_⟩
  simp only [lv_args, Value.category, x1, x5, m1, e1, sp_X6_within, bI_eq0, Bool.not_eq_false, yvc_s, s1i, s2i, s1l, s2l, sil, s1r, sir, siir, slir, srir, svr, sd1, sd2, lg, lput, ldel, isL_i, isL_r, isL_l, jmp, obj, obj1, fI, fR, arI, arL, arR, hput, f4_0, f4_1, f4_2, f4_3, lc_0, lc_1, rok_i, rok_b, rok_y, strF, fput_1, fput_2, csum_nil, csum_i, csum_l, csum_r, va_up_self, bx_uu, Int.reduceAdd, List.elem_nil, List.elem_cons, List.take_succ_cons, List.take_zero, List.drop_succ_cons, List.drop_zero, List.take_nil, List.drop_nil, List.reverse_cons, List.reverse_nil, List.nil_append, List.cons_append, List.append_nil, Option.toList_some, Option.toList_none, List.getElem?_cons_zero, List.getElem?_cons_succ, List.set_cons_zero, List.set_cons_succ, List.length_cons, List.length_nil, reduceIte, reduceCtorEq, and_true, true_and, and_self, or_true, true_or, false_and, and_false, not_true_eq_false, not_false_eq_true, true_implies, false_implies, implies_true, Nat.reduceAdd, Nat.reduceLT, Nat.reduceEqDiff, Nat.reduceLeDiff, Nat.reduceBEq, Nat.zero_add, Nat.lt_add_one, Bool.false_eq_true, Bool.or_false, Bool.or_true, Bool.or_self, Nat.zero_ne_one, Nat.one_ne_zero, ite_true, ite_false, ne_eq, Nat.reduceSub, Nat.succ_eq_add_one, Nat.zero_lt_succ, Nat.add_one_ne_zero, false_or, or_false, mX6_live_c, mX6_live_n, mX6_live_r, mX6_live_l, dX6_live_0, dX6_live_1, ic_1, dX6_live_2, bc_40, dX6_live_4, dX6_live_7, tg_7_5, cnd1_ne, dX6_live_10, ic_m1, dX6_live_11, dX6_live_12, dX6_live_13, fl_6_10_6, dX6_live_16, fl_6_115_0, dX6_live_19, dX6_live_20, dX6_live_21, sc_9999, dX6_live_24, tg_24_6, cnd2_le, dX6_live_27, bc_m3, dX6_live_29, dX6_live_30, dX6_live_31, dX6_live_34, fl_6_118_0, dX6_live_37, dX6_live_38, ic_0, dX6_live_39, dX6_live_41, dX6_live_43, dX6_live_44, tg_44_38, cnd2_ge, dX6_live_47, dX6_live_48, fl_6_22_6, dX6_live_51, dX6_live_52, dX6_live_55, dX6_live_58, dX6_live_59, tg_59_10, cnd1_eq, dX6_live_62, dX6_live_63, dX6_live_66, dX6_live_69, dX6_live_70, dX6_live_73, dX6_live_76, dX6_live_79, tg_79_m38, dX6_live_82, dX6_live_83, dX6_live_86, dX6_live_89, dX6_live_90, dX6_live_91, jX6_live_1_57, jX6_live_0_145, jX6_live_0_240, jX6_live_0_163, st_aload_n, st_bipush, st_getfield, st_goto, st_iadd, st_iconst, st_ifCond, st_if_icmp, st_iinc, st_iload, st_iload_n, st_invokestatic, st_invokevirtual, st_ireturn, st_istore, st_istore_n, st_isub, st_sipush]
  refine ⟨fun c1 => ⟨fun c2 => ?_, fun c2 => ?_⟩, fun c1 => ?_⟩
  · rw [if_pos c1, if_pos c2] at h
    obtain ⟨N, h0, hN, rfl⟩ := in1_n (B := 40) (by decide) c1
    rw [nI_clamp (show N < 2 ^ 31 by omega)] at h
    clear c1 c2 m1 m2 m3 m4 e1 e2 e3 e4 x1 x2 x5 x6 x7 cN pP cT cI pI tT pPl hS
    have loop : ∀ n j : Nat, ∀ σ1 : Hp, j + n = N → frm (fX lab) σ σ1 → XW Γ lab (x, sh, (n0, n1, n2, n3), (t0, t1, t2, t3), p, (i0, i1, i2, i3), ip, (ta, tl), (pa, pk), S) ((liv b ((w, kp, kd, day, gone, draw, P, rule, gd), pc, pn) j).1, si, (liv b ((w, kp, kd, day, gone, draw, P, rule, gd), pc, pn) j).2, (qc, qn), hi, (l, len), ss) σ1 → YG Γ mX6_live K 41 [(0, .ref x), (1, .int (nI N)), (2, .int (bI b)), (3, .int gone), (4, .int (nI j))] [] σ1 := by
      intro n
      induction n with
      | zero =>
        intro j σ1 hj hf1 hW1
        obtain rfl : j = N := by omega
        have hk := h σ1 _ _ rfl hf1 hW1
        generalize liv b ((w, kp, kd, day, gone, draw, P, rule, gd), pc, pn) j = z at hW1 hk ⊢
        obtain ⟨⟨w', kp', kd', day', gone', draw', P', rule', gd'⟩, pc', pn'⟩ := z
        obtain ⟨⟨y1, -⟩, y5, -, ⟨cN1, -⟩, -⟩ := id hW1
        obtain ⟨⟨u1, u2, u3, u4⟩, g1, g2, g3, g4⟩ := id cN1
        simp only [XE, ColE] at y1 y5 u1 g1
        refine yvc1_ok (uX6_live Γ) (S := [41]) 40 ?_
        simp only [yvc1, geP, y1, y5, u1, g1, yvc_s, s1i, s2i, s1l, s2l, sil, s1r, sir, siir, slir, srir, svr, sd1, sd2, lg, lput, ldel, isL_i, isL_r, isL_l, jmp, obj, obj1, fI, fR, arI, arL, arR, hput, f4_0, f4_1, f4_2, f4_3, lc_0, lc_1, rok_i, rok_b, rok_y, strF, fput_1, fput_2, csum_nil, csum_i, csum_l, csum_r, va_up_self, bx_uu, Int.reduceAdd, List.elem_nil, List.elem_cons, List.take_succ_cons, List.take_zero, List.drop_succ_cons, List.drop_zero, List.take_nil, List.drop_nil, List.reverse_cons, List.reverse_nil, List.nil_append, List.cons_append, List.append_nil, Option.toList_some, Option.toList_none, List.getElem?_cons_zero, List.getElem?_cons_succ, List.set_cons_zero, List.set_cons_succ, List.length_cons, List.length_nil, reduceIte, reduceCtorEq, and_true, true_and, and_self, or_true, true_or, false_and, and_false, not_true_eq_false, not_false_eq_true, true_implies, false_implies, implies_true, Nat.reduceAdd, Nat.reduceLT, Nat.reduceEqDiff, Nat.reduceLeDiff, Nat.reduceBEq, Nat.zero_add, Nat.lt_add_one, Bool.false_eq_true, Bool.or_false, Bool.or_true, Bool.or_self, Nat.zero_ne_one, Nat.one_ne_zero, ite_true, ite_false, ne_eq, Nat.reduceSub, Nat.succ_eq_add_one, Nat.zero_lt_succ, Nat.add_one_ne_zero, false_or, or_false, mX6_live_c, mX6_live_n, mX6_live_r, mX6_live_l, dX6_live_0, dX6_live_1, ic_1, dX6_live_2, bc_40, dX6_live_4, dX6_live_7, tg_7_5, cnd1_ne, dX6_live_10, ic_m1, dX6_live_11, dX6_live_12, dX6_live_13, fl_6_10_6, dX6_live_16, fl_6_115_0, dX6_live_19, dX6_live_20, dX6_live_21, sc_9999, dX6_live_24, tg_24_6, cnd2_le, dX6_live_27, bc_m3, dX6_live_29, dX6_live_30, dX6_live_31, dX6_live_34, fl_6_118_0, dX6_live_37, dX6_live_38, ic_0, dX6_live_39, dX6_live_41, dX6_live_43, dX6_live_44, tg_44_38, cnd2_ge, dX6_live_47, dX6_live_48, fl_6_22_6, dX6_live_51, dX6_live_52, dX6_live_55, dX6_live_58, dX6_live_59, tg_59_10, cnd1_eq, dX6_live_62, dX6_live_63, dX6_live_66, dX6_live_69, dX6_live_70, dX6_live_73, dX6_live_76, dX6_live_79, tg_79_m38, dX6_live_82, dX6_live_83, dX6_live_86, dX6_live_89, dX6_live_90, dX6_live_91, jX6_live_1_57, jX6_live_0_145, jX6_live_0_240, jX6_live_0_163, st_aload_n, st_bipush, st_getfield, st_goto, st_iadd, st_iconst, st_ifCond, st_if_icmp, st_iinc, st_iload, st_iload_n, st_invokestatic, st_invokevirtual, st_ireturn, st_istore, st_istore_n, st_isub, st_sipush]
        exact hk
      | succ n ih =>
        intro j σ1 hj hf1 hW1
        have c1 := ltN (show j < N by omega) (by omega)
        have hi1 := fun σ2 hf2 hW2 => ih (j + 1) σ2 (by omega) hf2 hW2
        have hwf : WfC (liv b ((w, kp, kd, day, gone, draw, P, rule, gd), pc, pn) j).1 := liv_wf (z := ((w, kp, kd, day, gone, draw, P, rule, gd), pc, pn)) hpre j
        rw [show liv b ((w, kp, kd, day, gone, draw, P, rule, gd), pc, pn) (j + 1) = lv1 b (liv b ((w, kp, kd, day, gone, draw, P, rule, gd), pc, pn) j) from rfl] at hi1
        generalize liv b ((w, kp, kd, day, gone, draw, P, rule, gd), pc, pn) j = z at hW1 hi1 hwf ⊢
        obtain ⟨s1, pc', pn'⟩ := z
        unfold lv1 at hi1
        simp only at hi1 hwf
        obtain ⟨⟨y1, -⟩, y5, -, ⟨cN1, -⟩, -, pP1, -⟩ := id hW1
        simp only [XE] at y1 y5 cN1 pP1
        refine yvc1_ok (uX6_live Γ) (S := [41]) 40 ?_
        simp only [yvc1, c1, y1, y5, yvc_s, s1i, s2i, s1l, s2l, sil, s1r, sir, siir, slir, srir, svr, sd1, sd2, lg, lput, ldel, isL_i, isL_r, isL_l, jmp, obj, obj1, fI, fR, arI, arL, arR, hput, f4_0, f4_1, f4_2, f4_3, lc_0, lc_1, rok_i, rok_b, rok_y, strF, fput_1, fput_2, csum_nil, csum_i, csum_l, csum_r, va_up_self, bx_uu, Int.reduceAdd, List.elem_nil, List.elem_cons, List.take_succ_cons, List.take_zero, List.drop_succ_cons, List.drop_zero, List.take_nil, List.drop_nil, List.reverse_cons, List.reverse_nil, List.nil_append, List.cons_append, List.append_nil, Option.toList_some, Option.toList_none, List.getElem?_cons_zero, List.getElem?_cons_succ, List.set_cons_zero, List.set_cons_succ, List.length_cons, List.length_nil, reduceIte, reduceCtorEq, and_true, true_and, and_self, or_true, true_or, false_and, and_false, not_true_eq_false, not_false_eq_true, true_implies, false_implies, implies_true, Nat.reduceAdd, Nat.reduceLT, Nat.reduceEqDiff, Nat.reduceLeDiff, Nat.reduceBEq, Nat.zero_add, Nat.lt_add_one, Bool.false_eq_true, Bool.or_false, Bool.or_true, Bool.or_self, Nat.zero_ne_one, Nat.one_ne_zero, ite_true, ite_false, ne_eq, Nat.reduceSub, Nat.succ_eq_add_one, Nat.zero_lt_succ, Nat.add_one_ne_zero, false_or, or_false, mX6_live_c, mX6_live_n, mX6_live_r, mX6_live_l, dX6_live_0, dX6_live_1, ic_1, dX6_live_2, bc_40, dX6_live_4, dX6_live_7, tg_7_5, cnd1_ne, dX6_live_10, ic_m1, dX6_live_11, dX6_live_12, dX6_live_13, fl_6_10_6, dX6_live_16, fl_6_115_0, dX6_live_19, dX6_live_20, dX6_live_21, sc_9999, dX6_live_24, tg_24_6, cnd2_le, dX6_live_27, bc_m3, dX6_live_29, dX6_live_30, dX6_live_31, dX6_live_34, fl_6_118_0, dX6_live_37, dX6_live_38, ic_0, dX6_live_39, dX6_live_41, dX6_live_43, dX6_live_44, tg_44_38, cnd2_ge, dX6_live_47, dX6_live_48, fl_6_22_6, dX6_live_51, dX6_live_52, dX6_live_55, dX6_live_58, dX6_live_59, tg_59_10, cnd1_eq, dX6_live_62, dX6_live_63, dX6_live_66, dX6_live_69, dX6_live_70, dX6_live_73, dX6_live_76, dX6_live_79, tg_79_m38, dX6_live_82, dX6_live_83, dX6_live_86, dX6_live_89, dX6_live_90, dX6_live_91, jX6_live_1_57, jX6_live_0_145, jX6_live_0_240, jX6_live_0_163, st_aload_n, st_bipush, st_getfield, st_goto, st_iadd, st_iconst, st_ifCond, st_if_icmp, st_iinc, st_iload, st_iload_n, st_invokestatic, st_invokevirtual, st_ireturn, st_istore, st_istore_n, st_isub, st_sipush]
        refine ⟨fL lab 3, p, pc', pn', (n0, n1, n2, n3), s1, rfl, pP1, cN1, disL lN (by decide), fun σ2 hf2 hP2 => ?_⟩
        have hW2 := hW1.sP hf2 hP2
        simp only at hW2
        have tail : ∀ (σ3 : Hp) (s3 : CS), WfC s3 → s3 = (if b = true then dtC s1 else s1) → frm (fX lab) σ σ3 → XW Γ lab (x, sh, (n0, n1, n2, n3), (t0, t1, t2, t3), p, (i0, i1, i2, i3), ip, (ta, tl), (pa, pk), S) (s3, si, (remM pc' pn' (mom s1), remN pn'), (qc, qn), hi, (l, len), ss) σ3 → YG Γ mX6_live K 69 [(0, .ref x), (1, .int (nI N)), (2, .int (bI b)), (3, .int gone), (4, .int (nI j))] [] σ3 := by
          intro σ3 s3 hw3 hs3 hf3 hW3
          obtain ⟨⟨z1, -⟩, z5, -, ⟨cN3, -⟩, -⟩ := id hW3
          simp only [XE] at z1 z5 cN3
          refine yvc_ok (uX6_live Γ) (S := [41]) 40 _ _ _ _ ?_
          simp only [z1, z5, yvc_s, s1i, s2i, s1l, s2l, sil, s1r, sir, siir, slir, srir, svr, sd1, sd2, lg, lput, ldel, isL_i, isL_r, isL_l, jmp, obj, obj1, fI, fR, arI, arL, arR, hput, f4_0, f4_1, f4_2, f4_3, lc_0, lc_1, rok_i, rok_b, rok_y, strF, fput_1, fput_2, csum_nil, csum_i, csum_l, csum_r, va_up_self, bx_uu, Int.reduceAdd, List.elem_nil, List.elem_cons, List.take_succ_cons, List.take_zero, List.drop_succ_cons, List.drop_zero, List.take_nil, List.drop_nil, List.reverse_cons, List.reverse_nil, List.nil_append, List.cons_append, List.append_nil, Option.toList_some, Option.toList_none, List.getElem?_cons_zero, List.getElem?_cons_succ, List.set_cons_zero, List.set_cons_succ, List.length_cons, List.length_nil, reduceIte, reduceCtorEq, and_true, true_and, and_self, or_true, true_or, false_and, and_false, not_true_eq_false, not_false_eq_true, true_implies, false_implies, implies_true, Nat.reduceAdd, Nat.reduceLT, Nat.reduceEqDiff, Nat.reduceLeDiff, Nat.reduceBEq, Nat.zero_add, Nat.lt_add_one, Bool.false_eq_true, Bool.or_false, Bool.or_true, Bool.or_self, Nat.zero_ne_one, Nat.one_ne_zero, ite_true, ite_false, ne_eq, Nat.reduceSub, Nat.succ_eq_add_one, Nat.zero_lt_succ, Nat.add_one_ne_zero, false_or, or_false, mX6_live_c, mX6_live_n, mX6_live_r, mX6_live_l, dX6_live_0, dX6_live_1, ic_1, dX6_live_2, bc_40, dX6_live_4, dX6_live_7, tg_7_5, cnd1_ne, dX6_live_10, ic_m1, dX6_live_11, dX6_live_12, dX6_live_13, fl_6_10_6, dX6_live_16, fl_6_115_0, dX6_live_19, dX6_live_20, dX6_live_21, sc_9999, dX6_live_24, tg_24_6, cnd2_le, dX6_live_27, bc_m3, dX6_live_29, dX6_live_30, dX6_live_31, dX6_live_34, fl_6_118_0, dX6_live_37, dX6_live_38, ic_0, dX6_live_39, dX6_live_41, dX6_live_43, dX6_live_44, tg_44_38, cnd2_ge, dX6_live_47, dX6_live_48, fl_6_22_6, dX6_live_51, dX6_live_52, dX6_live_55, dX6_live_58, dX6_live_59, tg_59_10, cnd1_eq, dX6_live_62, dX6_live_63, dX6_live_66, dX6_live_69, dX6_live_70, dX6_live_73, dX6_live_76, dX6_live_79, tg_79_m38, dX6_live_82, dX6_live_83, dX6_live_86, dX6_live_89, dX6_live_90, dX6_live_91, jX6_live_1_57, jX6_live_0_145, jX6_live_0_240, jX6_live_0_163, st_aload_n, st_bipush, st_getfield, st_goto, st_iadd, st_iconst, st_ifCond, st_if_icmp, st_iinc, st_iload, st_iload_n, st_invokestatic, st_invokevirtual, st_ireturn, st_istore, st_istore_n, st_isub, st_sipush]
          refine ⟨(n0, n1, n2, n3), s3, rfl, hw3, cN3, ?_⟩
          have hW4 := hW3.sN (csetL (Γ := Γ) lN) (cN3.set (dayC s3))
          rw [← hs3] at hi1
          have hy := hi1 _ (hf3.tr (frmX (csetL lN) (by decide))) hW4
          refine yvc_ok (uX6_live Γ) (S := [41]) 40 _ _ _ _ ?_
          simp only [nI_1, yvc_s, s1i, s2i, s1l, s2l, sil, s1r, sir, siir, slir, srir, svr, sd1, sd2, lg, lput, ldel, isL_i, isL_r, isL_l, jmp, obj, obj1, fI, fR, arI, arL, arR, hput, f4_0, f4_1, f4_2, f4_3, lc_0, lc_1, rok_i, rok_b, rok_y, strF, fput_1, fput_2, csum_nil, csum_i, csum_l, csum_r, va_up_self, bx_uu, Int.reduceAdd, List.elem_nil, List.elem_cons, List.take_succ_cons, List.take_zero, List.drop_succ_cons, List.drop_zero, List.take_nil, List.drop_nil, List.reverse_cons, List.reverse_nil, List.nil_append, List.cons_append, List.append_nil, Option.toList_some, Option.toList_none, List.getElem?_cons_zero, List.getElem?_cons_succ, List.set_cons_zero, List.set_cons_succ, List.length_cons, List.length_nil, reduceIte, reduceCtorEq, and_true, true_and, and_self, or_true, true_or, false_and, and_false, not_true_eq_false, not_false_eq_true, true_implies, false_implies, implies_true, Nat.reduceAdd, Nat.reduceLT, Nat.reduceEqDiff, Nat.reduceLeDiff, Nat.reduceBEq, Nat.zero_add, Nat.lt_add_one, Bool.false_eq_true, Bool.or_false, Bool.or_true, Bool.or_self, Nat.zero_ne_one, Nat.one_ne_zero, ite_true, ite_false, ne_eq, Nat.reduceSub, Nat.succ_eq_add_one, Nat.zero_lt_succ, Nat.add_one_ne_zero, false_or, or_false, mX6_live_c, mX6_live_n, mX6_live_r, mX6_live_l, dX6_live_0, dX6_live_1, ic_1, dX6_live_2, bc_40, dX6_live_4, dX6_live_7, tg_7_5, cnd1_ne, dX6_live_10, ic_m1, dX6_live_11, dX6_live_12, dX6_live_13, fl_6_10_6, dX6_live_16, fl_6_115_0, dX6_live_19, dX6_live_20, dX6_live_21, sc_9999, dX6_live_24, tg_24_6, cnd2_le, dX6_live_27, bc_m3, dX6_live_29, dX6_live_30, dX6_live_31, dX6_live_34, fl_6_118_0, dX6_live_37, dX6_live_38, ic_0, dX6_live_39, dX6_live_41, dX6_live_43, dX6_live_44, tg_44_38, cnd2_ge, dX6_live_47, dX6_live_48, fl_6_22_6, dX6_live_51, dX6_live_52, dX6_live_55, dX6_live_58, dX6_live_59, tg_59_10, cnd1_eq, dX6_live_62, dX6_live_63, dX6_live_66, dX6_live_69, dX6_live_70, dX6_live_73, dX6_live_76, dX6_live_79, tg_79_m38, dX6_live_82, dX6_live_83, dX6_live_86, dX6_live_89, dX6_live_90, dX6_live_91, jX6_live_1_57, jX6_live_0_145, jX6_live_0_240, jX6_live_0_163, st_aload_n, st_bipush, st_getfield, st_goto, st_iadd, st_iconst, st_ifCond, st_if_icmp, st_iinc, st_iload, st_iload_n, st_invokestatic, st_invokevirtual, st_ireturn, st_istore, st_istore_n, st_isub, st_sipush]
          exact hy
        obtain ⟨⟨z1, -⟩, z5, -, ⟨cN2, -⟩, -⟩ := id hW2
        simp only [XE] at z1 z5 cN2
        refine yvc_ok (uX6_live Γ) (S := [41, 69]) 40 _ _ _ _ ?_
        simp only [z1, z5, bI_eq0, Bool.not_eq_false, yvc_s, s1i, s2i, s1l, s2l, sil, s1r, sir, siir, slir, srir, svr, sd1, sd2, lg, lput, ldel, isL_i, isL_r, isL_l, jmp, obj, obj1, fI, fR, arI, arL, arR, hput, f4_0, f4_1, f4_2, f4_3, lc_0, lc_1, rok_i, rok_b, rok_y, strF, fput_1, fput_2, csum_nil, csum_i, csum_l, csum_r, va_up_self, bx_uu, Int.reduceAdd, List.elem_nil, List.elem_cons, List.take_succ_cons, List.take_zero, List.drop_succ_cons, List.drop_zero, List.take_nil, List.drop_nil, List.reverse_cons, List.reverse_nil, List.nil_append, List.cons_append, List.append_nil, Option.toList_some, Option.toList_none, List.getElem?_cons_zero, List.getElem?_cons_succ, List.set_cons_zero, List.set_cons_succ, List.length_cons, List.length_nil, reduceIte, reduceCtorEq, and_true, true_and, and_self, or_true, true_or, false_and, and_false, not_true_eq_false, not_false_eq_true, true_implies, false_implies, implies_true, Nat.reduceAdd, Nat.reduceLT, Nat.reduceEqDiff, Nat.reduceLeDiff, Nat.reduceBEq, Nat.zero_add, Nat.lt_add_one, Bool.false_eq_true, Bool.or_false, Bool.or_true, Bool.or_self, Nat.zero_ne_one, Nat.one_ne_zero, ite_true, ite_false, ne_eq, Nat.reduceSub, Nat.succ_eq_add_one, Nat.zero_lt_succ, Nat.add_one_ne_zero, false_or, or_false, mX6_live_c, mX6_live_n, mX6_live_r, mX6_live_l, dX6_live_0, dX6_live_1, ic_1, dX6_live_2, bc_40, dX6_live_4, dX6_live_7, tg_7_5, cnd1_ne, dX6_live_10, ic_m1, dX6_live_11, dX6_live_12, dX6_live_13, fl_6_10_6, dX6_live_16, fl_6_115_0, dX6_live_19, dX6_live_20, dX6_live_21, sc_9999, dX6_live_24, tg_24_6, cnd2_le, dX6_live_27, bc_m3, dX6_live_29, dX6_live_30, dX6_live_31, dX6_live_34, fl_6_118_0, dX6_live_37, dX6_live_38, ic_0, dX6_live_39, dX6_live_41, dX6_live_43, dX6_live_44, tg_44_38, cnd2_ge, dX6_live_47, dX6_live_48, fl_6_22_6, dX6_live_51, dX6_live_52, dX6_live_55, dX6_live_58, dX6_live_59, tg_59_10, cnd1_eq, dX6_live_62, dX6_live_63, dX6_live_66, dX6_live_69, dX6_live_70, dX6_live_73, dX6_live_76, dX6_live_79, tg_79_m38, dX6_live_82, dX6_live_83, dX6_live_86, dX6_live_89, dX6_live_90, dX6_live_91, jX6_live_1_57, jX6_live_0_145, jX6_live_0_240, jX6_live_0_163, st_aload_n, st_bipush, st_getfield, st_goto, st_iadd, st_iconst, st_ifCond, st_if_icmp, st_iinc, st_iload, st_iload_n, st_invokestatic, st_invokevirtual, st_ireturn, st_istore, st_istore_n, st_isub, st_sipush]
        refine ⟨fun c2 => ?_, fun c2 => ?_⟩
        · exact tail σ2 s1 hwf (by rw [if_neg (by rw [c2]; decide)]) (hf1.tr (frmX hf2 (by decide))) hW2
        · refine ⟨(n0, n1, n2, n3), s1, rfl, hwf, cN2, ?_⟩
          have hW3 := hW2.sN (csetL (Γ := Γ) lN) (cN2.set (dtC s1))
          have hy := tail _ (dtC s1) (dtC_wf hwf).1 (by rw [if_pos c2]) ((hf1.tr (frmX hf2 (by decide))).tr (frmX (csetL lN) (by decide))) hW3
          refine yvc_ok (uX6_live Γ) (S := [41, 69]) 40 _ _ _ _ ?_
          simp only [yvc_s, s1i, s2i, s1l, s2l, sil, s1r, sir, siir, slir, srir, svr, sd1, sd2, lg, lput, ldel, isL_i, isL_r, isL_l, jmp, obj, obj1, fI, fR, arI, arL, arR, hput, f4_0, f4_1, f4_2, f4_3, lc_0, lc_1, rok_i, rok_b, rok_y, strF, fput_1, fput_2, csum_nil, csum_i, csum_l, csum_r, va_up_self, bx_uu, Int.reduceAdd, List.elem_nil, List.elem_cons, List.take_succ_cons, List.take_zero, List.drop_succ_cons, List.drop_zero, List.take_nil, List.drop_nil, List.reverse_cons, List.reverse_nil, List.nil_append, List.cons_append, List.append_nil, Option.toList_some, Option.toList_none, List.getElem?_cons_zero, List.getElem?_cons_succ, List.set_cons_zero, List.set_cons_succ, List.length_cons, List.length_nil, reduceIte, reduceCtorEq, and_true, true_and, and_self, or_true, true_or, false_and, and_false, not_true_eq_false, not_false_eq_true, true_implies, false_implies, implies_true, Nat.reduceAdd, Nat.reduceLT, Nat.reduceEqDiff, Nat.reduceLeDiff, Nat.reduceBEq, Nat.zero_add, Nat.lt_add_one, Bool.false_eq_true, Bool.or_false, Bool.or_true, Bool.or_self, Nat.zero_ne_one, Nat.one_ne_zero, ite_true, ite_false, ne_eq, Nat.reduceSub, Nat.succ_eq_add_one, Nat.zero_lt_succ, Nat.add_one_ne_zero, false_or, or_false, mX6_live_c, mX6_live_n, mX6_live_r, mX6_live_l, dX6_live_0, dX6_live_1, ic_1, dX6_live_2, bc_40, dX6_live_4, dX6_live_7, tg_7_5, cnd1_ne, dX6_live_10, ic_m1, dX6_live_11, dX6_live_12, dX6_live_13, fl_6_10_6, dX6_live_16, fl_6_115_0, dX6_live_19, dX6_live_20, dX6_live_21, sc_9999, dX6_live_24, tg_24_6, cnd2_le, dX6_live_27, bc_m3, dX6_live_29, dX6_live_30, dX6_live_31, dX6_live_34, fl_6_118_0, dX6_live_37, dX6_live_38, ic_0, dX6_live_39, dX6_live_41, dX6_live_43, dX6_live_44, tg_44_38, cnd2_ge, dX6_live_47, dX6_live_48, fl_6_22_6, dX6_live_51, dX6_live_52, dX6_live_55, dX6_live_58, dX6_live_59, tg_59_10, cnd1_eq, dX6_live_62, dX6_live_63, dX6_live_66, dX6_live_69, dX6_live_70, dX6_live_73, dX6_live_76, dX6_live_79, tg_79_m38, dX6_live_82, dX6_live_83, dX6_live_86, dX6_live_89, dX6_live_90, dX6_live_91, jX6_live_1_57, jX6_live_0_145, jX6_live_0_240, jX6_live_0_163, st_aload_n, st_bipush, st_getfield, st_goto, st_iadd, st_iconst, st_ifCond, st_if_icmp, st_iinc, st_iload, st_iload_n, st_invokestatic, st_invokevirtual, st_ireturn, st_istore, st_istore_n, st_isub, st_sipush]
          exact hy
    exact loop N 0 σ (by omega) frm.rf hW0
  · rw [if_pos c1, if_neg c2] at h
    exact h σ _ _ rfl frm.rf hW0
  · rw [if_neg c1] at h
    exact h σ _ _ rfl frm.rf hW0
def sp_X6_days (Γ : Cx) : YSp := fun av σ K => ∃ a : Int32, xq Γ [.int a] (fn (x_live a false)) PX av σ K
theorem rv_X6_days {Γ : Cx} : Recv (sp_X6_days Γ) 1 6 := by
  intro av σ K h
  obtain ⟨a, h⟩ := h
  obtain ⟨q, fs, h1, h2, h3⟩ := rv_xq h
  exact ⟨q, _, fs, h1, rfl, h2, h3⟩
theorem bw_491 : Cond.code yX6_live cX6_live 5 (some .int) ∈ BW := bw_i 491 (by decide +kernel) (by decide +kernel)
theorem no_X6_live : NameOK yX6_live 2 := by unfold NameOK; decide +kernel
theorem bw_488 : Cond.methodLink RX6 141 yX6_live ∈ BW := bw_i 488 (by decide +kernel) (by decide +kernel)
theorem bw_490 : Cond.instanceMethod yX6_live ∈ BW := bw_i 490 (by decide +kernel) (by decide +kernel)
theorem bw_8 : Cond.selects RX6 yX6_live yX6_live ∈ BW := bw_i 8 (by decide +kernel) (by decide +kernel)
def mX6_days : Mt := (⟨5, 0, 0, 126⟩, RX6, cX6_days, 2, some .int, (0, 0), none)
theorem mX6_days_c : mX6_days.2.2.1 = cX6_days := rfl
theorem mX6_days_n : mX6_days.2.2.2.1 = 2 := rfl
theorem mX6_days_r : mX6_days.2.2.2.2.1 = some .int := rfl
theorem mX6_days_l : mX6_days.2.2.2.2.2.2 = none := rfl
def jX6_days (Γ : Cx) : List ((Nat × Nat) × Nat × Bool × YSp) := [((0, 141), 3, false, sp_X6_live Γ)]
theorem jX6_days_0_141 (Γ : Cx) : kT (jX6_days Γ) 0 141 = some (3, false, sp_X6_live Γ) := rfl
theorem uX6_days (Γ : Cx) : TbOK Γ mX6_days (fT fX6, cT kX6, kT (jX6_days Γ)) := tb_ok fX6_ok kX6_ok (all_cons ⟨call_V (n := 2) (T := TX6) (N := 9) (ok_X6_live Γ) (rv_X6_live (Γ := Γ)) rfl bw_491 bw_488 bw_490 bw_8 bw_42 no_X6_live ⟨⟨rfl, rfl⟩, ⟨by decide, by decide⟩, ⟨by decide, by decide⟩⟩, fun z => by cases z⟩ (all_nil))
set_option maxRecDepth 20000 in
theorem ok_X6_days (Γ : Cx) : Ok Γ yX6_days mX6_days (sp_X6_days Γ) := by
  refine ok_intro (by decide +kernel) rfl rfl ?_
  intro av σ K h
  obtain ⟨a, lab, X, ψ, rfl, hW, hpre, h⟩ := h
  refine ⟨Nat.le_of_ble_eq_true rfl, yvc_ok (uX6_days Γ) (S := []) 60 _ _ _ _ ?_⟩
  simp only [lv_args, Value.category, yvc_s, s1i, s2i, s1l, s2l, sil, s1r, sir, siir, slir, srir, svr, sd1, sd2, lg, lput, ldel, isL_i, isL_r, isL_l, jmp, obj, obj1, fI, fR, arI, arL, arR, hput, f4_0, f4_1, f4_2, f4_3, lc_0, lc_1, rok_i, rok_b, rok_y, strF, fput_1, fput_2, csum_nil, csum_i, csum_l, csum_r, va_up_self, bx_uu, Int.reduceAdd, List.elem_nil, List.elem_cons, List.take_succ_cons, List.take_zero, List.drop_succ_cons, List.drop_zero, List.take_nil, List.drop_nil, List.reverse_cons, List.reverse_nil, List.nil_append, List.cons_append, List.append_nil, Option.toList_some, Option.toList_none, List.getElem?_cons_zero, List.getElem?_cons_succ, List.set_cons_zero, List.set_cons_succ, List.length_cons, List.length_nil, reduceIte, reduceCtorEq, and_true, true_and, and_self, or_true, true_or, false_and, and_false, not_true_eq_false, not_false_eq_true, true_implies, false_implies, implies_true, Nat.reduceAdd, Nat.reduceLT, Nat.reduceEqDiff, Nat.reduceLeDiff, Nat.reduceBEq, Nat.zero_add, Nat.lt_add_one, Bool.false_eq_true, Bool.or_false, Bool.or_true, Bool.or_self, Nat.zero_ne_one, Nat.one_ne_zero, ite_true, ite_false, ne_eq, Nat.reduceSub, Nat.succ_eq_add_one, Nat.zero_lt_succ, Nat.add_one_ne_zero, false_or, or_false, mX6_days_c, mX6_days_n, mX6_days_r, mX6_days_l, dX6_days_0, dX6_days_1, dX6_days_2, ic_0, dX6_days_3, dX6_days_6, jX6_days_0_141, st_aload_n, st_iconst, st_iload_n, st_invokevirtual, st_ireturn]
  refine ⟨a, false, lab, X, ψ, rfl, hW, hpre, fun σ' ψ' r hr hf hW' => ?_⟩
  refine yvc_ok (uX6_days Γ) (S := []) 60 _ _ _ _ ?_
  simp only [yvc_s, s1i, s2i, s1l, s2l, sil, s1r, sir, siir, slir, srir, svr, sd1, sd2, lg, lput, ldel, isL_i, isL_r, isL_l, jmp, obj, obj1, fI, fR, arI, arL, arR, hput, f4_0, f4_1, f4_2, f4_3, lc_0, lc_1, rok_i, rok_b, rok_y, strF, fput_1, fput_2, csum_nil, csum_i, csum_l, csum_r, va_up_self, bx_uu, Int.reduceAdd, List.elem_nil, List.elem_cons, List.take_succ_cons, List.take_zero, List.drop_succ_cons, List.drop_zero, List.take_nil, List.drop_nil, List.reverse_cons, List.reverse_nil, List.nil_append, List.cons_append, List.append_nil, Option.toList_some, Option.toList_none, List.getElem?_cons_zero, List.getElem?_cons_succ, List.set_cons_zero, List.set_cons_succ, List.length_cons, List.length_nil, reduceIte, reduceCtorEq, and_true, true_and, and_self, or_true, true_or, false_and, and_false, not_true_eq_false, not_false_eq_true, true_implies, false_implies, implies_true, Nat.reduceAdd, Nat.reduceLT, Nat.reduceEqDiff, Nat.reduceLeDiff, Nat.reduceBEq, Nat.zero_add, Nat.lt_add_one, Bool.false_eq_true, Bool.or_false, Bool.or_true, Bool.or_self, Nat.zero_ne_one, Nat.one_ne_zero, ite_true, ite_false, ne_eq, Nat.reduceSub, Nat.succ_eq_add_one, Nat.zero_lt_succ, Nat.add_one_ne_zero, false_or, or_false, mX6_days_c, mX6_days_n, mX6_days_r, mX6_days_l, dX6_days_0, dX6_days_1, dX6_days_2, ic_0, dX6_days_3, dX6_days_6, jX6_days_0_141, st_aload_n, st_iconst, st_iload_n, st_invokevirtual, st_ireturn]
  exact h σ' ψ' r hr hf hW'
def sp_X6_drift (Γ : Cx) : YSp := fun av σ K => ∃ a : Int32, xq Γ [.int a] (fn (x_live a true)) PX av σ K
theorem rv_X6_drift {Γ : Cx} : Recv (sp_X6_drift Γ) 1 6 := by
  intro av σ K h
  obtain ⟨a, h⟩ := h
  obtain ⟨q, fs, h1, h2, h3⟩ := rv_xq h
  exact ⟨q, _, fs, h1, rfl, h2, h3⟩
def mX6_drift : Mt := (⟨5, 0, 0, 126⟩, RX6, cX6_drift, 2, some .int, (0, 0), none)
theorem mX6_drift_c : mX6_drift.2.2.1 = cX6_drift := rfl
theorem mX6_drift_n : mX6_drift.2.2.2.1 = 2 := rfl
theorem mX6_drift_r : mX6_drift.2.2.2.2.1 = some .int := rfl
theorem mX6_drift_l : mX6_drift.2.2.2.2.2.2 = none := rfl
def jX6_drift (Γ : Cx) : List ((Nat × Nat) × Nat × Bool × YSp) := [((0, 141), 3, false, sp_X6_live Γ)]
theorem jX6_drift_0_141 (Γ : Cx) : kT (jX6_drift Γ) 0 141 = some (3, false, sp_X6_live Γ) := rfl
theorem uX6_drift (Γ : Cx) : TbOK Γ mX6_drift (fT fX6, cT kX6, kT (jX6_drift Γ)) := tb_ok fX6_ok kX6_ok (all_cons ⟨call_V (n := 2) (T := TX6) (N := 9) (ok_X6_live Γ) (rv_X6_live (Γ := Γ)) rfl bw_491 bw_488 bw_490 bw_8 bw_42 no_X6_live ⟨⟨rfl, rfl⟩, ⟨by decide, by decide⟩, ⟨by decide, by decide⟩⟩, fun z => by cases z⟩ (all_nil))
set_option maxRecDepth 20000 in
theorem ok_X6_drift (Γ : Cx) : Ok Γ yX6_drift mX6_drift (sp_X6_drift Γ) := by
  refine ok_intro (by decide +kernel) rfl rfl ?_
  intro av σ K h
  obtain ⟨a, lab, X, ψ, rfl, hW, hpre, h⟩ := h
  refine ⟨Nat.le_of_ble_eq_true rfl, yvc_ok (uX6_drift Γ) (S := []) 60 _ _ _ _ ?_⟩
  simp only [lv_args, Value.category, yvc_s, s1i, s2i, s1l, s2l, sil, s1r, sir, siir, slir, srir, svr, sd1, sd2, lg, lput, ldel, isL_i, isL_r, isL_l, jmp, obj, obj1, fI, fR, arI, arL, arR, hput, f4_0, f4_1, f4_2, f4_3, lc_0, lc_1, rok_i, rok_b, rok_y, strF, fput_1, fput_2, csum_nil, csum_i, csum_l, csum_r, va_up_self, bx_uu, Int.reduceAdd, List.elem_nil, List.elem_cons, List.take_succ_cons, List.take_zero, List.drop_succ_cons, List.drop_zero, List.take_nil, List.drop_nil, List.reverse_cons, List.reverse_nil, List.nil_append, List.cons_append, List.append_nil, Option.toList_some, Option.toList_none, List.getElem?_cons_zero, List.getElem?_cons_succ, List.set_cons_zero, List.set_cons_succ, List.length_cons, List.length_nil, reduceIte, reduceCtorEq, and_true, true_and, and_self, or_true, true_or, false_and, and_false, not_true_eq_false, not_false_eq_true, true_implies, false_implies, implies_true, Nat.reduceAdd, Nat.reduceLT, Nat.reduceEqDiff, Nat.reduceLeDiff, Nat.reduceBEq, Nat.zero_add, Nat.lt_add_one, Bool.false_eq_true, Bool.or_false, Bool.or_true, Bool.or_self, Nat.zero_ne_one, Nat.one_ne_zero, ite_true, ite_false, ne_eq, Nat.reduceSub, Nat.succ_eq_add_one, Nat.zero_lt_succ, Nat.add_one_ne_zero, false_or, or_false, mX6_drift_c, mX6_drift_n, mX6_drift_r, mX6_drift_l, dX6_drift_0, dX6_drift_1, dX6_drift_2, ic_1, dX6_drift_3, dX6_drift_6, jX6_drift_0_141, st_aload_n, st_iconst, st_iload_n, st_invokevirtual, st_ireturn]
  refine ⟨a, true, lab, X, ψ, rfl, hW, hpre, fun σ' ψ' r hr hf hW' => ?_⟩
  refine yvc_ok (uX6_drift Γ) (S := []) 60 _ _ _ _ ?_
  simp only [yvc_s, s1i, s2i, s1l, s2l, sil, s1r, sir, siir, slir, srir, svr, sd1, sd2, lg, lput, ldel, isL_i, isL_r, isL_l, jmp, obj, obj1, fI, fR, arI, arL, arR, hput, f4_0, f4_1, f4_2, f4_3, lc_0, lc_1, rok_i, rok_b, rok_y, strF, fput_1, fput_2, csum_nil, csum_i, csum_l, csum_r, va_up_self, bx_uu, Int.reduceAdd, List.elem_nil, List.elem_cons, List.take_succ_cons, List.take_zero, List.drop_succ_cons, List.drop_zero, List.take_nil, List.drop_nil, List.reverse_cons, List.reverse_nil, List.nil_append, List.cons_append, List.append_nil, Option.toList_some, Option.toList_none, List.getElem?_cons_zero, List.getElem?_cons_succ, List.set_cons_zero, List.set_cons_succ, List.length_cons, List.length_nil, reduceIte, reduceCtorEq, and_true, true_and, and_self, or_true, true_or, false_and, and_false, not_true_eq_false, not_false_eq_true, true_implies, false_implies, implies_true, Nat.reduceAdd, Nat.reduceLT, Nat.reduceEqDiff, Nat.reduceLeDiff, Nat.reduceBEq, Nat.zero_add, Nat.lt_add_one, Bool.false_eq_true, Bool.or_false, Bool.or_true, Bool.or_self, Nat.zero_ne_one, Nat.one_ne_zero, ite_true, ite_false, ne_eq, Nat.reduceSub, Nat.succ_eq_add_one, Nat.zero_lt_succ, Nat.add_one_ne_zero, false_or, or_false, mX6_drift_c, mX6_drift_n, mX6_drift_r, mX6_drift_l, dX6_drift_0, dX6_drift_1, dX6_drift_2, ic_1, dX6_drift_3, dX6_drift_6, jX6_drift_0_141, st_aload_n, st_iconst, st_iload_n, st_invokevirtual, st_ireturn]
  exact h σ' ψ' r hr hf hW'
/-! foretold -/
theorem bec_wf {t s : CS} (h : WfC s) : WfC (bec t s) := by
  refine ⟨h.1, fun d hd => ?_⟩
  show cpN 4 s.2.1 t.2.1 d = -4 ∨ ∃ q, q < s.2.2.2.2.2.2.1 ∧ cpN 4 s.2.1 t.2.1 d = nI q
  rw [cpN_in hd]
  exact h.2 d hd
def sp_X6_foretell (Γ : Cx) : YSp := fun av σ K => ∃ (lab : Nat → Nat) (X : XA) (ψ : XS) (N : Nat), av = [.ref X.1, .int (nI N)] ∧ N < 100 ∧ XW Γ lab X ψ σ ∧ PX ψ ∧ ∀ (σ' : Hp) (t : CS), frm (fL lab 2) σ σ' → XW Γ lab X ψ σ' → Col Γ X.2.2.2.1 (daysC (bec t ψ.1) N) σ' → K none σ'
theorem rv_X6_foretell {Γ : Cx} : Recv (sp_X6_foretell Γ) 1 6 := by
  intro av σ K h
  obtain ⟨lab, X, ψ, N, rfl, hN, hW, -⟩ := h
  obtain ⟨fs, h1, h2⟩ := x_rv hW
  exact ⟨_, _, fs, rfl, rfl, h1, h2⟩
theorem bw_448 : Cond.methodLink RX6 124 yX0_become ∈ BW := bw_i 448 (by decide +kernel) (by decide +kernel)
theorem bw_560 : Cond.code yX0_passDays cX0_passDays 3 none ∈ BW := bw_i 560 (by decide +kernel) (by decide +kernel)
theorem no_X0_passDays : NameOK yX0_passDays 1 := by unfold NameOK; decide +kernel
theorem bw_557 : Cond.methodLink RX6 181 yX0_passDays ∈ BW := bw_i 557 (by decide +kernel) (by decide +kernel)
theorem bw_558 : Cond.instanceMethod yX0_passDays ∈ BW := bw_i 558 (by decide +kernel) (by decide +kernel)
theorem bw_559 : Cond.selects RX0 yX0_passDays yX0_passDays ∈ BW := bw_i 559 (by decide +kernel) (by decide +kernel)
def mX6_foretell : Mt := (⟨5, 0, 0, 112⟩, RX6, cX6_foretell, 2, none, (0, 0), none)
theorem mX6_foretell_c : mX6_foretell.2.2.1 = cX6_foretell := rfl
theorem mX6_foretell_n : mX6_foretell.2.2.2.1 = 2 := rfl
theorem mX6_foretell_r : mX6_foretell.2.2.2.2.1 = none := rfl
theorem mX6_foretell_l : mX6_foretell.2.2.2.2.2.2 = none := rfl
def jX6_foretell (Γ : Cx) : List ((Nat × Nat) × Nat × Bool × YSp) := [((0, 124), 2, false, sp_X0_become Γ), ((0, 181), 2, false, sp_X0_passDays Γ)]
theorem jX6_foretell_0_124 (Γ : Cx) : kT (jX6_foretell Γ) 0 124 = some (2, false, sp_X0_become Γ) := rfl
theorem jX6_foretell_0_181 (Γ : Cx) : kT (jX6_foretell Γ) 0 181 = some (2, false, sp_X0_passDays Γ) := rfl
theorem uX6_foretell (Γ : Cx) : TbOK Γ mX6_foretell (fT fX6, cT kX6, kT (jX6_foretell Γ)) := tb_ok fX6_ok kX6_ok (all_cons ⟨call_V (n := 1) (T := TX0) (N := 9) (ok_X0_become Γ) (rv_X0_become (Γ := Γ)) rfl bw_451 bw_448 bw_449 bw_450 bw_44 no_X0_become ⟨⟨rfl, rfl⟩, ⟨by decide, by decide⟩, ⟨by decide, by decide⟩⟩, fun z => by cases z⟩ (all_cons ⟨call_V (n := 1) (T := TX0) (N := 9) (ok_X0_passDays Γ) (rv_X0_passDays (Γ := Γ)) rfl bw_560 bw_557 bw_558 bw_559 bw_44 no_X0_passDays ⟨⟨rfl, rfl⟩, ⟨by decide, by decide⟩, ⟨by decide, by decide⟩⟩, fun z => by cases z⟩ (all_nil)))
set_option maxRecDepth 20000 in
theorem ok_X6_foretell (Γ : Cx) : Ok Γ yX6_foretell mX6_foretell (sp_X6_foretell Γ) := by
  refine ok_intro (by decide +kernel) rfl rfl ?_
  intro av σ K h
  obtain ⟨lab, X, ψ, N, rfl, hN, hW, hpre, h⟩ := h
  obtain ⟨x, sh, ⟨n0, n1, n2, n3⟩, ⟨t0, t1, t2, t3⟩, p, ⟨i0, i1, i2, i3⟩, ip, ⟨ta, tl⟩, ⟨pa, pk⟩, S⟩ := X
  obtain ⟨⟨w, kp, kd, day, gone, draw, P, rule, gd⟩, si, ⟨pc, pn⟩, ⟨qc, qn⟩, hi, ⟨l, len⟩, ss⟩ := ψ
  have hW0 := hW
  obtain ⟨⟨x1, x2, x3, x4⟩, x5, ⟨sf, x6, x7⟩, ⟨cN, lN⟩, ⟨⟨t, cT⟩, lT⟩, pP, ⟨cI, lI⟩, pI, ⟨⟨pl, tT⟩, lTp, hlen⟩, ⟨⟨pls, pPl⟩, lPl⟩, hS⟩ := hW
  simp only at cN lN cT lT pP cI lI pI tT lTp hlen pPl lPl hS x6 x7
  obtain ⟨⟨m1, m2, m3, m4⟩, e1, e2, e3, e4⟩ := id cN
  simp only [XE, ColE, iA] at x1 x2 x5 m1 m2 m3 m4 e1 e2 e3 e4
  refine ⟨Nat.le_of_ble_eq_true rfl, yvc_ok (uX6_foretell Γ) (S := []) 60 _ _ _ _ ?_⟩
  simp only [lv_args, Value.category, x1, x5, yvc_s, s1i, s2i, s1l, s2l, sil, s1r, sir, siir, slir, srir, svr, sd1, sd2, lg, lput, ldel, isL_i, isL_r, isL_l, jmp, obj, obj1, fI, fR, arI, arL, arR, hput, f4_0, f4_1, f4_2, f4_3, lc_0, lc_1, rok_i, rok_b, rok_y, strF, fput_1, fput_2, csum_nil, csum_i, csum_l, csum_r, va_up_self, bx_uu, Int.reduceAdd, List.elem_nil, List.elem_cons, List.take_succ_cons, List.take_zero, List.drop_succ_cons, List.drop_zero, List.take_nil, List.drop_nil, List.reverse_cons, List.reverse_nil, List.nil_append, List.cons_append, List.append_nil, Option.toList_some, Option.toList_none, List.getElem?_cons_zero, List.getElem?_cons_succ, List.set_cons_zero, List.set_cons_succ, List.length_cons, List.length_nil, reduceIte, reduceCtorEq, and_true, true_and, and_self, or_true, true_or, false_and, and_false, not_true_eq_false, not_false_eq_true, true_implies, false_implies, implies_true, Nat.reduceAdd, Nat.reduceLT, Nat.reduceEqDiff, Nat.reduceLeDiff, Nat.reduceBEq, Nat.zero_add, Nat.lt_add_one, Bool.false_eq_true, Bool.or_false, Bool.or_true, Bool.or_self, Nat.zero_ne_one, Nat.one_ne_zero, ite_true, ite_false, ne_eq, Nat.reduceSub, Nat.succ_eq_add_one, Nat.zero_lt_succ, Nat.add_one_ne_zero, false_or, or_false, mX6_foretell_c, mX6_foretell_n, mX6_foretell_r, mX6_foretell_l, dX6_foretell_0, dX6_foretell_1, fl_6_16_6, dX6_foretell_4, dX6_foretell_5, fl_6_10_6, dX6_foretell_8, dX6_foretell_11, dX6_foretell_12, dX6_foretell_15, dX6_foretell_16, dX6_foretell_19, jX6_foretell_0_124, jX6_foretell_0_181, st_aload_n, st_getfield, st_iload_n, st_invokevirtual, st_return]
  refine ⟨(t0, t1, t2, t3), (n0, n1, n2, n3), t, _, rfl, ap_lab lT lN (by decide), cT, cN, ?_⟩
  have hb := bec_wf (t := t) hpre
  simp only at hb
  have hC1 := cT.set (bec t (w, kp, kd, day, gone, draw, P, rule, gd))
  have hW1 := hW0.sT (csetL (Γ := Γ) lT) ⟨_, hC1⟩
  have hW2 := hW0.sT (csetL (Γ := Γ) lT) ⟨_, cT.set (daysC (bec t (w, kp, kd, day, gone, draw, P, rule, gd)) N)⟩
  have hk := h _ t (csetL lT) hW2 (cT.set _)
  rw [← cset_cset (s := bec t (w, kp, kd, day, gone, draw, P, rule, gd))] at hk
  generalize cset Γ (t0, t1, t2, t3) (bec t (w, kp, kd, day, gone, draw, P, rule, gd)) σ = σ1 at hC1 hW1 hk ⊢
  obtain ⟨⟨y1, -⟩, y5, -⟩ := id hW1
  simp only [XE] at y1 y5
  refine yvc_ok (uX6_foretell Γ) (S := []) 60 _ _ _ _ ?_
  simp only [y1, y5, yvc_s, s1i, s2i, s1l, s2l, sil, s1r, sir, siir, slir, srir, svr, sd1, sd2, lg, lput, ldel, isL_i, isL_r, isL_l, jmp, obj, obj1, fI, fR, arI, arL, arR, hput, f4_0, f4_1, f4_2, f4_3, lc_0, lc_1, rok_i, rok_b, rok_y, strF, fput_1, fput_2, csum_nil, csum_i, csum_l, csum_r, va_up_self, bx_uu, Int.reduceAdd, List.elem_nil, List.elem_cons, List.take_succ_cons, List.take_zero, List.drop_succ_cons, List.drop_zero, List.take_nil, List.drop_nil, List.reverse_cons, List.reverse_nil, List.nil_append, List.cons_append, List.append_nil, Option.toList_some, Option.toList_none, List.getElem?_cons_zero, List.getElem?_cons_succ, List.set_cons_zero, List.set_cons_succ, List.length_cons, List.length_nil, reduceIte, reduceCtorEq, and_true, true_and, and_self, or_true, true_or, false_and, and_false, not_true_eq_false, not_false_eq_true, true_implies, false_implies, implies_true, Nat.reduceAdd, Nat.reduceLT, Nat.reduceEqDiff, Nat.reduceLeDiff, Nat.reduceBEq, Nat.zero_add, Nat.lt_add_one, Bool.false_eq_true, Bool.or_false, Bool.or_true, Bool.or_self, Nat.zero_ne_one, Nat.one_ne_zero, ite_true, ite_false, ne_eq, Nat.reduceSub, Nat.succ_eq_add_one, Nat.zero_lt_succ, Nat.add_one_ne_zero, false_or, or_false, mX6_foretell_c, mX6_foretell_n, mX6_foretell_r, mX6_foretell_l, dX6_foretell_0, dX6_foretell_1, fl_6_16_6, dX6_foretell_4, dX6_foretell_5, fl_6_10_6, dX6_foretell_8, dX6_foretell_11, dX6_foretell_12, dX6_foretell_15, dX6_foretell_16, dX6_foretell_19, jX6_foretell_0_124, jX6_foretell_0_181, st_aload_n, st_getfield, st_iload_n, st_invokevirtual, st_return]
  refine ⟨(t0, t1, t2, t3), _, N, rfl, hN, hb, hC1, ?_⟩
  refine yvc_ok (uX6_foretell Γ) (S := []) 60 _ _ _ _ ?_
  simp only [yvc_s, s1i, s2i, s1l, s2l, sil, s1r, sir, siir, slir, srir, svr, sd1, sd2, lg, lput, ldel, isL_i, isL_r, isL_l, jmp, obj, obj1, fI, fR, arI, arL, arR, hput, f4_0, f4_1, f4_2, f4_3, lc_0, lc_1, rok_i, rok_b, rok_y, strF, fput_1, fput_2, csum_nil, csum_i, csum_l, csum_r, va_up_self, bx_uu, Int.reduceAdd, List.elem_nil, List.elem_cons, List.take_succ_cons, List.take_zero, List.drop_succ_cons, List.drop_zero, List.take_nil, List.drop_nil, List.reverse_cons, List.reverse_nil, List.nil_append, List.cons_append, List.append_nil, Option.toList_some, Option.toList_none, List.getElem?_cons_zero, List.getElem?_cons_succ, List.set_cons_zero, List.set_cons_succ, List.length_cons, List.length_nil, reduceIte, reduceCtorEq, and_true, true_and, and_self, or_true, true_or, false_and, and_false, not_true_eq_false, not_false_eq_true, true_implies, false_implies, implies_true, Nat.reduceAdd, Nat.reduceLT, Nat.reduceEqDiff, Nat.reduceLeDiff, Nat.reduceBEq, Nat.zero_add, Nat.lt_add_one, Bool.false_eq_true, Bool.or_false, Bool.or_true, Bool.or_self, Nat.zero_ne_one, Nat.one_ne_zero, ite_true, ite_false, ne_eq, Nat.reduceSub, Nat.succ_eq_add_one, Nat.zero_lt_succ, Nat.add_one_ne_zero, false_or, or_false, mX6_foretell_c, mX6_foretell_n, mX6_foretell_r, mX6_foretell_l, dX6_foretell_0, dX6_foretell_1, fl_6_16_6, dX6_foretell_4, dX6_foretell_5, fl_6_10_6, dX6_foretell_8, dX6_foretell_11, dX6_foretell_12, dX6_foretell_15, dX6_foretell_16, dX6_foretell_19, jX6_foretell_0_124, jX6_foretell_0_181, st_aload_n, st_getfield, st_iload_n, st_invokevirtual, st_return]
  exact hk
/-- an answer by what is tried on some trial -/
def ft (ok : XS → Prop) (f : XS → CS → Int32) : XS → XS → Int32 → Prop := fun ψ ψ' r => ψ' = ψ ∧ ((ok ψ ∧ ∃ t, r = f ψ t) ∨ (¬ ok ψ ∧ r = -1))
def sp_X6_keeper (Γ : Cx) : YSp := fun av σ K => ∃ a b : Int32, xq Γ [.int a, .int b] (ft (fun _ => inr a 0 3 = true ∧ inr b 0 60 = true) (fun ψ t => (daysC (bec t ψ.1) b.toNatClampNeg).2.1 a.toNatClampNeg)) PX av σ K
theorem rv_X6_keeper {Γ : Cx} : Recv (sp_X6_keeper Γ) 2 6 := by
  intro av σ K h
  obtain ⟨a, b, h⟩ := h
  obtain ⟨q, fs, h1, h2, h3⟩ := rv_xq h
  exact ⟨q, _, fs, h1, rfl, h2, h3⟩
theorem bw_556 : Cond.code yX6_foretell cX6_foretell 2 none ∈ BW := bw_i 556 (by decide +kernel) (by decide +kernel)
theorem no_X6_foretell : NameOK yX6_foretell 1 := by unfold NameOK; decide +kernel
theorem bw_553 : Cond.methodLink RX6 156 yX6_foretell ∈ BW := bw_i 553 (by decide +kernel) (by decide +kernel)
theorem bw_555 : Cond.instanceMethod yX6_foretell ∈ BW := bw_i 555 (by decide +kernel) (by decide +kernel)
theorem bw_11 : Cond.selects RX6 yX6_foretell yX6_foretell ∈ BW := bw_i 11 (by decide +kernel) (by decide +kernel)
theorem bc_60 : (Int8.ofInt 60).toInt32 = 60 := by decide
theorem tg_14_5 : tgo 14 5 = some 19 := by decide
def mX6_keeper : Mt := (⟨6, 0, 0, 133⟩, RX6, cX6_keeper, 3, some .int, (0, 0), none)
theorem mX6_keeper_c : mX6_keeper.2.2.1 = cX6_keeper := rfl
theorem mX6_keeper_n : mX6_keeper.2.2.2.1 = 3 := rfl
theorem mX6_keeper_r : mX6_keeper.2.2.2.2.1 = some .int := rfl
theorem mX6_keeper_l : mX6_keeper.2.2.2.2.2.2 = none := rfl
def jX6_keeper (Γ : Cx) : List ((Nat × Nat) × Nat × Bool × YSp) := [((1, 79), 1, true, sp_X6_isDoor Γ), ((1, 57), 3, true, sp_X6_within Γ), ((0, 156), 2, false, sp_X6_foretell Γ)]
theorem jX6_keeper_1_79 (Γ : Cx) : kT (jX6_keeper Γ) 1 79 = some (1, true, sp_X6_isDoor Γ) := rfl
theorem jX6_keeper_1_57 (Γ : Cx) : kT (jX6_keeper Γ) 1 57 = some (3, true, sp_X6_within Γ) := rfl
theorem jX6_keeper_0_156 (Γ : Cx) : kT (jX6_keeper Γ) 0 156 = some (2, false, sp_X6_foretell Γ) := rfl
theorem uX6_keeper (Γ : Cx) : TbOK Γ mX6_keeper (fT fX6, cT kX6, kT (jX6_keeper Γ)) := tb_ok fX6_ok kX6_ok (all_cons ⟨call_S (n := 1) (ok_X6_isDoor Γ) (rv_X6_isDoor (Γ := Γ)) bw_269 bw_267 bw_268 bw_42 no_X6_isDoor ⟨⟨rfl, rfl⟩, ⟨by decide, by decide⟩, ⟨by decide, by decide⟩⟩, fun _ => mono_X6_isDoor (Γ := Γ)⟩ (all_cons ⟨call_S (n := 3) (ok_X6_within Γ) (rv_X6_within (Γ := Γ)) bw_241 bw_239 bw_240 bw_42 no_X6_within ⟨⟨rfl, rfl⟩, ⟨by decide, by decide⟩, ⟨by decide, by decide⟩⟩, fun _ => mono_X6_within (Γ := Γ)⟩ (all_cons ⟨call_V (n := 1) (T := TX6) (N := 9) (ok_X6_foretell Γ) (rv_X6_foretell (Γ := Γ)) rfl bw_556 bw_553 bw_555 bw_11 bw_42 no_X6_foretell ⟨⟨rfl, rfl⟩, ⟨by decide, by decide⟩, ⟨by decide, by decide⟩⟩, fun z => by cases z⟩ (all_nil))))
set_option maxRecDepth 20000 in
theorem ok_X6_keeper (Γ : Cx) : Ok Γ yX6_keeper mX6_keeper (sp_X6_keeper Γ) := by
  refine ok_intro (by decide +kernel) rfl rfl ?_
  intro av σ K h
  obtain ⟨a, b, lab, X, ψ, rfl, hW, hpre, h⟩ := h
  have hno : ¬ (inr a 0 3 = true ∧ inr b 0 60 = true) → K (some (.int (-1))) σ := fun z => h σ _ _ ⟨rfl, Or.inr ⟨z, rfl⟩⟩ frm.rf hW
  refine ⟨Nat.le_of_ble_eq_true rfl, yvc_ok (uX6_keeper Γ) (S := []) 60 _ _ _ _ ?_⟩
  simp only [lv_args, Value.category, sp_X6_isDoor, sp_X6_within, bI_eq0, Bool.not_eq_false, yvc_s, s1i, s2i, s1l, s2l, sil, s1r, sir, siir, slir, srir, svr, sd1, sd2, lg, lput, ldel, isL_i, isL_r, isL_l, jmp, obj, obj1, fI, fR, arI, arL, arR, hput, f4_0, f4_1, f4_2, f4_3, lc_0, lc_1, rok_i, rok_b, rok_y, strF, fput_1, fput_2, csum_nil, csum_i, csum_l, csum_r, va_up_self, bx_uu, Int.reduceAdd, List.elem_nil, List.elem_cons, List.take_succ_cons, List.take_zero, List.drop_succ_cons, List.drop_zero, List.take_nil, List.drop_nil, List.reverse_cons, List.reverse_nil, List.nil_append, List.cons_append, List.append_nil, Option.toList_some, Option.toList_none, List.getElem?_cons_zero, List.getElem?_cons_succ, List.set_cons_zero, List.set_cons_succ, List.length_cons, List.length_nil, reduceIte, reduceCtorEq, and_true, true_and, and_self, or_true, true_or, false_and, and_false, not_true_eq_false, not_false_eq_true, true_implies, false_implies, implies_true, Nat.reduceAdd, Nat.reduceLT, Nat.reduceEqDiff, Nat.reduceLeDiff, Nat.reduceBEq, Nat.zero_add, Nat.lt_add_one, Bool.false_eq_true, Bool.or_false, Bool.or_true, Bool.or_self, Nat.zero_ne_one, Nat.one_ne_zero, ite_true, ite_false, ne_eq, Nat.reduceSub, Nat.succ_eq_add_one, Nat.zero_lt_succ, Nat.add_one_ne_zero, false_or, or_false, mX6_keeper_c, mX6_keeper_n, mX6_keeper_r, mX6_keeper_l, dX6_keeper_0, dX6_keeper_1, dX6_keeper_4, tg_4_13, cnd1_eq, dX6_keeper_7, dX6_keeper_8, ic_0, dX6_keeper_9, bc_60, dX6_keeper_11, dX6_keeper_14, tg_14_5, cnd1_ne, dX6_keeper_17, ic_m1, dX6_keeper_18, dX6_keeper_19, dX6_keeper_20, dX6_keeper_21, dX6_keeper_24, dX6_keeper_25, fl_6_16_6, dX6_keeper_28, fl_6_96_0, dX6_keeper_31, dX6_keeper_32, dX6_keeper_33, jX6_keeper_1_79, jX6_keeper_1_57, jX6_keeper_0_156, st_aload_n, st_bipush, st_getfield, st_iaload, st_iconst, st_ifCond, st_iload_n, st_invokestatic, st_invokevirtual, st_ireturn]
  refine ⟨fun c1 => hno (fun z => by rw [c1] at z; cases z.1), fun c1 => ⟨fun c2 => ?_, fun c2 => hno (fun z => c2 z.2)⟩⟩
  have hok : inr a 0 3 = true ∧ inr b 0 60 = true := ⟨c1, c2⟩
  obtain ⟨N, hN, rfl⟩ := in_n (B := 60) (by decide) c2
  obtain ⟨q, hq, rfl⟩ := door_n c1
  obtain ⟨-, c3, c4⟩ := lt4 hq
  refine ⟨lab, X, ψ, N, rfl, by omega, hW, hpre, fun σ1 t hf hW1 hC1 => ?_⟩
  have hk := h σ1 ψ _ ⟨rfl, Or.inl ⟨hok, t, rfl⟩⟩ (frmX hf (by decide)) hW1
  simp only at hk
  rw [nI_clamp (show N < 2 ^ 31 by omega), c4] at hk
  generalize daysC (bec t ψ.1) N = s1 at hC1 hk
  obtain ⟨w1, kp1, kd1, day1, gone1, draw1, P1, rule1, gd1⟩ := s1
  obtain ⟨⟨y1, -⟩, y5, -⟩ := id hW1
  obtain ⟨⟨u1, u2, u3, u4⟩, g1, g2, g3, g4⟩ := id hC1
  simp only [XE, ColE, iA] at y1 y5 u1 u3 g1 g3 hk
  refine yvc_ok (uX6_keeper Γ) (S := []) 60 _ _ _ _ ?_
  simp only [y1, y5, u1, u3, g1, g3, c3, c4, yvc_s, s1i, s2i, s1l, s2l, sil, s1r, sir, siir, slir, srir, svr, sd1, sd2, lg, lput, ldel, isL_i, isL_r, isL_l, jmp, obj, obj1, fI, fR, arI, arL, arR, hput, f4_0, f4_1, f4_2, f4_3, lc_0, lc_1, rok_i, rok_b, rok_y, strF, fput_1, fput_2, csum_nil, csum_i, csum_l, csum_r, va_up_self, bx_uu, Int.reduceAdd, List.elem_nil, List.elem_cons, List.take_succ_cons, List.take_zero, List.drop_succ_cons, List.drop_zero, List.take_nil, List.drop_nil, List.reverse_cons, List.reverse_nil, List.nil_append, List.cons_append, List.append_nil, Option.toList_some, Option.toList_none, List.getElem?_cons_zero, List.getElem?_cons_succ, List.set_cons_zero, List.set_cons_succ, List.length_cons, List.length_nil, reduceIte, reduceCtorEq, and_true, true_and, and_self, or_true, true_or, false_and, and_false, not_true_eq_false, not_false_eq_true, true_implies, false_implies, implies_true, Nat.reduceAdd, Nat.reduceLT, Nat.reduceEqDiff, Nat.reduceLeDiff, Nat.reduceBEq, Nat.zero_add, Nat.lt_add_one, Bool.false_eq_true, Bool.or_false, Bool.or_true, Bool.or_self, Nat.zero_ne_one, Nat.one_ne_zero, ite_true, ite_false, ne_eq, Nat.reduceSub, Nat.succ_eq_add_one, Nat.zero_lt_succ, Nat.add_one_ne_zero, false_or, or_false, mX6_keeper_c, mX6_keeper_n, mX6_keeper_r, mX6_keeper_l, dX6_keeper_0, dX6_keeper_1, dX6_keeper_4, tg_4_13, cnd1_eq, dX6_keeper_7, dX6_keeper_8, ic_0, dX6_keeper_9, bc_60, dX6_keeper_11, dX6_keeper_14, tg_14_5, cnd1_ne, dX6_keeper_17, ic_m1, dX6_keeper_18, dX6_keeper_19, dX6_keeper_20, dX6_keeper_21, dX6_keeper_24, dX6_keeper_25, fl_6_16_6, dX6_keeper_28, fl_6_96_0, dX6_keeper_31, dX6_keeper_32, dX6_keeper_33, jX6_keeper_1_79, jX6_keeper_1_57, jX6_keeper_0_156, st_aload_n, st_bipush, st_getfield, st_iaload, st_iconst, st_ifCond, st_iload_n, st_invokestatic, st_invokevirtual, st_ireturn]
  exact hk
def sp_X6_ahead (Γ : Cx) : YSp := fun av σ K => ∃ a b c : Int32, xq Γ [.int a, .int b, .int c] (ft (fun ψ => inr a 0 (nI ψ.1.2.2.2.2.2.2.1 - 1) = true ∧ inr b 0 3 = true ∧ inr c 0 60 = true) (fun ψ t => (daysC (bec t ψ.1) c.toNatClampNeg).1 (ix a b))) PX av σ K
theorem rv_X6_ahead {Γ : Cx} : Recv (sp_X6_ahead Γ) 3 6 := by
  intro av σ K h
  obtain ⟨a, b, c, h⟩ := h
  obtain ⟨q, fs, h1, h2, h3⟩ := rv_xq h
  exact ⟨q, _, fs, h1, rfl, h2, h3⟩
def mX6_ahead : Mt := (⟨6, 0, 0, 133⟩, RX6, cX6_ahead, 4, some .int, (0, 0), none)
theorem mX6_ahead_c : mX6_ahead.2.2.1 = cX6_ahead := rfl
theorem mX6_ahead_n : mX6_ahead.2.2.2.1 = 4 := rfl
theorem mX6_ahead_r : mX6_ahead.2.2.2.2.1 = some .int := rfl
theorem mX6_ahead_l : mX6_ahead.2.2.2.2.2.2 = none := rfl
def jX6_ahead (Γ : Cx) : List ((Nat × Nat) × Nat × Bool × YSp) := [((0, 75), 2, true, sp_X0_has Γ), ((1, 79), 1, true, sp_X6_isDoor Γ), ((1, 57), 3, true, sp_X6_within Γ), ((0, 156), 2, false, sp_X6_foretell Γ), ((0, 82), 3, true, sp_X0_wantOf Γ)]
theorem jX6_ahead_0_75 (Γ : Cx) : kT (jX6_ahead Γ) 0 75 = some (2, true, sp_X0_has Γ) := rfl
theorem jX6_ahead_1_79 (Γ : Cx) : kT (jX6_ahead Γ) 1 79 = some (1, true, sp_X6_isDoor Γ) := rfl
theorem jX6_ahead_1_57 (Γ : Cx) : kT (jX6_ahead Γ) 1 57 = some (3, true, sp_X6_within Γ) := rfl
theorem jX6_ahead_0_156 (Γ : Cx) : kT (jX6_ahead Γ) 0 156 = some (2, false, sp_X6_foretell Γ) := rfl
theorem jX6_ahead_0_82 (Γ : Cx) : kT (jX6_ahead Γ) 0 82 = some (3, true, sp_X0_wantOf Γ) := rfl
theorem uX6_ahead (Γ : Cx) : TbOK Γ mX6_ahead (fT fX6, cT kX6, kT (jX6_ahead Γ)) := tb_ok fX6_ok kX6_ok (all_cons ⟨call_V (n := 1) (T := TX0) (N := 9) (ok_X0_has Γ) (rv_X0_has (Γ := Γ)) rfl bw_265 bw_262 bw_263 bw_264 bw_44 no_X0_has ⟨⟨rfl, rfl⟩, ⟨by decide, by decide⟩, ⟨by decide, by decide⟩⟩, fun _ => mono_X0_has (Γ := Γ)⟩ (all_cons ⟨call_S (n := 1) (ok_X6_isDoor Γ) (rv_X6_isDoor (Γ := Γ)) bw_269 bw_267 bw_268 bw_42 no_X6_isDoor ⟨⟨rfl, rfl⟩, ⟨by decide, by decide⟩, ⟨by decide, by decide⟩⟩, fun _ => mono_X6_isDoor (Γ := Γ)⟩ (all_cons ⟨call_S (n := 3) (ok_X6_within Γ) (rv_X6_within (Γ := Γ)) bw_241 bw_239 bw_240 bw_42 no_X6_within ⟨⟨rfl, rfl⟩, ⟨by decide, by decide⟩, ⟨by decide, by decide⟩⟩, fun _ => mono_X6_within (Γ := Γ)⟩ (all_cons ⟨call_V (n := 1) (T := TX6) (N := 9) (ok_X6_foretell Γ) (rv_X6_foretell (Γ := Γ)) rfl bw_556 bw_553 bw_555 bw_11 bw_42 no_X6_foretell ⟨⟨rfl, rfl⟩, ⟨by decide, by decide⟩, ⟨by decide, by decide⟩⟩, fun z => by cases z⟩ (all_cons ⟨call_V (n := 2) (T := TX0) (N := 9) (ok_X0_wantOf Γ) (rv_X0_wantOf (Γ := Γ)) rfl bw_273 bw_270 bw_271 bw_272 bw_44 no_X0_wantOf ⟨⟨rfl, rfl⟩, ⟨by decide, by decide⟩, ⟨by decide, by decide⟩⟩, fun _ => mono_X0_wantOf (Γ := Γ)⟩ (all_nil))))))
set_option maxRecDepth 20000 in
theorem ok_X6_ahead (Γ : Cx) : Ok Γ yX6_ahead mX6_ahead (sp_X6_ahead Γ) := by
  refine ok_intro (by decide +kernel) rfl rfl ?_
  intro av σ K h
  obtain ⟨a, b, c, lab, X, ψ, rfl, hW, hpre, h⟩ := h
  obtain ⟨x, sh, ⟨n0, n1, n2, n3⟩, ⟨t0, t1, t2, t3⟩, p, ⟨i0, i1, i2, i3⟩, ip, ⟨ta, tl⟩, ⟨pa, pk⟩, S⟩ := X
  obtain ⟨⟨w, kp, kd, day, gone, draw, P, rule, gd⟩, si, ⟨pc, pn⟩, ⟨qc, qn⟩, hi, ⟨l, len⟩, ss⟩ := ψ
  have hW0 := hW
  obtain ⟨⟨x1, x2, x3, x4⟩, x5, ⟨sf, x6, x7⟩, ⟨cN, lN⟩, ⟨⟨t, cT⟩, lT⟩, pP, ⟨cI, lI⟩, pI, ⟨⟨pl, tT⟩, lTp, hlen⟩, ⟨⟨pls, pPl⟩, lPl⟩, hS⟩ := hW
  simp only at cN lN cT lT pP cI lI pI tT lTp hlen pPl lPl hS x6 x7
  obtain ⟨⟨m1, m2, m3, m4⟩, e1, e2, e3, e4⟩ := id cN
  simp only [XE, ColE, iA] at x1 x2 x5 m1 m2 m3 m4 e1 e2 e3 e4
  have hP := hpre.1
  simp only at hP
  have hno : ¬ (inr a 0 (nI P - 1) = true ∧ inr b 0 3 = true ∧ inr c 0 60 = true) → K (some (.int (-1))) σ := fun z => h σ _ _ ⟨rfl, Or.inr ⟨z, rfl⟩⟩ frm.rf hW0
  refine ⟨Nat.le_of_ble_eq_true rfl, yvc_ok (uX6_ahead Γ) (S := []) 60 _ _ _ _ ?_⟩
  simp only [lv_args, Value.category, x1, x5, m1, e1, sp_X6_isDoor, sp_X6_within, sp_X0_has, bI_eq0, Bool.not_eq_false, yvc_s, s1i, s2i, s1l, s2l, sil, s1r, sir, siir, slir, srir, svr, sd1, sd2, lg, lput, ldel, isL_i, isL_r, isL_l, jmp, obj, obj1, fI, fR, arI, arL, arR, hput, f4_0, f4_1, f4_2, f4_3, lc_0, lc_1, rok_i, rok_b, rok_y, strF, fput_1, fput_2, csum_nil, csum_i, csum_l, csum_r, va_up_self, bx_uu, Int.reduceAdd, List.elem_nil, List.elem_cons, List.take_succ_cons, List.take_zero, List.drop_succ_cons, List.drop_zero, List.take_nil, List.drop_nil, List.reverse_cons, List.reverse_nil, List.nil_append, List.cons_append, List.append_nil, Option.toList_some, Option.toList_none, List.getElem?_cons_zero, List.getElem?_cons_succ, List.set_cons_zero, List.set_cons_succ, List.length_cons, List.length_nil, reduceIte, reduceCtorEq, and_true, true_and, and_self, or_true, true_or, false_and, and_false, not_true_eq_false, not_false_eq_true, true_implies, false_implies, implies_true, Nat.reduceAdd, Nat.reduceLT, Nat.reduceEqDiff, Nat.reduceLeDiff, Nat.reduceBEq, Nat.zero_add, Nat.lt_add_one, Bool.false_eq_true, Bool.or_false, Bool.or_true, Bool.or_self, Nat.zero_ne_one, Nat.one_ne_zero, ite_true, ite_false, ne_eq, Nat.reduceSub, Nat.succ_eq_add_one, Nat.zero_lt_succ, Nat.add_one_ne_zero, false_or, or_false, mX6_ahead_c, mX6_ahead_n, mX6_ahead_r, mX6_ahead_l, dX6_ahead_0, dX6_ahead_1, fl_6_10_6, dX6_ahead_4, dX6_ahead_5, dX6_ahead_8, tg_8_20, cnd1_eq, dX6_ahead_11, dX6_ahead_12, dX6_ahead_15, tg_15_13, dX6_ahead_18, dX6_ahead_19, ic_0, dX6_ahead_20, bc_60, dX6_ahead_22, dX6_ahead_25, tg_25_5, cnd1_ne, dX6_ahead_28, ic_m1, dX6_ahead_29, dX6_ahead_30, dX6_ahead_31, dX6_ahead_32, dX6_ahead_35, dX6_ahead_36, fl_6_16_6, dX6_ahead_39, dX6_ahead_40, dX6_ahead_41, dX6_ahead_44, jX6_ahead_0_75, jX6_ahead_1_79, jX6_ahead_1_57, jX6_ahead_0_156, jX6_ahead_0_82, st_aload_n, st_bipush, st_getfield, st_iconst, st_ifCond, st_iload_n, st_invokestatic, st_invokevirtual, st_ireturn]
  refine ⟨fun c1 => hno (fun z => by rw [c1] at z; cases z.1), fun c1 => ⟨fun c2 => hno (fun z => by rw [c2] at z; cases z.2.1), fun c2 => ⟨fun c3 => ?_, fun c3 => hno (fun z => c3 z.2.2)⟩⟩⟩
  have hok : inr a 0 (nI P - 1) = true ∧ inr b 0 3 = true ∧ inr c 0 60 = true := ⟨c1, c2, c3⟩
  obtain ⟨N, hN, rfl⟩ := in_n (B := 60) (by decide) c3
  obtain ⟨q, hq, rfl⟩ := has_n hP c1
  obtain ⟨r, hr, rfl⟩ := door_n c2
  refine ⟨lab, _, _, N, rfl, by omega, hW0, hpre, fun σ1 t' hf hW1 hC1 => ?_⟩
  have hk := h σ1 _ _ ⟨rfl, Or.inl ⟨hok, t', rfl⟩⟩ (frmX hf (by decide)) hW1
  rw [nI_clamp (show N < 2 ^ 31 by omega)] at hk
  simp only at hC1 hk
  generalize daysC (bec t' (w, kp, kd, day, gone, draw, P, rule, gd)) N = s1 at hC1 hk
  obtain ⟨w1, kp1, kd1, day1, gone1, draw1, P1, rule1, gd1⟩ := s1
  obtain ⟨⟨y1, -⟩, y5, -⟩ := id hW1
  obtain ⟨⟨u1, u2, u3, u4⟩, g1, g2, g3, g4⟩ := id hC1
  simp only [XE, ColE, iA] at y1 y5 u1 u2 g1 g2 hk
  refine yvc_ok (uX6_ahead Γ) (S := []) 60 _ _ _ _ ?_
  simp only [y1, y5, u1, u2, g1, g2, sp_X0_wantOf, yvc_s, s1i, s2i, s1l, s2l, sil, s1r, sir, siir, slir, srir, svr, sd1, sd2, lg, lput, ldel, isL_i, isL_r, isL_l, jmp, obj, obj1, fI, fR, arI, arL, arR, hput, f4_0, f4_1, f4_2, f4_3, lc_0, lc_1, rok_i, rok_b, rok_y, strF, fput_1, fput_2, csum_nil, csum_i, csum_l, csum_r, va_up_self, bx_uu, Int.reduceAdd, List.elem_nil, List.elem_cons, List.take_succ_cons, List.take_zero, List.drop_succ_cons, List.drop_zero, List.take_nil, List.drop_nil, List.reverse_cons, List.reverse_nil, List.nil_append, List.cons_append, List.append_nil, Option.toList_some, Option.toList_none, List.getElem?_cons_zero, List.getElem?_cons_succ, List.set_cons_zero, List.set_cons_succ, List.length_cons, List.length_nil, reduceIte, reduceCtorEq, and_true, true_and, and_self, or_true, true_or, false_and, and_false, not_true_eq_false, not_false_eq_true, true_implies, false_implies, implies_true, Nat.reduceAdd, Nat.reduceLT, Nat.reduceEqDiff, Nat.reduceLeDiff, Nat.reduceBEq, Nat.zero_add, Nat.lt_add_one, Bool.false_eq_true, Bool.or_false, Bool.or_true, Bool.or_self, Nat.zero_ne_one, Nat.one_ne_zero, ite_true, ite_false, ne_eq, Nat.reduceSub, Nat.succ_eq_add_one, Nat.zero_lt_succ, Nat.add_one_ne_zero, false_or, or_false, mX6_ahead_c, mX6_ahead_n, mX6_ahead_r, mX6_ahead_l, dX6_ahead_0, dX6_ahead_1, fl_6_10_6, dX6_ahead_4, dX6_ahead_5, dX6_ahead_8, tg_8_20, cnd1_eq, dX6_ahead_11, dX6_ahead_12, dX6_ahead_15, tg_15_13, dX6_ahead_18, dX6_ahead_19, ic_0, dX6_ahead_20, bc_60, dX6_ahead_22, dX6_ahead_25, tg_25_5, cnd1_ne, dX6_ahead_28, ic_m1, dX6_ahead_29, dX6_ahead_30, dX6_ahead_31, dX6_ahead_32, dX6_ahead_35, dX6_ahead_36, fl_6_16_6, dX6_ahead_39, dX6_ahead_40, dX6_ahead_41, dX6_ahead_44, jX6_ahead_0_75, jX6_ahead_1_79, jX6_ahead_1_57, jX6_ahead_0_156, jX6_ahead_0_82, st_aload_n, st_bipush, st_getfield, st_iconst, st_ifCond, st_iload_n, st_invokestatic, st_invokevirtual, st_ireturn]
  exact ⟨ix_in (by omega) hr, hk⟩
def sp_X6_then (Γ : Cx) : YSp := fun av σ K => ∃ a : Int32, xq Γ [.int a] (ft (fun _ => inr a 0 60 = true) (fun ψ t => (daysC (bec t ψ.1) a.toNatClampNeg).2.2.2.2.1)) PX av σ K
theorem rv_X6_then {Γ : Cx} : Recv (sp_X6_then Γ) 1 6 := by
  intro av σ K h
  obtain ⟨a, h⟩ := h
  obtain ⟨q, fs, h1, h2, h3⟩ := rv_xq h
  exact ⟨q, _, fs, h1, rfl, h2, h3⟩
def mX6_then : Mt := (⟨6, 0, 0, 133⟩, RX6, cX6_then, 2, some .int, (0, 0), none)
theorem mX6_then_c : mX6_then.2.2.1 = cX6_then := rfl
theorem mX6_then_n : mX6_then.2.2.2.1 = 2 := rfl
theorem mX6_then_r : mX6_then.2.2.2.2.1 = some .int := rfl
theorem mX6_then_l : mX6_then.2.2.2.2.2.2 = none := rfl
def jX6_then (Γ : Cx) : List ((Nat × Nat) × Nat × Bool × YSp) := [((1, 57), 3, true, sp_X6_within Γ), ((0, 156), 2, false, sp_X6_foretell Γ)]
theorem jX6_then_1_57 (Γ : Cx) : kT (jX6_then Γ) 1 57 = some (3, true, sp_X6_within Γ) := rfl
theorem jX6_then_0_156 (Γ : Cx) : kT (jX6_then Γ) 0 156 = some (2, false, sp_X6_foretell Γ) := rfl
theorem uX6_then (Γ : Cx) : TbOK Γ mX6_then (fT fX6, cT kX6, kT (jX6_then Γ)) := tb_ok fX6_ok kX6_ok (all_cons ⟨call_S (n := 3) (ok_X6_within Γ) (rv_X6_within (Γ := Γ)) bw_241 bw_239 bw_240 bw_42 no_X6_within ⟨⟨rfl, rfl⟩, ⟨by decide, by decide⟩, ⟨by decide, by decide⟩⟩, fun _ => mono_X6_within (Γ := Γ)⟩ (all_cons ⟨call_V (n := 1) (T := TX6) (N := 9) (ok_X6_foretell Γ) (rv_X6_foretell (Γ := Γ)) rfl bw_556 bw_553 bw_555 bw_11 bw_42 no_X6_foretell ⟨⟨rfl, rfl⟩, ⟨by decide, by decide⟩, ⟨by decide, by decide⟩⟩, fun z => by cases z⟩ (all_nil)))
set_option maxRecDepth 20000 in
theorem ok_X6_then (Γ : Cx) : Ok Γ yX6_then mX6_then (sp_X6_then Γ) := by
  refine ok_intro (by decide +kernel) rfl rfl ?_
  intro av σ K h
  obtain ⟨a, lab, X, ψ, rfl, hW, hpre, h⟩ := h
  have hno : ¬ (inr a 0 60 = true) → K (some (.int (-1))) σ := fun z => h σ _ _ ⟨rfl, Or.inr ⟨z, rfl⟩⟩ frm.rf hW
  refine ⟨Nat.le_of_ble_eq_true rfl, yvc_ok (uX6_then Γ) (S := []) 60 _ _ _ _ ?_⟩
  simp only [lv_args, Value.category, sp_X6_within, bI_eq0, Bool.not_eq_false, yvc_s, s1i, s2i, s1l, s2l, sil, s1r, sir, siir, slir, srir, svr, sd1, sd2, lg, lput, ldel, isL_i, isL_r, isL_l, jmp, obj, obj1, fI, fR, arI, arL, arR, hput, f4_0, f4_1, f4_2, f4_3, lc_0, lc_1, rok_i, rok_b, rok_y, strF, fput_1, fput_2, csum_nil, csum_i, csum_l, csum_r, va_up_self, bx_uu, Int.reduceAdd, List.elem_nil, List.elem_cons, List.take_succ_cons, List.take_zero, List.drop_succ_cons, List.drop_zero, List.take_nil, List.drop_nil, List.reverse_cons, List.reverse_nil, List.nil_append, List.cons_append, List.append_nil, Option.toList_some, Option.toList_none, List.getElem?_cons_zero, List.getElem?_cons_succ, List.set_cons_zero, List.set_cons_succ, List.length_cons, List.length_nil, reduceIte, reduceCtorEq, and_true, true_and, and_self, or_true, true_or, false_and, and_false, not_true_eq_false, not_false_eq_true, true_implies, false_implies, implies_true, Nat.reduceAdd, Nat.reduceLT, Nat.reduceEqDiff, Nat.reduceLeDiff, Nat.reduceBEq, Nat.zero_add, Nat.lt_add_one, Bool.false_eq_true, Bool.or_false, Bool.or_true, Bool.or_self, Nat.zero_ne_one, Nat.one_ne_zero, ite_true, ite_false, ne_eq, Nat.reduceSub, Nat.succ_eq_add_one, Nat.zero_lt_succ, Nat.add_one_ne_zero, false_or, or_false, mX6_then_c, mX6_then_n, mX6_then_r, mX6_then_l, dX6_then_0, dX6_then_1, ic_0, dX6_then_2, bc_60, dX6_then_4, dX6_then_7, tg_7_5, cnd1_ne, dX6_then_10, ic_m1, dX6_then_11, dX6_then_12, dX6_then_13, dX6_then_14, dX6_then_17, dX6_then_18, fl_6_16_6, dX6_then_21, fl_6_118_0, dX6_then_24, jX6_then_1_57, jX6_then_0_156, st_aload_n, st_bipush, st_getfield, st_iconst, st_ifCond, st_iload_n, st_invokestatic, st_invokevirtual, st_ireturn]
  refine ⟨fun c1 => ?_, fun c1 => hno c1⟩
  have hok := c1
  obtain ⟨N, hN, rfl⟩ := in_n (B := 60) (by decide) c1
  refine ⟨lab, X, ψ, N, rfl, by omega, hW, hpre, fun σ1 t hf hW1 hC1 => ?_⟩
  have hk := h σ1 ψ _ ⟨rfl, Or.inl ⟨hok, t, rfl⟩⟩ (frmX hf (by decide)) hW1
  simp only at hk
  rw [nI_clamp (show N < 2 ^ 31 by omega)] at hk
  generalize daysC (bec t ψ.1) N = s1 at hC1 hk
  obtain ⟨w1, kp1, kd1, day1, gone1, draw1, P1, rule1, gd1⟩ := s1
  obtain ⟨⟨y1, -⟩, y5, -⟩ := id hW1
  obtain ⟨⟨u1, u2, u3, u4⟩, g1, g2, g3, g4⟩ := id hC1
  simp only [XE, ColE] at y1 y5 u1 g1 hk
  refine yvc_ok (uX6_then Γ) (S := []) 60 _ _ _ _ ?_
  simp only [y1, y5, u1, g1, yvc_s, s1i, s2i, s1l, s2l, sil, s1r, sir, siir, slir, srir, svr, sd1, sd2, lg, lput, ldel, isL_i, isL_r, isL_l, jmp, obj, obj1, fI, fR, arI, arL, arR, hput, f4_0, f4_1, f4_2, f4_3, lc_0, lc_1, rok_i, rok_b, rok_y, strF, fput_1, fput_2, csum_nil, csum_i, csum_l, csum_r, va_up_self, bx_uu, Int.reduceAdd, List.elem_nil, List.elem_cons, List.take_succ_cons, List.take_zero, List.drop_succ_cons, List.drop_zero, List.take_nil, List.drop_nil, List.reverse_cons, List.reverse_nil, List.nil_append, List.cons_append, List.append_nil, Option.toList_some, Option.toList_none, List.getElem?_cons_zero, List.getElem?_cons_succ, List.set_cons_zero, List.set_cons_succ, List.length_cons, List.length_nil, reduceIte, reduceCtorEq, and_true, true_and, and_self, or_true, true_or, false_and, and_false, not_true_eq_false, not_false_eq_true, true_implies, false_implies, implies_true, Nat.reduceAdd, Nat.reduceLT, Nat.reduceEqDiff, Nat.reduceLeDiff, Nat.reduceBEq, Nat.zero_add, Nat.lt_add_one, Bool.false_eq_true, Bool.or_false, Bool.or_true, Bool.or_self, Nat.zero_ne_one, Nat.one_ne_zero, ite_true, ite_false, ne_eq, Nat.reduceSub, Nat.succ_eq_add_one, Nat.zero_lt_succ, Nat.add_one_ne_zero, false_or, or_false, mX6_then_c, mX6_then_n, mX6_then_r, mX6_then_l, dX6_then_0, dX6_then_1, ic_0, dX6_then_2, bc_60, dX6_then_4, dX6_then_7, tg_7_5, cnd1_ne, dX6_then_10, ic_m1, dX6_then_11, dX6_then_12, dX6_then_13, dX6_then_14, dX6_then_17, dX6_then_18, fl_6_16_6, dX6_then_21, fl_6_118_0, dX6_then_24, jX6_then_1_57, jX6_then_0_156, st_aload_n, st_bipush, st_getfield, st_iconst, st_ifCond, st_iload_n, st_invokestatic, st_invokevirtual, st_ireturn]
  exact hk
def sp_X6_in (Γ : Cx) : YSp := fun av σ K => ∃ a : Int32, xq Γ [.int a] (ft (fun _ => inr a 0 3 = true) (fun ψ t => (fgC a 60 1 (bec t ψ.1)).1)) PX av σ K
theorem rv_X6_in {Γ : Cx} : Recv (sp_X6_in Γ) 1 6 := by
  intro av σ K h
  obtain ⟨a, h⟩ := h
  obtain ⟨q, fs, h1, h2, h3⟩ := rv_xq h
  exact ⟨q, _, fs, h1, rfl, h2, h3⟩
theorem bw_577 : Cond.code yX0_firstGone cX0_firstGone 4 (some .int) ∈ BW := bw_i 577 (by decide +kernel) (by decide +kernel)
theorem no_X0_firstGone : NameOK yX0_firstGone 2 := by unfold NameOK; decide +kernel
theorem bw_574 : Cond.methodLink RX6 160 yX0_firstGone ∈ BW := bw_i 574 (by decide +kernel) (by decide +kernel)
theorem bw_575 : Cond.instanceMethod yX0_firstGone ∈ BW := bw_i 575 (by decide +kernel) (by decide +kernel)
theorem bw_576 : Cond.selects RX0 yX0_firstGone yX0_firstGone ∈ BW := bw_i 576 (by decide +kernel) (by decide +kernel)
def mX6_in : Mt := (⟨5, 0, 0, 113⟩, RX6, cX6_in, 2, some .int, (0, 0), none)
theorem mX6_in_c : mX6_in.2.2.1 = cX6_in := rfl
theorem mX6_in_n : mX6_in.2.2.2.1 = 2 := rfl
theorem mX6_in_r : mX6_in.2.2.2.2.1 = some .int := rfl
theorem mX6_in_l : mX6_in.2.2.2.2.2.2 = none := rfl
def jX6_in (Γ : Cx) : List ((Nat × Nat) × Nat × Bool × YSp) := [((1, 79), 1, true, sp_X6_isDoor Γ), ((0, 124), 2, false, sp_X0_become Γ), ((0, 160), 3, false, sp_X0_firstGone Γ)]
theorem jX6_in_1_79 (Γ : Cx) : kT (jX6_in Γ) 1 79 = some (1, true, sp_X6_isDoor Γ) := rfl
theorem jX6_in_0_124 (Γ : Cx) : kT (jX6_in Γ) 0 124 = some (2, false, sp_X0_become Γ) := rfl
theorem jX6_in_0_160 (Γ : Cx) : kT (jX6_in Γ) 0 160 = some (3, false, sp_X0_firstGone Γ) := rfl
theorem uX6_in (Γ : Cx) : TbOK Γ mX6_in (fT fX6, cT kX6, kT (jX6_in Γ)) := tb_ok fX6_ok kX6_ok (all_cons ⟨call_S (n := 1) (ok_X6_isDoor Γ) (rv_X6_isDoor (Γ := Γ)) bw_269 bw_267 bw_268 bw_42 no_X6_isDoor ⟨⟨rfl, rfl⟩, ⟨by decide, by decide⟩, ⟨by decide, by decide⟩⟩, fun _ => mono_X6_isDoor (Γ := Γ)⟩ (all_cons ⟨call_V (n := 1) (T := TX0) (N := 9) (ok_X0_become Γ) (rv_X0_become (Γ := Γ)) rfl bw_451 bw_448 bw_449 bw_450 bw_44 no_X0_become ⟨⟨rfl, rfl⟩, ⟨by decide, by decide⟩, ⟨by decide, by decide⟩⟩, fun z => by cases z⟩ (all_cons ⟨call_V (n := 2) (T := TX0) (N := 9) (ok_X0_firstGone Γ) (rv_X0_firstGone (Γ := Γ)) rfl bw_577 bw_574 bw_575 bw_576 bw_44 no_X0_firstGone ⟨⟨rfl, rfl⟩, ⟨by decide, by decide⟩, ⟨by decide, by decide⟩⟩, fun z => by cases z⟩ (all_nil))))
theorem nI60 : (60 : Int32) = nI 60 := rfl
set_option maxRecDepth 20000 in
theorem ok_X6_in (Γ : Cx) : Ok Γ yX6_in mX6_in (sp_X6_in Γ) := by
  refine ok_intro (by decide +kernel) rfl rfl ?_
  intro av σ K h
  obtain ⟨a, lab, X, ψ, rfl, hW, hpre, h⟩ := h
  obtain ⟨x, sh, ⟨n0, n1, n2, n3⟩, ⟨t0, t1, t2, t3⟩, p, ⟨i0, i1, i2, i3⟩, ip, ⟨ta, tl⟩, ⟨pa, pk⟩, S⟩ := X
  obtain ⟨⟨w, kp, kd, day, gone, draw, P, rule, gd⟩, si, ⟨pc, pn⟩, ⟨qc, qn⟩, hi, ⟨l, len⟩, ss⟩ := ψ
  have hW0 := hW
  obtain ⟨⟨x1, x2, x3, x4⟩, x5, ⟨sf, x6, x7⟩, ⟨cN, lN⟩, ⟨⟨t, cT⟩, lT⟩, pP, ⟨cI, lI⟩, pI, ⟨⟨pl, tT⟩, lTp, hlen⟩, ⟨⟨pls, pPl⟩, lPl⟩, hS⟩ := hW
  simp only at cN lN cT lT pP cI lI pI tT lTp hlen pPl lPl hS x6 x7
  obtain ⟨⟨m1, m2, m3, m4⟩, e1, e2, e3, e4⟩ := id cN
  simp only [XE, ColE, iA] at x1 x2 x5 m1 m2 m3 m4 e1 e2 e3 e4
  have hno : ¬ (inr a 0 3 = true) → K (some (.int (-1))) σ := fun z => h σ _ _ ⟨rfl, Or.inr ⟨z, rfl⟩⟩ frm.rf hW0
  refine ⟨Nat.le_of_ble_eq_true rfl, yvc_ok (uX6_in Γ) (S := []) 60 _ _ _ _ ?_⟩
  simp only [lv_args, Value.category, x1, x5, sp_X6_isDoor, bI_eq0, Bool.not_eq_false, yvc_s, s1i, s2i, s1l, s2l, sil, s1r, sir, siir, slir, srir, svr, sd1, sd2, lg, lput, ldel, isL_i, isL_r, isL_l, jmp, obj, obj1, fI, fR, arI, arL, arR, hput, f4_0, f4_1, f4_2, f4_3, lc_0, lc_1, rok_i, rok_b, rok_y, strF, fput_1, fput_2, csum_nil, csum_i, csum_l, csum_r, va_up_self, bx_uu, Int.reduceAdd, List.elem_nil, List.elem_cons, List.take_succ_cons, List.take_zero, List.drop_succ_cons, List.drop_zero, List.take_nil, List.drop_nil, List.reverse_cons, List.reverse_nil, List.nil_append, List.cons_append, List.append_nil, Option.toList_some, Option.toList_none, List.getElem?_cons_zero, List.getElem?_cons_succ, List.set_cons_zero, List.set_cons_succ, List.length_cons, List.length_nil, reduceIte, reduceCtorEq, and_true, true_and, and_self, or_true, true_or, false_and, and_false, not_true_eq_false, not_false_eq_true, true_implies, false_implies, implies_true, Nat.reduceAdd, Nat.reduceLT, Nat.reduceEqDiff, Nat.reduceLeDiff, Nat.reduceBEq, Nat.zero_add, Nat.lt_add_one, Bool.false_eq_true, Bool.or_false, Bool.or_true, Bool.or_self, Nat.zero_ne_one, Nat.one_ne_zero, ite_true, ite_false, ne_eq, Nat.reduceSub, Nat.succ_eq_add_one, Nat.zero_lt_succ, Nat.add_one_ne_zero, false_or, or_false, mX6_in_c, mX6_in_n, mX6_in_r, mX6_in_l, dX6_in_0, dX6_in_1, dX6_in_4, tg_4_5, cnd1_ne, dX6_in_7, ic_m1, dX6_in_8, dX6_in_9, dX6_in_10, fl_6_16_6, dX6_in_13, dX6_in_14, fl_6_10_6, dX6_in_17, dX6_in_20, dX6_in_21, dX6_in_24, dX6_in_25, bc_60, dX6_in_27, dX6_in_30, jX6_in_1_79, jX6_in_0_124, jX6_in_0_160, st_aload_n, st_bipush, st_getfield, st_iconst, st_ifCond, st_iload_n, st_invokestatic, st_invokevirtual, st_ireturn]
  refine ⟨fun c1 => ?_, fun c1 => hno c1⟩
  refine ⟨(t0, t1, t2, t3), (n0, n1, n2, n3), t, _, rfl, ap_lab lT lN (by decide), cT, cN, ?_⟩
  have hb := bec_wf (t := t) hpre
  simp only at hb
  have hC1 := cT.set (bec t (w, kp, kd, day, gone, draw, P, rule, gd))
  have hW1 := hW0.sT (csetL (Γ := Γ) lT) ⟨_, hC1⟩
  have hW2 := hW0.sT (csetL (Γ := Γ) lT) ⟨_, cT.set (fgC a 60 1 (bec t (w, kp, kd, day, gone, draw, P, rule, gd))).2⟩
  have hk := h _ _ _ ⟨rfl, Or.inl ⟨c1, t, rfl⟩⟩ (frmX (csetL lT) (by decide)) hW2
  rw [← cset_cset (s := bec t (w, kp, kd, day, gone, draw, P, rule, gd))] at hk
  simp only at hk
  generalize cset Γ (t0, t1, t2, t3) (bec t (w, kp, kd, day, gone, draw, P, rule, gd)) σ = σ1 at hC1 hW1 hk ⊢
  obtain ⟨⟨y1, -⟩, y5, -⟩ := id hW1
  simp only [XE] at y1 y5
  refine yvc_ok (uX6_in Γ) (S := []) 60 _ _ _ _ ?_
  simp only [y1, y5, yvc_s, s1i, s2i, s1l, s2l, sil, s1r, sir, siir, slir, srir, svr, sd1, sd2, lg, lput, ldel, isL_i, isL_r, isL_l, jmp, obj, obj1, fI, fR, arI, arL, arR, hput, f4_0, f4_1, f4_2, f4_3, lc_0, lc_1, rok_i, rok_b, rok_y, strF, fput_1, fput_2, csum_nil, csum_i, csum_l, csum_r, va_up_self, bx_uu, Int.reduceAdd, List.elem_nil, List.elem_cons, List.take_succ_cons, List.take_zero, List.drop_succ_cons, List.drop_zero, List.take_nil, List.drop_nil, List.reverse_cons, List.reverse_nil, List.nil_append, List.cons_append, List.append_nil, Option.toList_some, Option.toList_none, List.getElem?_cons_zero, List.getElem?_cons_succ, List.set_cons_zero, List.set_cons_succ, List.length_cons, List.length_nil, reduceIte, reduceCtorEq, and_true, true_and, and_self, or_true, true_or, false_and, and_false, not_true_eq_false, not_false_eq_true, true_implies, false_implies, implies_true, Nat.reduceAdd, Nat.reduceLT, Nat.reduceEqDiff, Nat.reduceLeDiff, Nat.reduceBEq, Nat.zero_add, Nat.lt_add_one, Bool.false_eq_true, Bool.or_false, Bool.or_true, Bool.or_self, Nat.zero_ne_one, Nat.one_ne_zero, ite_true, ite_false, ne_eq, Nat.reduceSub, Nat.succ_eq_add_one, Nat.zero_lt_succ, Nat.add_one_ne_zero, false_or, or_false, mX6_in_c, mX6_in_n, mX6_in_r, mX6_in_l, dX6_in_0, dX6_in_1, dX6_in_4, tg_4_5, cnd1_ne, dX6_in_7, ic_m1, dX6_in_8, dX6_in_9, dX6_in_10, fl_6_16_6, dX6_in_13, dX6_in_14, fl_6_10_6, dX6_in_17, dX6_in_20, dX6_in_21, dX6_in_24, dX6_in_25, bc_60, dX6_in_27, dX6_in_30, jX6_in_1_79, jX6_in_0_124, jX6_in_0_160, st_aload_n, st_bipush, st_getfield, st_iconst, st_ifCond, st_iload_n, st_invokestatic, st_invokevirtual, st_ireturn]
  refine ⟨(t0, t1, t2, t3), _, a, 60, rfl, by decide, hb, hC1, ?_⟩
  refine yvc_ok (uX6_in Γ) (S := []) 60 _ _ _ _ ?_
  simp only [yvc_s, s1i, s2i, s1l, s2l, sil, s1r, sir, siir, slir, srir, svr, sd1, sd2, lg, lput, ldel, isL_i, isL_r, isL_l, jmp, obj, obj1, fI, fR, arI, arL, arR, hput, f4_0, f4_1, f4_2, f4_3, lc_0, lc_1, rok_i, rok_b, rok_y, strF, fput_1, fput_2, csum_nil, csum_i, csum_l, csum_r, va_up_self, bx_uu, Int.reduceAdd, List.elem_nil, List.elem_cons, List.take_succ_cons, List.take_zero, List.drop_succ_cons, List.drop_zero, List.take_nil, List.drop_nil, List.reverse_cons, List.reverse_nil, List.nil_append, List.cons_append, List.append_nil, Option.toList_some, Option.toList_none, List.getElem?_cons_zero, List.getElem?_cons_succ, List.set_cons_zero, List.set_cons_succ, List.length_cons, List.length_nil, reduceIte, reduceCtorEq, and_true, true_and, and_self, or_true, true_or, false_and, and_false, not_true_eq_false, not_false_eq_true, true_implies, false_implies, implies_true, Nat.reduceAdd, Nat.reduceLT, Nat.reduceEqDiff, Nat.reduceLeDiff, Nat.reduceBEq, Nat.zero_add, Nat.lt_add_one, Bool.false_eq_true, Bool.or_false, Bool.or_true, Bool.or_self, Nat.zero_ne_one, Nat.one_ne_zero, ite_true, ite_false, ne_eq, Nat.reduceSub, Nat.succ_eq_add_one, Nat.zero_lt_succ, Nat.add_one_ne_zero, false_or, or_false, mX6_in_c, mX6_in_n, mX6_in_r, mX6_in_l, dX6_in_0, dX6_in_1, dX6_in_4, tg_4_5, cnd1_ne, dX6_in_7, ic_m1, dX6_in_8, dX6_in_9, dX6_in_10, fl_6_16_6, dX6_in_13, dX6_in_14, fl_6_10_6, dX6_in_17, dX6_in_20, dX6_in_21, dX6_in_24, dX6_in_25, bc_60, dX6_in_27, dX6_in_30, jX6_in_1_79, jX6_in_0_124, jX6_in_0_160, st_aload_n, st_bipush, st_getfield, st_iconst, st_ifCond, st_iload_n, st_invokestatic, st_invokevirtual, st_ireturn]
  exact hk
