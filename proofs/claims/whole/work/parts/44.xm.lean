/-! ===== YawnKeys: holds, had, keep, tempt, strict, yawn, image, restore ===== -/
def hlD (d : Int32) (k0 : Int32) : Nat → Nat → CS → Int32
  | 0, _, _ => -4
  | m + 1, i, s => if gbit (dayC s).2.2.2.2.2.2.2.2 d = true ∨ ¬ (dayC s).2.1 d.toNatClampNeg = k0 then nI i else hlD d k0 m (i + 1) (dayC s)
def sp_X6_holds (Γ : Cx) : YSp := fun av σ K => ∃ a : Int32, xq Γ [.int a] (ft (fun _ => inr a 0 3 = true) (fun ψ t => hlD a (ψ.1.2.1 a.toNatClampNeg) 60 1 (bec t ψ.1))) PX av σ K
theorem rv_X6_holds {Γ : Cx} : Recv (sp_X6_holds Γ) 1 6 := by
  intro av σ K h
  obtain ⟨a, h⟩ := h
  obtain ⟨q, fs, h1, h2, h3⟩ := rv_xq h
  exact ⟨q, _, fs, h1, rfl, h2, h3⟩
theorem bw_586 : Cond.methodLink RX6 166 yX0_wasGone ∈ BW := bw_i 586 (by decide +kernel) (by decide +kernel)
theorem tg_25_50 : tgo 25 50 = some 75 := by decide
theorem tg_43_24 : tgo 43 24 = some 67 := by decide
theorem tg_64_5 : tgo 64 5 = some 69 := by decide
theorem tg_72_m50 : tgo 72 (-50) = some 22 := by decide
def mX6_holds : Mt := (⟨4, 0, 0, 102⟩, RX6, cX6_holds, 3, some .int, (0, 0), none)
theorem mX6_holds_c : mX6_holds.2.2.1 = cX6_holds := rfl
theorem mX6_holds_n : mX6_holds.2.2.2.1 = 3 := rfl
theorem mX6_holds_r : mX6_holds.2.2.2.2.1 = some .int := rfl
theorem mX6_holds_l : mX6_holds.2.2.2.2.2.2 = none := rfl
def jX6_holds (Γ : Cx) : List ((Nat × Nat) × Nat × Bool × YSp) := [((1, 79), 1, true, sp_X6_isDoor Γ), ((0, 124), 2, false, sp_X0_become Γ), ((0, 163), 1, false, sp_X0_passDay Γ), ((0, 166), 2, true, sp_X0_wasGone Γ)]
theorem jX6_holds_1_79 (Γ : Cx) : kT (jX6_holds Γ) 1 79 = some (1, true, sp_X6_isDoor Γ) := rfl
theorem jX6_holds_0_124 (Γ : Cx) : kT (jX6_holds Γ) 0 124 = some (2, false, sp_X0_become Γ) := rfl
theorem jX6_holds_0_163 (Γ : Cx) : kT (jX6_holds Γ) 0 163 = some (1, false, sp_X0_passDay Γ) := rfl
theorem jX6_holds_0_166 (Γ : Cx) : kT (jX6_holds Γ) 0 166 = some (2, true, sp_X0_wasGone Γ) := rfl
theorem uX6_holds (Γ : Cx) : TbOK Γ mX6_holds (fT fX6, cT kX6, kT (jX6_holds Γ)) := tb_ok fX6_ok kX6_ok (all_cons ⟨call_S (n := 1) (ok_X6_isDoor Γ) (rv_X6_isDoor (Γ := Γ)) bw_269 bw_267 bw_268 bw_42 no_X6_isDoor ⟨⟨rfl, rfl⟩, ⟨by decide, by decide⟩, ⟨by decide, by decide⟩⟩, fun _ => mono_X6_isDoor (Γ := Γ)⟩ (all_cons ⟨call_V (n := 1) (T := TX0) (N := 9) (ok_X0_become Γ) (rv_X0_become (Γ := Γ)) rfl bw_451 bw_448 bw_449 bw_450 bw_44 no_X0_become ⟨⟨rfl, rfl⟩, ⟨by decide, by decide⟩, ⟨by decide, by decide⟩⟩, fun z => by cases z⟩ (all_cons ⟨call_V (n := 0) (T := TX0) (N := 9) (ok_X0_passDay Γ) (rv_X0_passDay (Γ := Γ)) rfl bw_517 bw_514 bw_515 bw_516 bw_44 no_X0_passDay ⟨⟨rfl, rfl⟩, ⟨by decide, by decide⟩, ⟨by decide, by decide⟩⟩, fun z => by cases z⟩ (all_cons ⟨call_V (n := 1) (T := TX0) (N := 9) (ok_X0_wasGone Γ) (rv_X0_wasGone (Γ := Γ)) rfl bw_581 bw_586 bw_579 bw_580 bw_44 no_X0_wasGone ⟨⟨rfl, rfl⟩, ⟨by decide, by decide⟩, ⟨by decide, by decide⟩⟩, fun _ => mono_X0_wasGone (Γ := Γ)⟩ (all_nil)))))
theorem gt60 : (60 : Int32) < nI 61 := by decide
theorem ngt60 {i : Nat} (h : i ≤ 60) : ¬ (60 : Int32) < nI i := nI_nlt (a := 60) h (by decide)
set_option maxRecDepth 20000 in
theorem ok_X6_holds (Γ : Cx) : Ok Γ yX6_holds mX6_holds (sp_X6_holds Γ) := by
  refine ok_intro (by decide +kernel) rfl rfl ?_
  intro av σ K h
  obtain ⟨a, lab, X, ψ, rfl, hW, hpre, h⟩ := h
  obtain ⟨x, sh, ⟨n0, n1, n2, n3⟩, ⟨t0, t1, t2, t3⟩, p, ⟨i0, i1, i2, i3⟩, ip, ⟨ta, tl⟩, ⟨pa, pk⟩, S⟩ := X
  obtain ⟨⟨w, kp, kd, day, gone, draw, P, rule, gd⟩, si, ⟨pc, pn⟩, ⟨qc, qn⟩, hi, ⟨l, len⟩, ss⟩ := ψ
  have hW0 := hW
  obtain ⟨⟨x1, x2, x3, x4⟩, x5, ⟨sf, x6, x7⟩, ⟨cN, lN⟩, ⟨⟨t, cT⟩, lT⟩, pP, ⟨cI, lI⟩, pI, ⟨⟨pl, tT⟩, lTp, hlen⟩, ⟨⟨pls, pPl⟩, lPl⟩, hS⟩ := hW
  simp only at cN lN cT lT pP cI lI pI tT lTp hlen pPl lPl hS x6 x7
  obtain ⟨⟨m1, m2, m3, m4⟩, e1, e2, e3, e4⟩ := id cN
  simp only [XE, ColE, iA] at x1 x2 x5 m1 m2 m3 m4 e1 e2 e3 e4
  have hno : ¬ (inr a 0 3 = true) → K (some (.int (-1))) σ := fun z => h σ _ _ ⟨rfl, Or.inr ⟨z, rfl⟩⟩ frm.rf hW0
  refine ⟨Nat.le_of_ble_eq_true rfl, yvc_ok (uX6_holds Γ) (S := []) 60 _ _ _ _ ?_⟩
  simp only [lv_args, Value.category, x1, x5, sp_X6_isDoor, bI_eq0, Bool.not_eq_false, yvc_s, s1i, s2i, s1l, s2l, sil, s1r, sir, siir, slir, srir, svr, sd1, sd2, lg, lput, ldel, isL_i, isL_r, isL_l, jmp, obj, obj1, fI, fR, arI, arL, arR, hput, f4_0, f4_1, f4_2, f4_3, lc_0, lc_1, rok_i, rok_b, rok_y, strF, fput_1, fput_2, csum_nil, csum_i, csum_l, csum_r, va_up_self, bx_uu, Int.reduceAdd, List.elem_nil, List.elem_cons, List.take_succ_cons, List.take_zero, List.drop_succ_cons, List.drop_zero, List.take_nil, List.drop_nil, List.reverse_cons, List.reverse_nil, List.nil_append, List.cons_append, List.append_nil, Option.toList_some, Option.toList_none, List.getElem?_cons_zero, List.getElem?_cons_succ, List.set_cons_zero, List.set_cons_succ, List.length_cons, List.length_nil, reduceIte, reduceCtorEq, and_true, true_and, and_self, or_true, true_or, false_and, and_false, not_true_eq_false, not_false_eq_true, true_implies, false_implies, implies_true, Nat.reduceAdd, Nat.reduceLT, Nat.reduceEqDiff, Nat.reduceLeDiff, Nat.reduceBEq, Nat.zero_add, Nat.lt_add_one, Bool.false_eq_true, Bool.or_false, Bool.or_true, Bool.or_self, Nat.zero_ne_one, Nat.one_ne_zero, ite_true, ite_false, ne_eq, Nat.reduceSub, Nat.succ_eq_add_one, Nat.zero_lt_succ, Nat.add_one_ne_zero, false_or, or_false, mX6_holds_c, mX6_holds_n, mX6_holds_r, mX6_holds_l, dX6_holds_0, dX6_holds_1, dX6_holds_4, tg_4_5, cnd1_ne, dX6_holds_7, ic_m1, dX6_holds_8, dX6_holds_9, dX6_holds_10, fl_6_16_6, dX6_holds_13, dX6_holds_14, fl_6_10_6, dX6_holds_17, dX6_holds_20, ic_1, dX6_holds_21, dX6_holds_22, dX6_holds_23, bc_60, dX6_holds_25, tg_25_50, cnd2_gt, dX6_holds_28, dX6_holds_29, dX6_holds_32, dX6_holds_35, dX6_holds_36, dX6_holds_39, dX6_holds_40, dX6_holds_43, tg_43_24, dX6_holds_46, dX6_holds_47, dX6_holds_50, fl_6_96_0, dX6_holds_53, dX6_holds_54, dX6_holds_55, dX6_holds_56, dX6_holds_59, dX6_holds_62, dX6_holds_63, dX6_holds_64, tg_64_5, cnd2_eq, dX6_holds_67, dX6_holds_68, dX6_holds_69, dX6_holds_72, tg_72_m50, dX6_holds_75, bc_m4, dX6_holds_77, jX6_holds_1_79, jX6_holds_0_124, jX6_holds_0_163, jX6_holds_0_166, st_aload_n, st_bipush, st_getfield, st_goto, st_iaload, st_iconst, st_ifCond, st_if_icmp, st_iinc, st_iload_n, st_invokestatic, st_invokevirtual, st_ireturn, st_istore_n]
  refine ⟨fun c1 => ?_, fun c1 => hno c1⟩
  have hR := fun σ2 hf2 hW2 => h σ2 _ _ ⟨rfl, Or.inl ⟨c1, t, rfl⟩⟩ hf2 hW2
  simp only at hR
  obtain ⟨q, hq, rfl⟩ := door_n c1
  obtain ⟨-, d2, d3⟩ := lt4 hq
  have loop : ∀ m i : Nat, ∀ (s : CS) (σ1 : Hp), i + m = 61 → WfC s → frm (fL lab 2) σ σ1 → XW Γ lab (x, sh, (n0, n1, n2, n3), (t0, t1, t2, t3), p, (i0, i1, i2, i3), ip, (ta, tl), (pa, pk), S) ((w, kp, kd, day, gone, draw, P, rule, gd), si, (pc, pn), (qc, qn), hi, (l, len), ss) σ1 → Col Γ (t0, t1, t2, t3) s σ1 → hlD (nI q) (kp (nI q).toNatClampNeg) m i s = hlD (nI q) (kp (nI q).toNatClampNeg) 60 1 (bec t (w, kp, kd, day, gone, draw, P, rule, gd)) → YG Γ mX6_holds K 22 [(0, .ref x), (1, .int (nI q)), (2, .int (nI i))] [] σ1 := by
    intro m
    induction m with
    | zero =>
      intro i s σ1 hi1 hwf hf1 hW1 hC1 hr
      obtain rfl : i = 61 := by omega
      have hk := hR σ1 (frmX hf1 (by decide)) hW1
      rw [← hr] at hk
      refine yvc1_ok (uX6_holds Γ) (S := [22]) 40 ?_
      simp only [yvc1, gt60, yvc_s, s1i, s2i, s1l, s2l, sil, s1r, sir, siir, slir, srir, svr, sd1, sd2, lg, lput, ldel, isL_i, isL_r, isL_l, jmp, obj, obj1, fI, fR, arI, arL, arR, hput, f4_0, f4_1, f4_2, f4_3, lc_0, lc_1, rok_i, rok_b, rok_y, strF, fput_1, fput_2, csum_nil, csum_i, csum_l, csum_r, va_up_self, bx_uu, Int.reduceAdd, List.elem_nil, List.elem_cons, List.take_succ_cons, List.take_zero, List.drop_succ_cons, List.drop_zero, List.take_nil, List.drop_nil, List.reverse_cons, List.reverse_nil, List.nil_append, List.cons_append, List.append_nil, Option.toList_some, Option.toList_none, List.getElem?_cons_zero, List.getElem?_cons_succ, List.set_cons_zero, List.set_cons_succ, List.length_cons, List.length_nil, reduceIte, reduceCtorEq, and_true, true_and, and_self, or_true, true_or, false_and, and_false, not_true_eq_false, not_false_eq_true, true_implies, false_implies, implies_true, Nat.reduceAdd, Nat.reduceLT, Nat.reduceEqDiff, Nat.reduceLeDiff, Nat.reduceBEq, Nat.zero_add, Nat.lt_add_one, Bool.false_eq_true, Bool.or_false, Bool.or_true, Bool.or_self, Nat.zero_ne_one, Nat.one_ne_zero, ite_true, ite_false, ne_eq, Nat.reduceSub, Nat.succ_eq_add_one, Nat.zero_lt_succ, Nat.add_one_ne_zero, false_or, or_false, mX6_holds_c, mX6_holds_n, mX6_holds_r, mX6_holds_l, dX6_holds_0, dX6_holds_1, dX6_holds_4, tg_4_5, cnd1_ne, dX6_holds_7, ic_m1, dX6_holds_8, dX6_holds_9, dX6_holds_10, fl_6_16_6, dX6_holds_13, dX6_holds_14, fl_6_10_6, dX6_holds_17, dX6_holds_20, ic_1, dX6_holds_21, dX6_holds_22, dX6_holds_23, bc_60, dX6_holds_25, tg_25_50, cnd2_gt, dX6_holds_28, dX6_holds_29, dX6_holds_32, dX6_holds_35, dX6_holds_36, dX6_holds_39, dX6_holds_40, dX6_holds_43, tg_43_24, dX6_holds_46, dX6_holds_47, dX6_holds_50, fl_6_96_0, dX6_holds_53, dX6_holds_54, dX6_holds_55, dX6_holds_56, dX6_holds_59, dX6_holds_62, dX6_holds_63, dX6_holds_64, tg_64_5, cnd2_eq, dX6_holds_67, dX6_holds_68, dX6_holds_69, dX6_holds_72, tg_72_m50, dX6_holds_75, bc_m4, dX6_holds_77, jX6_holds_1_79, jX6_holds_0_124, jX6_holds_0_163, jX6_holds_0_166, st_aload_n, st_bipush, st_getfield, st_goto, st_iaload, st_iconst, st_ifCond, st_if_icmp, st_iinc, st_iload_n, st_invokestatic, st_invokevirtual, st_ireturn, st_istore_n]
      exact hk
    | succ m ih =>
      intro i s σ1 hi1 hwf hf1 hW1 hC1 hr
      have g0 := ngt60 (show i ≤ 60 by omega)
      obtain ⟨⟨y1, -⟩, y5, -⟩ := id hW1
      simp only [XE] at y1 y5
      refine yvc1_ok (uX6_holds Γ) (S := [22]) 40 ?_
      simp only [yvc1, g0, y1, y5, yvc_s, s1i, s2i, s1l, s2l, sil, s1r, sir, siir, slir, srir, svr, sd1, sd2, lg, lput, ldel, isL_i, isL_r, isL_l, jmp, obj, obj1, fI, fR, arI, arL, arR, hput, f4_0, f4_1, f4_2, f4_3, lc_0, lc_1, rok_i, rok_b, rok_y, strF, fput_1, fput_2, csum_nil, csum_i, csum_l, csum_r, va_up_self, bx_uu, Int.reduceAdd, List.elem_nil, List.elem_cons, List.take_succ_cons, List.take_zero, List.drop_succ_cons, List.drop_zero, List.take_nil, List.drop_nil, List.reverse_cons, List.reverse_nil, List.nil_append, List.cons_append, List.append_nil, Option.toList_some, Option.toList_none, List.getElem?_cons_zero, List.getElem?_cons_succ, List.set_cons_zero, List.set_cons_succ, List.length_cons, List.length_nil, reduceIte, reduceCtorEq, and_true, true_and, and_self, or_true, true_or, false_and, and_false, not_true_eq_false, not_false_eq_true, true_implies, false_implies, implies_true, Nat.reduceAdd, Nat.reduceLT, Nat.reduceEqDiff, Nat.reduceLeDiff, Nat.reduceBEq, Nat.zero_add, Nat.lt_add_one, Bool.false_eq_true, Bool.or_false, Bool.or_true, Bool.or_self, Nat.zero_ne_one, Nat.one_ne_zero, ite_true, ite_false, ne_eq, Nat.reduceSub, Nat.succ_eq_add_one, Nat.zero_lt_succ, Nat.add_one_ne_zero, false_or, or_false, mX6_holds_c, mX6_holds_n, mX6_holds_r, mX6_holds_l, dX6_holds_0, dX6_holds_1, dX6_holds_4, tg_4_5, cnd1_ne, dX6_holds_7, ic_m1, dX6_holds_8, dX6_holds_9, dX6_holds_10, fl_6_16_6, dX6_holds_13, dX6_holds_14, fl_6_10_6, dX6_holds_17, dX6_holds_20, ic_1, dX6_holds_21, dX6_holds_22, dX6_holds_23, bc_60, dX6_holds_25, tg_25_50, cnd2_gt, dX6_holds_28, dX6_holds_29, dX6_holds_32, dX6_holds_35, dX6_holds_36, dX6_holds_39, dX6_holds_40, dX6_holds_43, tg_43_24, dX6_holds_46, dX6_holds_47, dX6_holds_50, fl_6_96_0, dX6_holds_53, dX6_holds_54, dX6_holds_55, dX6_holds_56, dX6_holds_59, dX6_holds_62, dX6_holds_63, dX6_holds_64, tg_64_5, cnd2_eq, dX6_holds_67, dX6_holds_68, dX6_holds_69, dX6_holds_72, tg_72_m50, dX6_holds_75, bc_m4, dX6_holds_77, jX6_holds_1_79, jX6_holds_0_124, jX6_holds_0_163, jX6_holds_0_166, st_aload_n, st_bipush, st_getfield, st_goto, st_iaload, st_iconst, st_ifCond, st_if_icmp, st_iinc, st_iload_n, st_invokestatic, st_invokevirtual, st_ireturn, st_istore_n]
      refine ⟨(t0, t1, t2, t3), s, rfl, hwf, hC1, ?_⟩
      have hf2 : frm (fL lab 2) σ (cset Γ (t0, t1, t2, t3) (dayC s) σ1) := hf1.tr (csetL lT)
      have hC2 := hC1.set (dayC s)
      have hW2 := hW1.sT (csetL (Γ := Γ) lT) ⟨_, hC2⟩
      have hw2 := (dayC_wf hwf).1
      rw [hlD] at hr
      generalize cset Γ (t0, t1, t2, t3) (dayC s) σ1 = σ2 at hf2 hC2 hW2 ⊢
      generalize dayC s = s2 at hC2 hw2 hr
      have hi2 := ih (i + 1) s2 σ2 (by omega) hw2 hf2 hW2 hC2
      have hk := hR σ2 (frmX hf2 (by decide)) hW2
      obtain ⟨w1, kp1, kd1, day1, gone1, draw1, P1, rule1, gd1⟩ := s2
      obtain ⟨⟨z1, -⟩, z5, -, ⟨cN2, -⟩, -⟩ := id hW2
      obtain ⟨⟨u1, u2, u3, u4⟩, g1, g2, g3, g4⟩ := id hC2
      obtain ⟨⟨v1, v2, v3, v4⟩, f1, f2, f3, f4⟩ := id cN2
      simp only [XE, ColE, iA] at z1 z5 u1 u3 g1 g3 v1 v3 f1 f3 hr
      rw [d3] at hr hi2 hk
      refine yvc_ok (uX6_holds Γ) (S := [22]) 40 _ _ _ _ ?_
      simp only [z1, z5, u1, u3, g1, g3, v1, v3, f1, f3, d2, d3, sp_X0_wasGone, bI_eq0, Bool.not_eq_false, nI_1, yvc_s, s1i, s2i, s1l, s2l, sil, s1r, sir, siir, slir, srir, svr, sd1, sd2, lg, lput, ldel, isL_i, isL_r, isL_l, jmp, obj, obj1, fI, fR, arI, arL, arR, hput, f4_0, f4_1, f4_2, f4_3, lc_0, lc_1, rok_i, rok_b, rok_y, strF, fput_1, fput_2, csum_nil, csum_i, csum_l, csum_r, va_up_self, bx_uu, Int.reduceAdd, List.elem_nil, List.elem_cons, List.take_succ_cons, List.take_zero, List.drop_succ_cons, List.drop_zero, List.take_nil, List.drop_nil, List.reverse_cons, List.reverse_nil, List.nil_append, List.cons_append, List.append_nil, Option.toList_some, Option.toList_none, List.getElem?_cons_zero, List.getElem?_cons_succ, List.set_cons_zero, List.set_cons_succ, List.length_cons, List.length_nil, reduceIte, reduceCtorEq, and_true, true_and, and_self, or_true, true_or, false_and, and_false, not_true_eq_false, not_false_eq_true, true_implies, false_implies, implies_true, Nat.reduceAdd, Nat.reduceLT, Nat.reduceEqDiff, Nat.reduceLeDiff, Nat.reduceBEq, Nat.zero_add, Nat.lt_add_one, Bool.false_eq_true, Bool.or_false, Bool.or_true, Bool.or_self, Nat.zero_ne_one, Nat.one_ne_zero, ite_true, ite_false, ne_eq, Nat.reduceSub, Nat.succ_eq_add_one, Nat.zero_lt_succ, Nat.add_one_ne_zero, false_or, or_false, mX6_holds_c, mX6_holds_n, mX6_holds_r, mX6_holds_l, dX6_holds_0, dX6_holds_1, dX6_holds_4, tg_4_5, cnd1_ne, dX6_holds_7, ic_m1, dX6_holds_8, dX6_holds_9, dX6_holds_10, fl_6_16_6, dX6_holds_13, dX6_holds_14, fl_6_10_6, dX6_holds_17, dX6_holds_20, ic_1, dX6_holds_21, dX6_holds_22, dX6_holds_23, bc_60, dX6_holds_25, tg_25_50, cnd2_gt, dX6_holds_28, dX6_holds_29, dX6_holds_32, dX6_holds_35, dX6_holds_36, dX6_holds_39, dX6_holds_40, dX6_holds_43, tg_43_24, dX6_holds_46, dX6_holds_47, dX6_holds_50, fl_6_96_0, dX6_holds_53, dX6_holds_54, dX6_holds_55, dX6_holds_56, dX6_holds_59, dX6_holds_62, dX6_holds_63, dX6_holds_64, tg_64_5, cnd2_eq, dX6_holds_67, dX6_holds_68, dX6_holds_69, dX6_holds_72, tg_72_m50, dX6_holds_75, bc_m4, dX6_holds_77, jX6_holds_1_79, jX6_holds_0_124, jX6_holds_0_163, jX6_holds_0_166, st_aload_n, st_bipush, st_getfield, st_goto, st_iaload, st_iconst, st_ifCond, st_if_icmp, st_iinc, st_iload_n, st_invokestatic, st_invokevirtual, st_ireturn, st_istore_n]
      refine ⟨fun c2 => ?_, fun c2 => ⟨fun c3 => ?_, fun c3 => ?_⟩⟩
      · rw [if_pos (Or.inl c2)] at hr
        rw [← hr] at hk
        exact hk
      · rw [if_neg (fun z => z.elim (fun z => c2 z) (fun z => z c3))] at hr
        exact hi2 hr
      · rw [if_pos (Or.inr c3)] at hr
        rw [← hr] at hk
        exact hk
  refine ⟨(t0, t1, t2, t3), (n0, n1, n2, n3), t, _, rfl, ap_lab lT lN (by decide), cT, cN, ?_⟩
  have hb := bec_wf (t := t) hpre
  have hC1 := cT.set (bec t (w, kp, kd, day, gone, draw, P, rule, gd))
  have hl := loop 60 1 _ _ rfl hb (csetL lT) (hW0.sT (csetL (Γ := Γ) lT) ⟨_, hC1⟩) hC1 rfl
  refine yvc_ok (uX6_holds Γ) (S := [22]) 60 _ _ _ _ ?_
  simp only [yvc_s, s1i, s2i, s1l, s2l, sil, s1r, sir, siir, slir, srir, svr, sd1, sd2, lg, lput, ldel, isL_i, isL_r, isL_l, jmp, obj, obj1, fI, fR, arI, arL, arR, hput, f4_0, f4_1, f4_2, f4_3, lc_0, lc_1, rok_i, rok_b, rok_y, strF, fput_1, fput_2, csum_nil, csum_i, csum_l, csum_r, va_up_self, bx_uu, Int.reduceAdd, List.elem_nil, List.elem_cons, List.take_succ_cons, List.take_zero, List.drop_succ_cons, List.drop_zero, List.take_nil, List.drop_nil, List.reverse_cons, List.reverse_nil, List.nil_append, List.cons_append, List.append_nil, Option.toList_some, Option.toList_none, List.getElem?_cons_zero, List.getElem?_cons_succ, List.set_cons_zero, List.set_cons_succ, List.length_cons, List.length_nil, reduceIte, reduceCtorEq, and_true, true_and, and_self, or_true, true_or, false_and, and_false, not_true_eq_false, not_false_eq_true, true_implies, false_implies, implies_true, Nat.reduceAdd, Nat.reduceLT, Nat.reduceEqDiff, Nat.reduceLeDiff, Nat.reduceBEq, Nat.zero_add, Nat.lt_add_one, Bool.false_eq_true, Bool.or_false, Bool.or_true, Bool.or_self, Nat.zero_ne_one, Nat.one_ne_zero, ite_true, ite_false, ne_eq, Nat.reduceSub, Nat.succ_eq_add_one, Nat.zero_lt_succ, Nat.add_one_ne_zero, false_or, or_false, mX6_holds_c, mX6_holds_n, mX6_holds_r, mX6_holds_l, dX6_holds_0, dX6_holds_1, dX6_holds_4, tg_4_5, cnd1_ne, dX6_holds_7, ic_m1, dX6_holds_8, dX6_holds_9, dX6_holds_10, fl_6_16_6, dX6_holds_13, dX6_holds_14, fl_6_10_6, dX6_holds_17, dX6_holds_20, ic_1, dX6_holds_21, dX6_holds_22, dX6_holds_23, bc_60, dX6_holds_25, tg_25_50, cnd2_gt, dX6_holds_28, dX6_holds_29, dX6_holds_32, dX6_holds_35, dX6_holds_36, dX6_holds_39, dX6_holds_40, dX6_holds_43, tg_43_24, dX6_holds_46, dX6_holds_47, dX6_holds_50, fl_6_96_0, dX6_holds_53, dX6_holds_54, dX6_holds_55, dX6_holds_56, dX6_holds_59, dX6_holds_62, dX6_holds_63, dX6_holds_64, tg_64_5, cnd2_eq, dX6_holds_67, dX6_holds_68, dX6_holds_69, dX6_holds_72, tg_72_m50, dX6_holds_75, bc_m4, dX6_holds_77, jX6_holds_1_79, jX6_holds_0_124, jX6_holds_0_163, jX6_holds_0_166, st_aload_n, st_bipush, st_getfield, st_goto, st_iaload, st_iconst, st_ifCond, st_if_icmp, st_iinc, st_iload_n, st_invokestatic, st_invokevirtual, st_ireturn, st_istore_n]
  exact hl
def hdD (d : Nat) : Nat → CS → Int32 → Int32
  | 0, _, acc => acc
  | m + 1, s, acc => hdD d m (dayC s) (acc ||| kas ((dayC s).2.1 d))
def sp_X6_had (Γ : Cx) : YSp := fun av σ K => ∃ a b : Int32, xq Γ [.int a, .int b] (ft (fun _ => inr a 0 3 = true ∧ inr b 0 60 = true) (fun ψ t => hdD a.toNatClampNeg b.toNatClampNeg (bec t ψ.1) (kas ((bec t ψ.1).2.1 a.toNatClampNeg)))) PX av σ K
theorem rv_X6_had {Γ : Cx} : Recv (sp_X6_had Γ) 2 6 := by
  intro av σ K h
  obtain ⟨a, b, h⟩ := h
  obtain ⟨q, fs, h1, h2, h3⟩ := rv_xq h
  exact ⟨q, _, fs, h1, rfl, h2, h3⟩
theorem bw_591 : Cond.methodLink RX6 169 yX0_keeperAsSet ∈ BW := bw_i 591 (by decide +kernel) (by decide +kernel)
theorem tg_45_27 : tgo 45 27 = some 72 := by decide
theorem tg_69_m27 : tgo 69 (-27) = some 42 := by decide
def mX6_had : Mt := (⟨4, 0, 0, 102⟩, RX6, cX6_had, 5, some .int, (0, 0), none)
theorem mX6_had_c : mX6_had.2.2.1 = cX6_had := rfl
theorem mX6_had_n : mX6_had.2.2.2.1 = 5 := rfl
theorem mX6_had_r : mX6_had.2.2.2.2.1 = some .int := rfl
theorem mX6_had_l : mX6_had.2.2.2.2.2.2 = none := rfl
def jX6_had (Γ : Cx) : List ((Nat × Nat) × Nat × Bool × YSp) := [((1, 79), 1, true, sp_X6_isDoor Γ), ((1, 57), 3, true, sp_X6_within Γ), ((0, 124), 2, false, sp_X0_become Γ), ((0, 169), 2, true, sp_X0_keeperAsSet Γ), ((0, 163), 1, false, sp_X0_passDay Γ)]
theorem jX6_had_1_79 (Γ : Cx) : kT (jX6_had Γ) 1 79 = some (1, true, sp_X6_isDoor Γ) := rfl
theorem jX6_had_1_57 (Γ : Cx) : kT (jX6_had Γ) 1 57 = some (3, true, sp_X6_within Γ) := rfl
theorem jX6_had_0_124 (Γ : Cx) : kT (jX6_had Γ) 0 124 = some (2, false, sp_X0_become Γ) := rfl
theorem jX6_had_0_169 (Γ : Cx) : kT (jX6_had Γ) 0 169 = some (2, true, sp_X0_keeperAsSet Γ) := rfl
theorem jX6_had_0_163 (Γ : Cx) : kT (jX6_had Γ) 0 163 = some (1, false, sp_X0_passDay Γ) := rfl
theorem uX6_had (Γ : Cx) : TbOK Γ mX6_had (fT fX6, cT kX6, kT (jX6_had Γ)) := tb_ok fX6_ok kX6_ok (all_cons ⟨call_S (n := 1) (ok_X6_isDoor Γ) (rv_X6_isDoor (Γ := Γ)) bw_269 bw_267 bw_268 bw_42 no_X6_isDoor ⟨⟨rfl, rfl⟩, ⟨by decide, by decide⟩, ⟨by decide, by decide⟩⟩, fun _ => mono_X6_isDoor (Γ := Γ)⟩ (all_cons ⟨call_S (n := 3) (ok_X6_within Γ) (rv_X6_within (Γ := Γ)) bw_241 bw_239 bw_240 bw_42 no_X6_within ⟨⟨rfl, rfl⟩, ⟨by decide, by decide⟩, ⟨by decide, by decide⟩⟩, fun _ => mono_X6_within (Γ := Γ)⟩ (all_cons ⟨call_V (n := 1) (T := TX0) (N := 9) (ok_X0_become Γ) (rv_X0_become (Γ := Γ)) rfl bw_451 bw_448 bw_449 bw_450 bw_44 no_X0_become ⟨⟨rfl, rfl⟩, ⟨by decide, by decide⟩, ⟨by decide, by decide⟩⟩, fun z => by cases z⟩ (all_cons ⟨call_V (n := 1) (T := TX0) (N := 9) (ok_X0_keeperAsSet Γ) (rv_X0_keeperAsSet (Γ := Γ)) rfl bw_483 bw_591 bw_481 bw_482 bw_44 no_X0_keeperAsSet ⟨⟨rfl, rfl⟩, ⟨by decide, by decide⟩, ⟨by decide, by decide⟩⟩, fun _ => mono_X0_keeperAsSet (Γ := Γ)⟩ (all_cons ⟨call_V (n := 0) (T := TX0) (N := 9) (ok_X0_passDay Γ) (rv_X0_passDay (Γ := Γ)) rfl bw_517 bw_514 bw_515 bw_516 bw_44 no_X0_passDay ⟨⟨rfl, rfl⟩, ⟨by decide, by decide⟩, ⟨by decide, by decide⟩⟩, fun z => by cases z⟩ (all_nil))))))
set_option maxRecDepth 20000 in
theorem ok_X6_had (Γ : Cx) : Ok Γ yX6_had mX6_had (sp_X6_had Γ) := by
  refine ok_intro (by decide +kernel) rfl rfl ?_
  intro av σ K h
  obtain ⟨a, b, lab, X, ψ, rfl, hW, hpre, h⟩ := h
  obtain ⟨x, sh, ⟨n0, n1, n2, n3⟩, ⟨t0, t1, t2, t3⟩, p, ⟨i0, i1, i2, i3⟩, ip, ⟨ta, tl⟩, ⟨pa, pk⟩, S⟩ := X
  obtain ⟨⟨w, kp, kd, day, gone, draw, P, rule, gd⟩, si, ⟨pc, pn⟩, ⟨qc, qn⟩, hi, ⟨l, len⟩, ss⟩ := ψ
  have hW0 := hW
  obtain ⟨⟨x1, x2, x3, x4⟩, x5, ⟨sf, x6, x7⟩, ⟨cN, lN⟩, ⟨⟨t, cT⟩, lT⟩, pP, ⟨cI, lI⟩, pI, ⟨⟨pl, tT⟩, lTp, hlen⟩, ⟨⟨pls, pPl⟩, lPl⟩, hS⟩ := hW
  simp only at cN lN cT lT pP cI lI pI tT lTp hlen pPl lPl hS x6 x7
  obtain ⟨⟨m1, m2, m3, m4⟩, e1, e2, e3, e4⟩ := id cN
  simp only [XE, ColE, iA] at x1 x2 x5 m1 m2 m3 m4 e1 e2 e3 e4
  have hno : ¬ (inr a 0 3 = true ∧ inr b 0 60 = true) → K (some (.int (-1))) σ := fun z => h σ _ _ ⟨rfl, Or.inr ⟨z, rfl⟩⟩ frm.rf hW0
  refine ⟨Nat.le_of_ble_eq_true rfl, yvc_ok (uX6_had Γ) (S := []) 60 _ _ _ _ ?_⟩
  simp only [lv_args, Value.category, x1, x5, sp_X6_isDoor, sp_X6_within, bI_eq0, Bool.not_eq_false, yvc_s, s1i, s2i, s1l, s2l, sil, s1r, sir, siir, slir, srir, svr, sd1, sd2, lg, lput, ldel, isL_i, isL_r, isL_l, jmp, obj, obj1, fI, fR, arI, arL, arR, hput, f4_0, f4_1, f4_2, f4_3, lc_0, lc_1, rok_i, rok_b, rok_y, strF, fput_1, fput_2, csum_nil, csum_i, csum_l, csum_r, va_up_self, bx_uu, Int.reduceAdd, List.elem_nil, List.elem_cons, List.take_succ_cons, List.take_zero, List.drop_succ_cons, List.drop_zero, List.take_nil, List.drop_nil, List.reverse_cons, List.reverse_nil, List.nil_append, List.cons_append, List.append_nil, Option.toList_some, Option.toList_none, List.getElem?_cons_zero, List.getElem?_cons_succ, List.set_cons_zero, List.set_cons_succ, List.length_cons, List.length_nil, reduceIte, reduceCtorEq, and_true, true_and, and_self, or_true, true_or, false_and, and_false, not_true_eq_false, not_false_eq_true, true_implies, false_implies, implies_true, Nat.reduceAdd, Nat.reduceLT, Nat.reduceEqDiff, Nat.reduceLeDiff, Nat.reduceBEq, Nat.zero_add, Nat.lt_add_one, Bool.false_eq_true, Bool.or_false, Bool.or_true, Bool.or_self, Nat.zero_ne_one, Nat.one_ne_zero, ite_true, ite_false, ne_eq, Nat.reduceSub, Nat.succ_eq_add_one, Nat.zero_lt_succ, Nat.add_one_ne_zero, false_or, or_false, mX6_had_c, mX6_had_n, mX6_had_r, mX6_had_l, dX6_had_0, dX6_had_1, dX6_had_4, tg_4_13, cnd1_eq, dX6_had_7, dX6_had_8, ic_0, dX6_had_9, bc_60, dX6_had_11, dX6_had_14, tg_14_5, cnd1_ne, dX6_had_17, ic_m1, dX6_had_18, dX6_had_19, dX6_had_20, fl_6_16_6, dX6_had_23, dX6_had_24, fl_6_10_6, dX6_had_27, dX6_had_30, dX6_had_31, dX6_had_34, dX6_had_35, dX6_had_38, dX6_had_39, ic_1, dX6_had_40, dX6_had_42, dX6_had_44, dX6_had_45, tg_45_27, cnd2_gt, dX6_had_48, dX6_had_49, dX6_had_52, dX6_had_55, dX6_had_56, dX6_had_57, dX6_had_60, dX6_had_61, dX6_had_64, dX6_had_65, dX6_had_66, dX6_had_69, tg_69_m27, dX6_had_72, dX6_had_73, jX6_had_1_79, jX6_had_1_57, jX6_had_0_124, jX6_had_0_169, jX6_had_0_163, st_aload_n, st_bipush, st_getfield, st_goto, st_iconst, st_ifCond, st_if_icmp, st_iinc, st_iload, st_iload_n, st_invokestatic, st_invokevirtual, st_ior, st_ireturn, st_istore, st_istore_n]
  refine ⟨fun c1 => hno (fun z => by rw [c1] at z; cases z.1), fun c1 => ⟨fun c2 => ?_, fun c2 => hno (fun z => c2 z.2)⟩⟩
  have hR := fun σ2 hf2 hW2 => h σ2 _ _ ⟨rfl, Or.inl ⟨⟨c1, c2⟩, t, rfl⟩⟩ hf2 hW2
  simp only at hR
  obtain ⟨q, hq, rfl⟩ := door_n c1
  obtain ⟨N, hN, rfl⟩ := in_n (B := 60) (by decide) c2
  obtain ⟨-, d2, d3⟩ := lt4 hq
  rw [d3, nI_clamp (show N < 2 ^ 31 by omega)] at hR
  have loop : ∀ m i : Nat, ∀ (s : CS) (acc : Int32) (σ1 : Hp), i + m = N + 1 → WfC s → frm (fL lab 2) σ σ1 → XW Γ lab (x, sh, (n0, n1, n2, n3), (t0, t1, t2, t3), p, (i0, i1, i2, i3), ip, (ta, tl), (pa, pk), S) ((w, kp, kd, day, gone, draw, P, rule, gd), si, (pc, pn), (qc, qn), hi, (l, len), ss) σ1 → Col Γ (t0, t1, t2, t3) s σ1 → hdD q m s acc = hdD q N (bec t (w, kp, kd, day, gone, draw, P, rule, gd)) (kas ((bec t (w, kp, kd, day, gone, draw, P, rule, gd)).2.1 q)) → YG Γ mX6_had K 42 [(0, .ref x), (1, .int (nI q)), (2, .int (nI N)), (3, .int acc), (4, .int (nI i))] [] σ1 := by
    intro m
    induction m with
    | zero =>
      intro i s acc σ1 hi1 hwf hf1 hW1 hC1 hr
      obtain rfl : i = N + 1 := by omega
      have hk := hR σ1 (frmX hf1 (by decide)) hW1
      rw [← hr] at hk
      have g0 := gtN (show N < N + 1 by omega) (by omega)
      refine yvc1_ok (uX6_had Γ) (S := [42]) 40 ?_
      simp only [yvc1, g0, yvc_s, s1i, s2i, s1l, s2l, sil, s1r, sir, siir, slir, srir, svr, sd1, sd2, lg, lput, ldel, isL_i, isL_r, isL_l, jmp, obj, obj1, fI, fR, arI, arL, arR, hput, f4_0, f4_1, f4_2, f4_3, lc_0, lc_1, rok_i, rok_b, rok_y, strF, fput_1, fput_2, csum_nil, csum_i, csum_l, csum_r, va_up_self, bx_uu, Int.reduceAdd, List.elem_nil, List.elem_cons, List.take_succ_cons, List.take_zero, List.drop_succ_cons, List.drop_zero, List.take_nil, List.drop_nil, List.reverse_cons, List.reverse_nil, List.nil_append, List.cons_append, List.append_nil, Option.toList_some, Option.toList_none, List.getElem?_cons_zero, List.getElem?_cons_succ, List.set_cons_zero, List.set_cons_succ, List.length_cons, List.length_nil, reduceIte, reduceCtorEq, and_true, true_and, and_self, or_true, true_or, false_and, and_false, not_true_eq_false, not_false_eq_true, true_implies, false_implies, implies_true, Nat.reduceAdd, Nat.reduceLT, Nat.reduceEqDiff, Nat.reduceLeDiff, Nat.reduceBEq, Nat.zero_add, Nat.lt_add_one, Bool.false_eq_true, Bool.or_false, Bool.or_true, Bool.or_self, Nat.zero_ne_one, Nat.one_ne_zero, ite_true, ite_false, ne_eq, Nat.reduceSub, Nat.succ_eq_add_one, Nat.zero_lt_succ, Nat.add_one_ne_zero, false_or, or_false, mX6_had_c, mX6_had_n, mX6_had_r, mX6_had_l, dX6_had_0, dX6_had_1, dX6_had_4, tg_4_13, cnd1_eq, dX6_had_7, dX6_had_8, ic_0, dX6_had_9, bc_60, dX6_had_11, dX6_had_14, tg_14_5, cnd1_ne, dX6_had_17, ic_m1, dX6_had_18, dX6_had_19, dX6_had_20, fl_6_16_6, dX6_had_23, dX6_had_24, fl_6_10_6, dX6_had_27, dX6_had_30, dX6_had_31, dX6_had_34, dX6_had_35, dX6_had_38, dX6_had_39, ic_1, dX6_had_40, dX6_had_42, dX6_had_44, dX6_had_45, tg_45_27, cnd2_gt, dX6_had_48, dX6_had_49, dX6_had_52, dX6_had_55, dX6_had_56, dX6_had_57, dX6_had_60, dX6_had_61, dX6_had_64, dX6_had_65, dX6_had_66, dX6_had_69, tg_69_m27, dX6_had_72, dX6_had_73, jX6_had_1_79, jX6_had_1_57, jX6_had_0_124, jX6_had_0_169, jX6_had_0_163, st_aload_n, st_bipush, st_getfield, st_goto, st_iconst, st_ifCond, st_if_icmp, st_iinc, st_iload, st_iload_n, st_invokestatic, st_invokevirtual, st_ior, st_ireturn, st_istore, st_istore_n]
      exact hk
    | succ m ih =>
      intro i s acc σ1 hi1 hwf hf1 hW1 hC1 hr
      have g0 := ngtN (show i ≤ N by omega) (by omega)
      obtain ⟨⟨y1, -⟩, y5, -⟩ := id hW1
      simp only [XE] at y1 y5
      refine yvc1_ok (uX6_had Γ) (S := [42]) 40 ?_
      simp only [yvc1, g0, y1, y5, yvc_s, s1i, s2i, s1l, s2l, sil, s1r, sir, siir, slir, srir, svr, sd1, sd2, lg, lput, ldel, isL_i, isL_r, isL_l, jmp, obj, obj1, fI, fR, arI, arL, arR, hput, f4_0, f4_1, f4_2, f4_3, lc_0, lc_1, rok_i, rok_b, rok_y, strF, fput_1, fput_2, csum_nil, csum_i, csum_l, csum_r, va_up_self, bx_uu, Int.reduceAdd, List.elem_nil, List.elem_cons, List.take_succ_cons, List.take_zero, List.drop_succ_cons, List.drop_zero, List.take_nil, List.drop_nil, List.reverse_cons, List.reverse_nil, List.nil_append, List.cons_append, List.append_nil, Option.toList_some, Option.toList_none, List.getElem?_cons_zero, List.getElem?_cons_succ, List.set_cons_zero, List.set_cons_succ, List.length_cons, List.length_nil, reduceIte, reduceCtorEq, and_true, true_and, and_self, or_true, true_or, false_and, and_false, not_true_eq_false, not_false_eq_true, true_implies, false_implies, implies_true, Nat.reduceAdd, Nat.reduceLT, Nat.reduceEqDiff, Nat.reduceLeDiff, Nat.reduceBEq, Nat.zero_add, Nat.lt_add_one, Bool.false_eq_true, Bool.or_false, Bool.or_true, Bool.or_self, Nat.zero_ne_one, Nat.one_ne_zero, ite_true, ite_false, ne_eq, Nat.reduceSub, Nat.succ_eq_add_one, Nat.zero_lt_succ, Nat.add_one_ne_zero, false_or, or_false, mX6_had_c, mX6_had_n, mX6_had_r, mX6_had_l, dX6_had_0, dX6_had_1, dX6_had_4, tg_4_13, cnd1_eq, dX6_had_7, dX6_had_8, ic_0, dX6_had_9, bc_60, dX6_had_11, dX6_had_14, tg_14_5, cnd1_ne, dX6_had_17, ic_m1, dX6_had_18, dX6_had_19, dX6_had_20, fl_6_16_6, dX6_had_23, dX6_had_24, fl_6_10_6, dX6_had_27, dX6_had_30, dX6_had_31, dX6_had_34, dX6_had_35, dX6_had_38, dX6_had_39, ic_1, dX6_had_40, dX6_had_42, dX6_had_44, dX6_had_45, tg_45_27, cnd2_gt, dX6_had_48, dX6_had_49, dX6_had_52, dX6_had_55, dX6_had_56, dX6_had_57, dX6_had_60, dX6_had_61, dX6_had_64, dX6_had_65, dX6_had_66, dX6_had_69, tg_69_m27, dX6_had_72, dX6_had_73, jX6_had_1_79, jX6_had_1_57, jX6_had_0_124, jX6_had_0_169, jX6_had_0_163, st_aload_n, st_bipush, st_getfield, st_goto, st_iconst, st_ifCond, st_if_icmp, st_iinc, st_iload, st_iload_n, st_invokestatic, st_invokevirtual, st_ior, st_ireturn, st_istore, st_istore_n]
      refine ⟨(t0, t1, t2, t3), s, rfl, hwf, hC1, ?_⟩
      have hf2 : frm (fL lab 2) σ (cset Γ (t0, t1, t2, t3) (dayC s) σ1) := hf1.tr (csetL lT)
      have hC2 := hC1.set (dayC s)
      have hW2 := hW1.sT (csetL (Γ := Γ) lT) ⟨_, hC2⟩
      have hw2 := (dayC_wf hwf).1
      rw [hdD] at hr
      generalize cset Γ (t0, t1, t2, t3) (dayC s) σ1 = σ2 at hf2 hC2 hW2 ⊢
      generalize dayC s = s2 at hC2 hw2 hr
      have hi2 := ih (i + 1) s2 (acc ||| kas (s2.2.1 q)) σ2 (by omega) hw2 hf2 hW2 hC2 hr
      obtain ⟨w1, kp1, kd1, day1, gone1, draw1, P1, rule1, gd1⟩ := s2
      obtain ⟨⟨z1, -⟩, z5, -⟩ := id hW2
      obtain ⟨⟨u1, u2, u3, u4⟩, g1, g2, g3, g4⟩ := id hC2
      simp only [XE, ColE, iA] at z1 z5 u1 u3 g1 g3
      refine yvc_ok (uX6_had Γ) (S := [42]) 40 _ _ _ _ ?_
      simp only [z1, z5, u1, u3, g1, g3, d2, d3, sp_X0_keeperAsSet, nI_1, yvc_s, s1i, s2i, s1l, s2l, sil, s1r, sir, siir, slir, srir, svr, sd1, sd2, lg, lput, ldel, isL_i, isL_r, isL_l, jmp, obj, obj1, fI, fR, arI, arL, arR, hput, f4_0, f4_1, f4_2, f4_3, lc_0, lc_1, rok_i, rok_b, rok_y, strF, fput_1, fput_2, csum_nil, csum_i, csum_l, csum_r, va_up_self, bx_uu, Int.reduceAdd, List.elem_nil, List.elem_cons, List.take_succ_cons, List.take_zero, List.drop_succ_cons, List.drop_zero, List.take_nil, List.drop_nil, List.reverse_cons, List.reverse_nil, List.nil_append, List.cons_append, List.append_nil, Option.toList_some, Option.toList_none, List.getElem?_cons_zero, List.getElem?_cons_succ, List.set_cons_zero, List.set_cons_succ, List.length_cons, List.length_nil, reduceIte, reduceCtorEq, and_true, true_and, and_self, or_true, true_or, false_and, and_false, not_true_eq_false, not_false_eq_true, true_implies, false_implies, implies_true, Nat.reduceAdd, Nat.reduceLT, Nat.reduceEqDiff, Nat.reduceLeDiff, Nat.reduceBEq, Nat.zero_add, Nat.lt_add_one, Bool.false_eq_true, Bool.or_false, Bool.or_true, Bool.or_self, Nat.zero_ne_one, Nat.one_ne_zero, ite_true, ite_false, ne_eq, Nat.reduceSub, Nat.succ_eq_add_one, Nat.zero_lt_succ, Nat.add_one_ne_zero, false_or, or_false, mX6_had_c, mX6_had_n, mX6_had_r, mX6_had_l, dX6_had_0, dX6_had_1, dX6_had_4, tg_4_13, cnd1_eq, dX6_had_7, dX6_had_8, ic_0, dX6_had_9, bc_60, dX6_had_11, dX6_had_14, tg_14_5, cnd1_ne, dX6_had_17, ic_m1, dX6_had_18, dX6_had_19, dX6_had_20, fl_6_16_6, dX6_had_23, dX6_had_24, fl_6_10_6, dX6_had_27, dX6_had_30, dX6_had_31, dX6_had_34, dX6_had_35, dX6_had_38, dX6_had_39, ic_1, dX6_had_40, dX6_had_42, dX6_had_44, dX6_had_45, tg_45_27, cnd2_gt, dX6_had_48, dX6_had_49, dX6_had_52, dX6_had_55, dX6_had_56, dX6_had_57, dX6_had_60, dX6_had_61, dX6_had_64, dX6_had_65, dX6_had_66, dX6_had_69, tg_69_m27, dX6_had_72, dX6_had_73, jX6_had_1_79, jX6_had_1_57, jX6_had_0_124, jX6_had_0_169, jX6_had_0_163, st_aload_n, st_bipush, st_getfield, st_goto, st_iconst, st_ifCond, st_if_icmp, st_iinc, st_iload, st_iload_n, st_invokestatic, st_invokevirtual, st_ior, st_ireturn, st_istore, st_istore_n]
      exact hi2
  refine ⟨(t0, t1, t2, t3), (n0, n1, n2, n3), t, _, rfl, ap_lab lT lN (by decide), cT, cN, ?_⟩
  have hb := bec_wf (t := t) hpre
  have hC1 := cT.set (bec t (w, kp, kd, day, gone, draw, P, rule, gd))
  have hW1 := hW0.sT (csetL (Γ := Γ) lT) ⟨_, hC1⟩
  have hl := loop N 1 _ _ _ (by omega) hb (csetL lT) hW1 hC1 rfl
  simp only at hb hW1
  generalize bec t (w, kp, kd, day, gone, draw, P, rule, gd) = s2 at hC1 hW1 hl ⊢
  generalize cset Γ (t0, t1, t2, t3) s2 σ = σ2 at hC1 hW1 hl ⊢
  obtain ⟨w1, kp1, kd1, day1, gone1, draw1, P1, rule1, gd1⟩ := s2
  obtain ⟨⟨z1, -⟩, z5, -⟩ := id hW1
  obtain ⟨⟨u1, u2, u3, u4⟩, g1, g2, g3, g4⟩ := id hC1
  simp only [XE, ColE, iA] at z1 z5 u1 u3 g1 g3
  refine yvc_ok (uX6_had Γ) (S := [42]) 60 _ _ _ _ ?_
  simp only [z1, z5, u1, u3, g1, g3, d2, d3, sp_X0_keeperAsSet, yvc_s, s1i, s2i, s1l, s2l, sil, s1r, sir, siir, slir, srir, svr, sd1, sd2, lg, lput, ldel, isL_i, isL_r, isL_l, jmp, obj, obj1, fI, fR, arI, arL, arR, hput, f4_0, f4_1, f4_2, f4_3, lc_0, lc_1, rok_i, rok_b, rok_y, strF, fput_1, fput_2, csum_nil, csum_i, csum_l, csum_r, va_up_self, bx_uu, Int.reduceAdd, List.elem_nil, List.elem_cons, List.take_succ_cons, List.take_zero, List.drop_succ_cons, List.drop_zero, List.take_nil, List.drop_nil, List.reverse_cons, List.reverse_nil, List.nil_append, List.cons_append, List.append_nil, Option.toList_some, Option.toList_none, List.getElem?_cons_zero, List.getElem?_cons_succ, List.set_cons_zero, List.set_cons_succ, List.length_cons, List.length_nil, reduceIte, reduceCtorEq, and_true, true_and, and_self, or_true, true_or, false_and, and_false, not_true_eq_false, not_false_eq_true, true_implies, false_implies, implies_true, Nat.reduceAdd, Nat.reduceLT, Nat.reduceEqDiff, Nat.reduceLeDiff, Nat.reduceBEq, Nat.zero_add, Nat.lt_add_one, Bool.false_eq_true, Bool.or_false, Bool.or_true, Bool.or_self, Nat.zero_ne_one, Nat.one_ne_zero, ite_true, ite_false, ne_eq, Nat.reduceSub, Nat.succ_eq_add_one, Nat.zero_lt_succ, Nat.add_one_ne_zero, false_or, or_false, mX6_had_c, mX6_had_n, mX6_had_r, mX6_had_l, dX6_had_0, dX6_had_1, dX6_had_4, tg_4_13, cnd1_eq, dX6_had_7, dX6_had_8, ic_0, dX6_had_9, bc_60, dX6_had_11, dX6_had_14, tg_14_5, cnd1_ne, dX6_had_17, ic_m1, dX6_had_18, dX6_had_19, dX6_had_20, fl_6_16_6, dX6_had_23, dX6_had_24, fl_6_10_6, dX6_had_27, dX6_had_30, dX6_had_31, dX6_had_34, dX6_had_35, dX6_had_38, dX6_had_39, ic_1, dX6_had_40, dX6_had_42, dX6_had_44, dX6_had_45, tg_45_27, cnd2_gt, dX6_had_48, dX6_had_49, dX6_had_52, dX6_had_55, dX6_had_56, dX6_had_57, dX6_had_60, dX6_had_61, dX6_had_64, dX6_had_65, dX6_had_66, dX6_had_69, tg_69_m27, dX6_had_72, dX6_had_73, jX6_had_1_79, jX6_had_1_57, jX6_had_0_124, jX6_had_0_169, jX6_had_0_163, st_aload_n, st_bipush, st_getfield, st_goto, st_iconst, st_ifCond, st_if_icmp, st_iinc, st_iload, st_iload_n, st_invokestatic, st_invokevirtual, st_ior, st_ireturn, st_istore, st_istore_n]
  exact hl
/-- keep -/
def x_keep (a b : Int32) : XS → XS → Int32 → Prop := fun ψ ψ' r => ψ' = ψ ∧ ((¬ (inr a 1 30 = true ∧ inr b (-2) 3 = true) ∧ r = -1) ∨ ((inr a 1 30 = true ∧ inr b (-2) 3 = true) ∧ ((ψ.1.2.2.2.2.2.2.1 = 0 ∧ r = -4) ∨ (0 < ψ.1.2.2.2.2.2.2.1 ∧ ∃ (bs : Nat) (g v : Int32), SkR ψ.1 a.toNatClampNeg (ψ.1.2.2.2.2.2.2.1 * ψ.1.2.2.2.2.2.2.1 * ψ.1.2.2.2.2.2.2.1 * ψ.1.2.2.2.2.2.2.1) bs g v ∧ r = (if b = -2 then v else if b = -1 then g else nI (dgt bs ψ.1.2.2.2.2.2.2.1 b.toNatClampNeg))))))
def sp_X6_keep (Γ : Cx) : YSp := fun av σ K => ∃ a b : Int32, xq Γ [.int a, .int b] (x_keep a b) PX av σ K
theorem rv_X6_keep {Γ : Cx} : Recv (sp_X6_keep Γ) 2 6 := by
  intro av σ K h
  obtain ⟨a, b, h⟩ := h
  obtain ⟨q, fs, h1, h2, h3⟩ := rv_xq h
  exact ⟨q, _, fs, h1, rfl, h2, h3⟩
theorem bw_599 : Cond.code yX3_seek cX3_seek 7 none ∈ BW := bw_i 599 (by decide +kernel) (by decide +kernel)
theorem no_X3_seek : NameOK yX3_seek 3 := by unfold NameOK; decide +kernel
theorem bw_596 : Cond.methodLink RX6 172 yX3_seek ∈ BW := bw_i 596 (by decide +kernel) (by decide +kernel)
theorem bw_597 : Cond.instanceMethod yX3_seek ∈ BW := bw_i 597 (by decide +kernel) (by decide +kernel)
theorem bw_598 : Cond.selects RX3 yX3_seek yX3_seek ∈ BW := bw_i 598 (by decide +kernel) (by decide +kernel)
theorem bc_30 : (Int8.ofInt 30).toInt32 = 30 := by decide
theorem tg_7_13 : tgo 7 13 = some 20 := by decide
theorem tg_52_44 : tgo 52 44 = some 96 := by decide
theorem tg_52_36 : tgo 52 36 = some 88 := by decide
theorem tg_52_28 : tgo 52 28 = some 80 := by decide
def mX6_keep : Mt := (⟨6, 0, 0, 141⟩, RX6, cX6_keep, 3, some .int, (0, 0), none)
theorem mX6_keep_c : mX6_keep.2.2.1 = cX6_keep := rfl
theorem mX6_keep_n : mX6_keep.2.2.2.1 = 3 := rfl
theorem mX6_keep_r : mX6_keep.2.2.2.2.1 = some .int := rfl
theorem mX6_keep_l : mX6_keep.2.2.2.2.2.2 = none := rfl
def jX6_keep (Γ : Cx) : List ((Nat × Nat) × Nat × Bool × YSp) := [((1, 57), 3, true, sp_X6_within Γ), ((0, 172), 4, false, sp_X3_seek Γ)]
theorem jX6_keep_1_57 (Γ : Cx) : kT (jX6_keep Γ) 1 57 = some (3, true, sp_X6_within Γ) := rfl
theorem jX6_keep_0_172 (Γ : Cx) : kT (jX6_keep Γ) 0 172 = some (4, false, sp_X3_seek Γ) := rfl
theorem uX6_keep (Γ : Cx) : TbOK Γ mX6_keep (fT fX6, cT kX6, kT (jX6_keep Γ)) := tb_ok fX6_ok kX6_ok (all_cons ⟨call_S (n := 3) (ok_X6_within Γ) (rv_X6_within (Γ := Γ)) bw_241 bw_239 bw_240 bw_42 no_X6_within ⟨⟨rfl, rfl⟩, ⟨by decide, by decide⟩, ⟨by decide, by decide⟩⟩, fun _ => mono_X6_within (Γ := Γ)⟩ (all_cons ⟨call_V (n := 3) (T := TX3) (N := 3) (ok_X3_seek Γ) (rv_X3_seek (Γ := Γ)) rfl bw_599 bw_596 bw_597 bw_598 bw_47 no_X3_seek ⟨⟨rfl, rfl⟩, ⟨by decide, by decide⟩, ⟨by decide, by decide⟩⟩, fun z => by cases z⟩ (all_nil)))
theorem toInt_m2 {x : Int32} : x.toInt = -2 ↔ x = -2 := ⟨fun h => Int32.toInt_inj.mp (by rw [h]; decide), fun h => by rw [h]; decide⟩
theorem toInt_m1 {x : Int32} : x.toInt = -1 ↔ x = -1 := ⟨fun h => Int32.toInt_inj.mp (by rw [h]; decide), fun h => by rw [h]; decide⟩
theorem ne0_5 {n : Nat} (h : n ≤ 5) : nI n = 0 ↔ n = 0 := nI_eq (b := 0) (by omega) (by decide)
set_option maxRecDepth 20000 in
theorem ok_X6_keep (Γ : Cx) : Ok Γ yX6_keep mX6_keep (sp_X6_keep Γ) := by
  refine ok_intro (by decide +kernel) rfl rfl ?_
  intro av σ K h
  obtain ⟨a, b, lab, X, ψ, rfl, hW, hpre, h⟩ := h
  obtain ⟨x, sh, ⟨n0, n1, n2, n3⟩, ⟨t0, t1, t2, t3⟩, p, ⟨i0, i1, i2, i3⟩, ip, ⟨ta, tl⟩, ⟨pa, pk⟩, S⟩ := X
  obtain ⟨⟨w, kp, kd, day, gone, draw, P, rule, gd⟩, si, ⟨pc, pn⟩, ⟨qc, qn⟩, hi, ⟨l, len⟩, ss⟩ := ψ
  have hW0 := hW
  obtain ⟨⟨x1, x2, x3, x4⟩, x5, ⟨sf, x6, x7⟩, ⟨cN, lN⟩, ⟨⟨t, cT⟩, lT⟩, pP, ⟨cI, lI⟩, pI, ⟨⟨pl, tT⟩, lTp, hlen⟩, ⟨⟨pls, pPl⟩, lPl⟩, hS⟩ := hW
  simp only at cN lN cT lT pP cI lI pI tT lTp hlen pPl lPl hS x6 x7
  obtain ⟨⟨m1, m2, m3, m4⟩, e1, e2, e3, e4⟩ := id cN
  simp only [XE, ColE, iA] at x1 x2 x5 m1 m2 m3 m4 e1 e2 e3 e4
  have hP := hpre.1
  simp only at hP
  have hno : ¬ (inr a 1 30 = true ∧ inr b (-2) 3 = true) → K (some (.int (-1))) σ := fun z => h σ _ _ ⟨rfl, Or.inl ⟨z, rfl⟩⟩ frm.rf hW0
  refine ⟨Nat.le_of_ble_eq_true rfl, yvc_ok (uX6_keep Γ) (S := []) 60 _ _ _ _ ?_⟩
  simp only [lv_args, Value.category, x1, x5, m1, e1, sp_X6_within, ne0_5 hP, bI_eq0, Bool.not_eq_false, yvc_s, s1i, s2i, s1l, s2l, sil, s1r, sir, siir, slir, srir, svr, sd1, sd2, lg, lput, ldel, isL_i, isL_r, isL_l, jmp, obj, obj1, fI, fR, arI, arL, arR, hput, f4_0, f4_1, f4_2, f4_3, lc_0, lc_1, rok_i, rok_b, rok_y, strF, fput_1, fput_2, csum_nil, csum_i, csum_l, csum_r, va_up_self, bx_uu, Int.reduceAdd, List.elem_nil, List.elem_cons, List.take_succ_cons, List.take_zero, List.drop_succ_cons, List.drop_zero, List.take_nil, List.drop_nil, List.reverse_cons, List.reverse_nil, List.nil_append, List.cons_append, List.append_nil, Option.toList_some, Option.toList_none, List.getElem?_cons_zero, List.getElem?_cons_succ, List.set_cons_zero, List.set_cons_succ, List.length_cons, List.length_nil, reduceIte, reduceCtorEq, and_true, true_and, and_self, or_true, true_or, false_and, and_false, not_true_eq_false, not_false_eq_true, true_implies, false_implies, implies_true, Nat.reduceAdd, Nat.reduceLT, Nat.reduceEqDiff, Nat.reduceLeDiff, Nat.reduceBEq, Nat.zero_add, Nat.lt_add_one, Bool.false_eq_true, Bool.or_false, Bool.or_true, Bool.or_self, Nat.zero_ne_one, Nat.one_ne_zero, ite_true, ite_false, ne_eq, Nat.reduceSub, Nat.succ_eq_add_one, Nat.zero_lt_succ, Nat.add_one_ne_zero, false_or, or_false, mX6_keep_c, mX6_keep_n, mX6_keep_r, mX6_keep_l, dX6_keep_0, dX6_keep_1, ic_1, dX6_keep_2, bc_30, dX6_keep_4, dX6_keep_7, tg_7_13, cnd1_eq, dX6_keep_10, dX6_keep_11, bc_m2, dX6_keep_13, ic_3, dX6_keep_14, dX6_keep_17, tg_17_5, cnd1_ne, dX6_keep_20, ic_m1, dX6_keep_21, dX6_keep_22, dX6_keep_23, fl_6_10_6, dX6_keep_26, fl_6_61_0, dX6_keep_29, tg_29_6, dX6_keep_32, bc_m4, dX6_keep_34, dX6_keep_35, dX6_keep_36, fl_6_46_6, dX6_keep_39, dX6_keep_40, dX6_keep_43, dX6_keep_44, fl_6_16_6, dX6_keep_47, dX6_keep_48, dX6_keep_51, dX6_keep_52, tg_52_44, tg_52_36, tg_52_28, lkl, dX6_keep_80, dX6_keep_81, dX6_keep_84, fl_6_176_3, dX6_keep_87, dX6_keep_88, dX6_keep_89, dX6_keep_92, fl_6_177_3, dX6_keep_95, dX6_keep_96, dX6_keep_97, dX6_keep_100, fl_6_180_3, dX6_keep_103, dX6_keep_104, dX6_keep_105, jX6_keep_1_57, jX6_keep_0_172, st_aload_n, st_bipush, st_getfield, st_iaload, st_iconst, st_ifCond, st_iload_n, st_invokestatic, st_invokevirtual, st_ireturn, st_lookupswitch]
  refine ⟨fun c1 => hno (fun z => by rw [c1] at z; cases z.1), fun c1 => ⟨fun c2 => ⟨fun c3 => ?_, fun c3 => ?_⟩, fun c2 => hno (fun z => c2 z.2)⟩⟩
  · have hR := fun σ2 bs g v hs hf2 hW2 => h σ2 _ _ ⟨rfl, Or.inr ⟨⟨c1, c2⟩, Or.inr ⟨Nat.pos_of_ne_zero c3, bs, g, v, hs, rfl⟩⟩⟩ hf2 hW2
    simp only at hR
    obtain ⟨N, h0, hN, rfl⟩ := in1_n (B := 30) (by decide) c1
    rw [nI_clamp (show N < 2 ^ 31 by omega)] at hR
    obtain ⟨pf, pg, pv⟩ := pls
    refine ⟨(pa, pk), pf, pg, pv, (n0, n1, n2, n3), (t0, t1, t2, t3), _, t, N, rfl, by omega, Nat.pos_of_ne_zero c3, hP, pPl, cN, cT, ap_lab lT lN (by decide), fun q hq => ⟨fun z => by have e1 := lPl q hq; have e2 := lT q z; omega, fun z => by have e1 := lPl q hq; have e2 := lN q z; omega⟩, ?_⟩
    intro σ1 f' bs g' v' hf1 hs hdg hPl1 hC1
    have hf2 : frm (fun q => (fun k => k = 2 ∨ k = 7) (lab q)) σ σ1 := hf1.mono (fun q z => z.elim (fun z => Or.inr (lPl q z)) (fun z => Or.inl (lT q z)))
    have hW1 := hW0.keep (ψ' := ((w, kp, kd, day, gone, draw, P, rule, gd), si, (pc, pn), (qc, qn), hi, (l, len), ss)) (J := fun k => k = 2 ∨ k = 7) hf2 ⟨by decide, rfl⟩ (Or.inl ⟨by decide, rfl⟩) (Or.inr hC1) (Or.inl ⟨by decide, rfl⟩) (Or.inl ⟨by decide, rfl⟩) (Or.inl ⟨by decide, rfl⟩) (Or.inl ⟨by decide, rfl⟩) (Or.inr ⟨_, hPl1⟩) (fun j _ => Or.inl ⟨by omega, rfl⟩)
    have hk := hR σ1 bs g' v' hs (hf2.mono (fun q z => by show lab q < 20; rcases z with z | z <;> omega)) hW1
    obtain ⟨⟨y1, -⟩, y5, -⟩ := id hW1
    obtain ⟨⟨u1, u2⟩, g1, g2⟩ := id hPl1
    simp only [XE, PlE, iA] at y1 y5 u1 u2 g1 g2
    refine yvc_ok (uX6_keep Γ) (S := []) 60 _ _ _ _ ?_
    simp only [y1, y5, u1, u2, g1, g2, toInt_m2, toInt_m1, yvc_s, s1i, s2i, s1l, s2l, sil, s1r, sir, siir, slir, srir, svr, sd1, sd2, lg, lput, ldel, isL_i, isL_r, isL_l, jmp, obj, obj1, fI, fR, arI, arL, arR, hput, f4_0, f4_1, f4_2, f4_3, lc_0, lc_1, rok_i, rok_b, rok_y, strF, fput_1, fput_2, csum_nil, csum_i, csum_l, csum_r, va_up_self, bx_uu, Int.reduceAdd, List.elem_nil, List.elem_cons, List.take_succ_cons, List.take_zero, List.drop_succ_cons, List.drop_zero, List.take_nil, List.drop_nil, List.reverse_cons, List.reverse_nil, List.nil_append, List.cons_append, List.append_nil, Option.toList_some, Option.toList_none, List.getElem?_cons_zero, List.getElem?_cons_succ, List.set_cons_zero, List.set_cons_succ, List.length_cons, List.length_nil, reduceIte, reduceCtorEq, and_true, true_and, and_self, or_true, true_or, false_and, and_false, not_true_eq_false, not_false_eq_true, true_implies, false_implies, implies_true, Nat.reduceAdd, Nat.reduceLT, Nat.reduceEqDiff, Nat.reduceLeDiff, Nat.reduceBEq, Nat.zero_add, Nat.lt_add_one, Bool.false_eq_true, Bool.or_false, Bool.or_true, Bool.or_self, Nat.zero_ne_one, Nat.one_ne_zero, ite_true, ite_false, ne_eq, Nat.reduceSub, Nat.succ_eq_add_one, Nat.zero_lt_succ, Nat.add_one_ne_zero, false_or, or_false, mX6_keep_c, mX6_keep_n, mX6_keep_r, mX6_keep_l, dX6_keep_0, dX6_keep_1, ic_1, dX6_keep_2, bc_30, dX6_keep_4, dX6_keep_7, tg_7_13, cnd1_eq, dX6_keep_10, dX6_keep_11, bc_m2, dX6_keep_13, ic_3, dX6_keep_14, dX6_keep_17, tg_17_5, cnd1_ne, dX6_keep_20, ic_m1, dX6_keep_21, dX6_keep_22, dX6_keep_23, fl_6_10_6, dX6_keep_26, fl_6_61_0, dX6_keep_29, tg_29_6, dX6_keep_32, bc_m4, dX6_keep_34, dX6_keep_35, dX6_keep_36, fl_6_46_6, dX6_keep_39, dX6_keep_40, dX6_keep_43, dX6_keep_44, fl_6_16_6, dX6_keep_47, dX6_keep_48, dX6_keep_51, dX6_keep_52, tg_52_44, tg_52_36, tg_52_28, lkl, dX6_keep_80, dX6_keep_81, dX6_keep_84, fl_6_176_3, dX6_keep_87, dX6_keep_88, dX6_keep_89, dX6_keep_92, fl_6_177_3, dX6_keep_95, dX6_keep_96, dX6_keep_97, dX6_keep_100, fl_6_180_3, dX6_keep_103, dX6_keep_104, dX6_keep_105, jX6_keep_1_57, jX6_keep_0_172, st_aload_n, st_bipush, st_getfield, st_iaload, st_iconst, st_ifCond, st_iload_n, st_invokestatic, st_invokevirtual, st_ireturn, st_lookupswitch]
    refine ⟨by decide, fun d1 => ?_, fun d1 => ⟨fun d2 => ?_, fun d2 => ?_⟩⟩
    · rw [if_pos d1] at hk
      exact hk
    · rw [if_neg d1, if_pos d2] at hk
      exact hk
    · rw [if_neg d1, if_neg d2] at hk
      have hdr : inr b 0 3 = true := by
        obtain ⟨b1, b2⟩ := inr_iff.mp c2
        refine inr_iff.mpr ⟨?_, b2⟩
        rw [Int32.le_iff_toInt_le] at b1 ⊢
        have q1 : ¬ b.toInt = -2 := fun z => d1 (toInt_m2.mp z)
        have q2 : ¬ b.toInt = -1 := fun z => d2 (toInt_m1.mp z)
        have q3 : (-2 : Int32).toInt = -2 := by decide
        have q4 : (0 : Int32).toInt = 0 := by decide
        omega
      obtain ⟨q, hq, rfl⟩ := door_n hdr
      obtain ⟨-, d3, d4⟩ := lt4 hq
      rw [d4] at hk ⊢
      rw [hdg q hq]
      exact ⟨d3, hk⟩
  · exact h σ _ _ ⟨rfl, Or.inr ⟨⟨c1, c2⟩, Or.inl ⟨Classical.not_not.mp c3, rfl⟩⟩⟩ frm.rf hW0
