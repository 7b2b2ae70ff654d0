/-! ===== YawnKeys: copy, told, film, college ===== -/
def x_copy (a i b j n : Int32) (ψ : XS) : XS × Int32 := if inr a 0 3 = true ∧ inr b 0 3 = true then (if (ψ.2.2.2.2.2.2 a.toNatClampNeg).2.2 = -1 ∨ (ψ.2.2.2.2.2.2 b.toNatClampNeg).2.2 = -1 then (ψ, -11) else if (ψ.2.2.2.2.2.2 a.toNatClampNeg).2.1 = (ψ.2.2.2.2.2.2 b.toNatClampNeg).2.1 then (if spn (ψ.2.2.2.2.2.2 a.toNatClampNeg).2.2 i n = true ∧ spn (ψ.2.2.2.2.2.2 b.toNatClampNeg).2.2 j n = true then (setS ψ b.toNatClampNeg (va_cpy (ψ.2.2.2.2.2.2 a.toNatClampNeg).1 (ψ.2.2.2.2.2.2 b.toNatClampNeg).1 i.toNatClampNeg j.toNatClampNeg n.toNatClampNeg, (ψ.2.2.2.2.2.2 b.toNatClampNeg).2), n) else (ψ, -13)) else (ψ, -12)) else (ψ, -1)
def sp_X6_copy (Γ : Cx) : YSp := fun av σ K => ∃ (a i b j n : Int32), xq Γ [.int a, .int i, .int b, .int j, .int n] (fn (x_copy a i b j n)) PXS av σ K
theorem rv_X6_copy {Γ : Cx} : Recv (sp_X6_copy Γ) 5 6 := by
  intro av σ K h
  obtain ⟨a, i, b, j, n, h⟩ := h
  obtain ⟨q, fs, h1, h2, h3⟩ := rv_xq h
  exact ⟨q, _, fs, h1, rfl, h2, h3⟩
theorem bw_703 : Cond.methodLink RX6 226 yX4_spans ∈ BW := bw_i 703 (by decide +kernel) (by decide +kernel)
theorem bw_704 : Cond.methodLink RX6 234 arraycopyName ∈ BW := bw_i 704 (by decide +kernel) (by decide +kernel)
theorem tg_37_11 : tgo 37 11 = some 48 := by decide
theorem tg_45_6 : tgo 45 6 = some 51 := by decide
theorem tg_61_6 : tgo 61 6 = some 67 := by decide
theorem tg_75_15 : tgo 75 15 = some 90 := by decide
theorem tg_87_6 : tgo 87 6 = some 93 := by decide
def mX6_copy : Mt := (⟨2, 0, 0, 60⟩, RX6, cX6_copy, 8, some .int, (0, 0), none)
theorem mX6_copy_c : mX6_copy.2.2.1 = cX6_copy := rfl
theorem mX6_copy_n : mX6_copy.2.2.2.1 = 8 := rfl
theorem mX6_copy_r : mX6_copy.2.2.2.2.1 = some .int := rfl
theorem mX6_copy_l : mX6_copy.2.2.2.2.2.2 = none := rfl
def jX6_copy (Γ : Cx) : List ((Nat × Nat) × Nat × Bool × YSp) := [((1, 190), 1, true, sp_X6_isSheet Γ), ((0, 216), 1, true, sp_X4_isMissing Γ), ((0, 226), 3, true, sp_X4_spans Γ), ((1, 234), 5, true, sp_cpyL Γ)]
theorem jX6_copy_1_190 (Γ : Cx) : kT (jX6_copy Γ) 1 190 = some (1, true, sp_X6_isSheet Γ) := rfl
theorem jX6_copy_0_216 (Γ : Cx) : kT (jX6_copy Γ) 0 216 = some (1, true, sp_X4_isMissing Γ) := rfl
theorem jX6_copy_0_226 (Γ : Cx) : kT (jX6_copy Γ) 0 226 = some (3, true, sp_X4_spans Γ) := rfl
theorem jX6_copy_1_234 (Γ : Cx) : kT (jX6_copy Γ) 1 234 = some (5, true, sp_cpyL Γ) := rfl
theorem uX6_copy (Γ : Cx) : TbOK Γ mX6_copy (fT fX6, cT kX6, kT (jX6_copy Γ)) := tb_ok fX6_ok kX6_ok (all_cons ⟨call_S (n := 1) (ok_X6_isSheet Γ) (rv_X6_isSheet (Γ := Γ)) bw_643 bw_641 bw_642 bw_42 no_X6_isSheet ⟨⟨rfl, rfl⟩, ⟨by decide, by decide⟩, ⟨by decide, by decide⟩⟩, fun _ => mono_X6_isSheet (Γ := Γ)⟩ (all_cons ⟨call_V (n := 0) (T := TX4) (N := 3) (ok_X4_isMissing Γ) (rv_X4_isMissing (Γ := Γ)) rfl bw_654 bw_690 bw_652 bw_653 bw_48 no_X4_isMissing ⟨⟨rfl, rfl⟩, ⟨by decide, by decide⟩, ⟨by decide, by decide⟩⟩, fun _ => mono_X4_isMissing (Γ := Γ)⟩ (all_cons ⟨call_V (n := 2) (T := TX4) (N := 3) (ok_X4_spans Γ) (rv_X4_spans (Γ := Γ)) rfl bw_658 bw_703 bw_656 bw_657 bw_48 no_X4_spans ⟨⟨rfl, rfl⟩, ⟨by decide, by decide⟩, ⟨by decide, by decide⟩⟩, fun _ => mono_X4_spans (Γ := Γ)⟩ (all_cons ⟨call_cpyL bw_704 bw_460 bw_459 bw_57 (by decide +kernel), fun _ => mono_cpyL⟩ (all_nil)))))
set_option maxRecDepth 20000 in
theorem ok_X6_copy (Γ : Cx) : Ok Γ yX6_copy mX6_copy (sp_X6_copy Γ) := by
  refine ok_intro (by decide +kernel) rfl rfl ?_
  intro av σ K h
  obtain ⟨a, i, b, j, n, lab, X, ψ, rfl, hW, hpre, h⟩ := h
  obtain ⟨x, sh, ⟨n0, n1, n2, n3⟩, ⟨t0, t1, t2, t3⟩, p, ⟨i0, i1, i2, i3⟩, ip, ⟨ta, tl⟩, ⟨pa, pk⟩, S⟩ := X
  obtain ⟨⟨w, kp, kd, day, gone, draw, P, rule, gd⟩, si, ⟨pc, pn⟩, ⟨qc, qn⟩, hi, ⟨l, len⟩, ss⟩ := ψ
  have hW0 := hW
  obtain ⟨⟨x1, x2, x3, x4⟩, x5, ⟨sf, x6, x7⟩, ⟨cN, lN⟩, ⟨⟨t, cT⟩, lT⟩, pP, ⟨cI, lI⟩, pI, ⟨⟨pl, tT⟩, lTp, hlen⟩, ⟨⟨pls, pPl⟩, lPl⟩, hS⟩ := hW
  simp only at cN lN cT lT pP cI lI pI tT lTp hlen pPl lPl hS x6 x7
  obtain ⟨⟨m1, m2, m3, m4⟩, e1, e2, e3, e4⟩ := id cN
  simp only [XE, ColE, iA] at x1 x2 x5 m1 m2 m3 m4 e1 e2 e3 e4
  unfold fn x_copy at h
  simp only at h
  simp only [shA] at x6
  by_cases c1 : inr a 0 3 = true
  · by_cases c2 : inr b 0 3 = true
    · rw [if_pos ⟨c1, c2⟩] at h
      obtain ⟨q, hq, rfl⟩ := door_n c1
      obtain ⟨r, hr, rfl⟩ := door_n c2
      obtain ⟨d2, d3⟩ := in4q hq
      obtain ⟨d4, d5⟩ := in4q hr
      rw [d3, d5] at h
      obtain ⟨hS1, hl1⟩ := hS q hq
      obtain ⟨hS2, hl2⟩ := hS r hr
      have hx7 := x7 q hq
      have hx8 := x7 r hr
      obtain ⟨⟨v1, v2⟩, f1, f2⟩ := id hS1
      obtain ⟨⟨v3, v4⟩, f3, f4⟩ := id hS2
      simp only [ShE, lA] at f1 f2 f3 f4
      refine ⟨Nat.le_of_ble_eq_true rfl, yvc_ok (uX6_copy Γ) (S := []) 80 _ _ _ _ ?_⟩
      simp only [lv_args, Value.category, x1, x2, x5, x6, d2, d3, d4, d5, hx7, hx8, v1, v2, v3, v4, f1, f2, f3, f4, c1, c2, sp_X6_isSheet, sp_X6_isDoor, sp_X4_isMissing, sp_X4_spans, bI_t, i1ne0, bI_eq0, Bool.not_eq_false, decide_eq_true_eq, decide_eq_false_iff_not, Classical.not_not, sp_cpyL, yvc_s, s1i, s2i, s1l, s2l, sil, s1r, sir, siir, slir, srir, svr, sd1, sd2, lg, lput, ldel, isL_i, isL_r, isL_l, jmp, obj, obj1, fI, fR, arI, arL, arR, hput, f4_0, f4_1, f4_2, f4_3, lc_0, lc_1, rok_i, rok_b, rok_y, strF, fput_1, fput_2, csum_nil, csum_i, csum_l, csum_r, va_up_self, bx_uu, Int.reduceAdd, List.elem_nil, List.elem_cons, List.take_succ_cons, List.take_zero, List.drop_succ_cons, List.drop_zero, List.take_nil, List.drop_nil, List.reverse_cons, List.reverse_nil, List.nil_append, List.cons_append, List.append_nil, Option.toList_some, Option.toList_none, List.getElem?_cons_zero, List.getElem?_cons_succ, List.set_cons_zero, List.set_cons_succ, List.length_cons, List.length_nil, reduceIte, reduceCtorEq, and_true, true_and, and_self, or_true, true_or, false_and, and_false, not_true_eq_false, not_false_eq_true, true_implies, false_implies, implies_true, Nat.reduceAdd, Nat.reduceLT, Nat.reduceEqDiff, Nat.reduceLeDiff, Nat.reduceBEq, Nat.zero_add, Nat.lt_add_one, Bool.false_eq_true, Bool.or_false, Bool.or_true, Bool.or_self, Nat.zero_ne_one, Nat.one_ne_zero, ite_true, ite_false, ne_eq, Nat.reduceSub, Nat.succ_eq_add_one, Nat.zero_lt_succ, Nat.add_one_ne_zero, false_or, or_false, mX6_copy_c, mX6_copy_n, mX6_copy_r, mX6_copy_l, dX6_copy_0, dX6_copy_1, dX6_copy_4, tg_4_10, cnd1_eq, dX6_copy_7, dX6_copy_8, dX6_copy_11, tg_11_5, cnd1_ne, dX6_copy_14, ic_m1, dX6_copy_15, dX6_copy_16, dX6_copy_17, fl_6_53_6, dX6_copy_20, dX6_copy_21, dX6_copy_22, dX6_copy_24, dX6_copy_25, dX6_copy_28, dX6_copy_29, dX6_copy_30, dX6_copy_32, dX6_copy_34, dX6_copy_37, tg_37_11, dX6_copy_40, dX6_copy_42, dX6_copy_45, tg_45_6, dX6_copy_48, bc_m11, dX6_copy_50, dX6_copy_51, dX6_copy_53, fl_6_223_4, dX6_copy_56, dX6_copy_58, dX6_copy_61, tg_61_6, cnd2_eq, dX6_copy_64, bc_m12, dX6_copy_66, dX6_copy_67, dX6_copy_69, dX6_copy_70, dX6_copy_72, dX6_copy_75, tg_75_15, dX6_copy_78, dX6_copy_80, dX6_copy_82, dX6_copy_84, dX6_copy_87, tg_87_6, dX6_copy_90, bc_m13, dX6_copy_92, dX6_copy_93, dX6_copy_95, fl_6_230_4, dX6_copy_98, dX6_copy_99, dX6_copy_101, dX6_copy_104, dX6_copy_106, dX6_copy_108, dX6_copy_111, dX6_copy_113, jX6_copy_1_190, jX6_copy_0_216, jX6_copy_0_226, jX6_copy_1_234, st_aaload, st_aload, st_aload_n, st_astore, st_bipush, st_getfield, st_iconst, st_ifCond, st_if_icmp, st_iload, st_iload_n, st_invokestatic, st_invokevirtual, st_ireturn]
      refine ⟨fun c3 => ?_, fun c3 => ⟨fun c4 => ⟨fun c5 => ⟨fun c6 => ?_, fun c6 => ⟨fun c7 => ?_, fun c7 => ?_⟩⟩, fun c5 => ?_⟩, fun c4 => ?_⟩⟩
      · rw [if_pos (Or.inl c3)] at h
        exact h σ _ _ rfl frm.rf hW0
      · rw [if_neg (fun z => z.elim c3 c4), if_pos c5, if_neg (fun z => by rw [c6] at z; cases z.1)] at h
        exact h σ _ _ rfl frm.rf hW0
      · rw [if_neg (fun z => z.elim c3 c4), if_pos c5, if_pos ⟨c6, c7⟩] at h
        obtain ⟨I, N, k, rfl, rfl, e8, e9, e10⟩ := span_n (hpre.2 q hq) c3 c6
        obtain ⟨J, N', k', rfl, e12, e13, e14, e15⟩ := span_n (hpre.2 r hr) c4 c7
        have hNN : N = N' := by
          rcases Nat.lt_or_ge N' (2 ^ 31) with z | z
          · exact (nI_eq (by omega) z).mp e12
          · omega
        subst hNN
        rw [nI_clamp (show I < 2 ^ 31 by omega), nI_clamp (show J < 2 ^ 31 by omega), nI_clamp (show N < 2 ^ 31 by omega)] at h ⊢
        have hf : frm (fL lab (8 + r)) σ (shset Γ (S r) (va_cpy (ss q).1 (ss r).1 I J N, (ss r).2) σ) := shset_frm.mono hl2
        have hW1 := hW0.sS hr hf (hS2.set (va_cpy (ss q).1 (ss r).1 I J N, (ss r).2))
        have hk := h _ _ _ rfl (frmX hf (by omega)) hW1
        rw [← hS2.putA] at hk
        simp only [hput, lA] at hk
        exact ⟨⟨nI_pos (by omega), nI_pos (by omega), nI_pos (by omega), by omega, by omega⟩, hk⟩
      · rw [if_neg (fun z => z.elim c3 c4), if_pos c5, if_neg (fun z => c7 z.2)] at h
        exact h σ _ _ rfl frm.rf hW0
      · rw [if_neg (fun z => z.elim c3 c4), if_neg c5] at h
        exact h σ _ _ rfl frm.rf hW0
      · rw [if_pos (Or.inr c4)] at h
        exact h σ _ _ rfl frm.rf hW0
    · rw [if_neg (fun z => c2 z.2)] at h
      have c2' : inr b 0 3 = false := by cases q : inr b 0 3 <;> simp_all
      refine ⟨Nat.le_of_ble_eq_true rfl, yvc_ok (uX6_copy Γ) (S := []) 60 _ _ _ _ ?_⟩
      simp only [lv_args, Value.category, c1, c2', sp_X6_isSheet, sp_X6_isDoor, bI_t, bI_f, i1ne0, yvc_s, s1i, s2i, s1l, s2l, sil, s1r, sir, siir, slir, srir, svr, sd1, sd2, lg, lput, ldel, isL_i, isL_r, isL_l, jmp, obj, obj1, fI, fR, arI, arL, arR, hput, f4_0, f4_1, f4_2, f4_3, lc_0, lc_1, rok_i, rok_b, rok_y, strF, fput_1, fput_2, csum_nil, csum_i, csum_l, csum_r, va_up_self, bx_uu, Int.reduceAdd, List.elem_nil, List.elem_cons, List.take_succ_cons, List.take_zero, List.drop_succ_cons, List.drop_zero, List.take_nil, List.drop_nil, List.reverse_cons, List.reverse_nil, List.nil_append, List.cons_append, List.append_nil, Option.toList_some, Option.toList_none, List.getElem?_cons_zero, List.getElem?_cons_succ, List.set_cons_zero, List.set_cons_succ, List.length_cons, List.length_nil, reduceIte, reduceCtorEq, and_true, true_and, and_self, or_true, true_or, false_and, and_false, not_true_eq_false, not_false_eq_true, true_implies, false_implies, implies_true, Nat.reduceAdd, Nat.reduceLT, Nat.reduceEqDiff, Nat.reduceLeDiff, Nat.reduceBEq, Nat.zero_add, Nat.lt_add_one, Bool.false_eq_true, Bool.or_false, Bool.or_true, Bool.or_self, Nat.zero_ne_one, Nat.one_ne_zero, ite_true, ite_false, ne_eq, Nat.reduceSub, Nat.succ_eq_add_one, Nat.zero_lt_succ, Nat.add_one_ne_zero, false_or, or_false, mX6_copy_c, mX6_copy_n, mX6_copy_r, mX6_copy_l, dX6_copy_0, dX6_copy_1, dX6_copy_4, tg_4_10, cnd1_eq, dX6_copy_7, dX6_copy_8, dX6_copy_11, tg_11_5, cnd1_ne, dX6_copy_14, ic_m1, dX6_copy_15, dX6_copy_16, dX6_copy_17, fl_6_53_6, dX6_copy_20, dX6_copy_21, dX6_copy_22, dX6_copy_24, dX6_copy_25, dX6_copy_28, dX6_copy_29, dX6_copy_30, dX6_copy_32, dX6_copy_34, dX6_copy_37, tg_37_11, dX6_copy_40, dX6_copy_42, dX6_copy_45, tg_45_6, dX6_copy_48, bc_m11, dX6_copy_50, dX6_copy_51, dX6_copy_53, fl_6_223_4, dX6_copy_56, dX6_copy_58, dX6_copy_61, tg_61_6, cnd2_eq, dX6_copy_64, bc_m12, dX6_copy_66, dX6_copy_67, dX6_copy_69, dX6_copy_70, dX6_copy_72, dX6_copy_75, tg_75_15, dX6_copy_78, dX6_copy_80, dX6_copy_82, dX6_copy_84, dX6_copy_87, tg_87_6, dX6_copy_90, bc_m13, dX6_copy_92, dX6_copy_93, dX6_copy_95, fl_6_230_4, dX6_copy_98, dX6_copy_99, dX6_copy_101, dX6_copy_104, dX6_copy_106, dX6_copy_108, dX6_copy_111, dX6_copy_113, jX6_copy_1_190, jX6_copy_0_216, jX6_copy_0_226, jX6_copy_1_234, st_aaload, st_aload, st_aload_n, st_astore, st_bipush, st_getfield, st_iconst, st_ifCond, st_if_icmp, st_iload, st_iload_n, st_invokestatic, st_invokevirtual, st_ireturn]
      exact h σ _ _ rfl frm.rf hW0
  · rw [if_neg (fun z => c1 z.1)] at h
    have c1' : inr a 0 3 = false := by cases q : inr a 0 3 <;> simp_all
    refine ⟨Nat.le_of_ble_eq_true rfl, yvc_ok (uX6_copy Γ) (S := []) 60 _ _ _ _ ?_⟩
    simp only [lv_args, Value.category, c1', sp_X6_isSheet, sp_X6_isDoor, bI_f, yvc_s, s1i, s2i, s1l, s2l, sil, s1r, sir, siir, slir, srir, svr, sd1, sd2, lg, lput, ldel, isL_i, isL_r, isL_l, jmp, obj, obj1, fI, fR, arI, arL, arR, hput, f4_0, f4_1, f4_2, f4_3, lc_0, lc_1, rok_i, rok_b, rok_y, strF, fput_1, fput_2, csum_nil, csum_i, csum_l, csum_r, va_up_self, bx_uu, Int.reduceAdd, List.elem_nil, List.elem_cons, List.take_succ_cons, List.take_zero, List.drop_succ_cons, List.drop_zero, List.take_nil, List.drop_nil, List.reverse_cons, List.reverse_nil, List.nil_append, List.cons_append, List.append_nil, Option.toList_some, Option.toList_none, List.getElem?_cons_zero, List.getElem?_cons_succ, List.set_cons_zero, List.set_cons_succ, List.length_cons, List.length_nil, reduceIte, reduceCtorEq, and_true, true_and, and_self, or_true, true_or, false_and, and_false, not_true_eq_false, not_false_eq_true, true_implies, false_implies, implies_true, Nat.reduceAdd, Nat.reduceLT, Nat.reduceEqDiff, Nat.reduceLeDiff, Nat.reduceBEq, Nat.zero_add, Nat.lt_add_one, Bool.false_eq_true, Bool.or_false, Bool.or_true, Bool.or_self, Nat.zero_ne_one, Nat.one_ne_zero, ite_true, ite_false, ne_eq, Nat.reduceSub, Nat.succ_eq_add_one, Nat.zero_lt_succ, Nat.add_one_ne_zero, false_or, or_false, mX6_copy_c, mX6_copy_n, mX6_copy_r, mX6_copy_l, dX6_copy_0, dX6_copy_1, dX6_copy_4, tg_4_10, cnd1_eq, dX6_copy_7, dX6_copy_8, dX6_copy_11, tg_11_5, cnd1_ne, dX6_copy_14, ic_m1, dX6_copy_15, dX6_copy_16, dX6_copy_17, fl_6_53_6, dX6_copy_20, dX6_copy_21, dX6_copy_22, dX6_copy_24, dX6_copy_25, dX6_copy_28, dX6_copy_29, dX6_copy_30, dX6_copy_32, dX6_copy_34, dX6_copy_37, tg_37_11, dX6_copy_40, dX6_copy_42, dX6_copy_45, tg_45_6, dX6_copy_48, bc_m11, dX6_copy_50, dX6_copy_51, dX6_copy_53, fl_6_223_4, dX6_copy_56, dX6_copy_58, dX6_copy_61, tg_61_6, cnd2_eq, dX6_copy_64, bc_m12, dX6_copy_66, dX6_copy_67, dX6_copy_69, dX6_copy_70, dX6_copy_72, dX6_copy_75, tg_75_15, dX6_copy_78, dX6_copy_80, dX6_copy_82, dX6_copy_84, dX6_copy_87, tg_87_6, dX6_copy_90, bc_m13, dX6_copy_92, dX6_copy_93, dX6_copy_95, fl_6_230_4, dX6_copy_98, dX6_copy_99, dX6_copy_101, dX6_copy_104, dX6_copy_106, dX6_copy_108, dX6_copy_111, dX6_copy_113, jX6_copy_1_190, jX6_copy_0_216, jX6_copy_0_226, jX6_copy_1_234, st_aaload, st_aload, st_aload_n, st_astore, st_bipush, st_getfield, st_iconst, st_ifCond, st_if_icmp, st_iload, st_iload_n, st_invokestatic, st_invokevirtual, st_ireturn]
    exact h σ _ _ rfl frm.rf hW0
/-- suppose -/
def supC (s : CS) (what : Int32) (p d : Nat) (v : Int32) : CS := if what = 0 then (s.1, s.2.1, upd s.2.2.1 p v, s.2.2.2) else if what = 1 then (upd s.1 (ix (nI p) (nI d)) v, s.2) else setR s v
theorem supC_wf {s : CS} (h : WfC s) (what : Int32) (p d : Nat) (v : Int32) : WfC (supC s what p d v) := by
  unfold supC
  split
  · exact h.same rfl rfl
  · split
    · exact h.same rfl rfl
    · exact setR_wf h v
theorem toInt_0 {x : Int32} : x.toInt = 0 ↔ x = 0 := ⟨fun h => Int32.toInt_inj.mp (by rw [h]; decide), fun h => by rw [h]; decide⟩
theorem toInt_1 {x : Int32} : x.toInt = 1 ↔ x = 1 := ⟨fun h => Int32.toInt_inj.mp (by rw [h]; decide), fun h => by rw [h]; decide⟩
def sp_X6_suppose (Γ : Cx) : YSp := fun av σ K => ∃ (lab : Nat → Nat) (X : XA) (ψ : XS) (p d : Nat) (what v : Int32), av = [.ref X.1, .int (nI p), .int (nI d), .int what, .int v] ∧ p < 5 ∧ d < 4 ∧ XW Γ lab X ψ σ ∧ ∀ (σ' : Hp) (t : CS), frm (fL lab 2) σ σ' → XW Γ lab X ψ σ' → Col Γ X.2.2.2.1 (supC (bec t ψ.1) what p d v) σ' → K none σ'
theorem rv_X6_suppose {Γ : Cx} : Recv (sp_X6_suppose Γ) 4 6 := by
  intro av σ K h
  obtain ⟨lab, X, ψ, p, d, what, v, rfl, -, -, hW, -⟩ := h
  obtain ⟨fs, h1, h2⟩ := x_rv hW
  exact ⟨_, _, fs, rfl, rfl, h1, h2⟩
theorem bw_663 : Cond.methodLink RX6 243 yX0_setWant ∈ BW := bw_i 663 (by decide +kernel) (by decide +kernel)
theorem tg_12_56 : tgo 12 56 = some 68 := by decide
theorem tg_12_28 : tgo 12 28 = some 40 := by decide
theorem tg_12_42 : tgo 12 42 = some 54 := by decide
theorem tg_51_26 : tgo 51 26 = some 77 := by decide
theorem tg_65_12 : tgo 65 12 = some 77 := by decide
def mX6_suppose : Mt := (⟨3, 0, 0, 102⟩, RX6, cX6_suppose, 5, none, (0, 0), none)
theorem mX6_suppose_c : mX6_suppose.2.2.1 = cX6_suppose := rfl
theorem mX6_suppose_n : mX6_suppose.2.2.2.1 = 5 := rfl
theorem mX6_suppose_r : mX6_suppose.2.2.2.2.1 = none := rfl
theorem mX6_suppose_l : mX6_suppose.2.2.2.2.2.2 = none := rfl
def jX6_suppose (Γ : Cx) : List ((Nat × Nat) × Nat × Bool × YSp) := [((0, 124), 2, false, sp_X0_become Γ), ((0, 243), 4, false, sp_X0_setWant Γ)]
theorem jX6_suppose_0_124 (Γ : Cx) : kT (jX6_suppose Γ) 0 124 = some (2, false, sp_X0_become Γ) := rfl
theorem jX6_suppose_0_243 (Γ : Cx) : kT (jX6_suppose Γ) 0 243 = some (4, false, sp_X0_setWant Γ) := rfl
theorem uX6_suppose (Γ : Cx) : TbOK Γ mX6_suppose (fT fX6, cT kX6, kT (jX6_suppose Γ)) := tb_ok fX6_ok kX6_ok (all_cons ⟨call_V (n := 1) (T := TX0) (N := 9) (ok_X0_become Γ) (rv_X0_become (Γ := Γ)) rfl bw_451 bw_448 bw_449 bw_450 bw_44 no_X0_become ⟨⟨rfl, rfl⟩, ⟨by decide, by decide⟩, ⟨by decide, by decide⟩⟩, fun z => by cases z⟩ (all_cons ⟨call_V (n := 3) (T := TX0) (N := 9) (ok_X0_setWant Γ) (rv_X0_setWant (Γ := Γ)) rfl bw_253 bw_663 bw_251 bw_252 bw_44 no_X0_setWant ⟨⟨rfl, rfl⟩, ⟨by decide, by decide⟩, ⟨by decide, by decide⟩⟩, fun z => by cases z⟩ (all_nil)))
set_option maxRecDepth 20000 in
theorem ok_X6_suppose (Γ : Cx) : Ok Γ yX6_suppose mX6_suppose (sp_X6_suppose Γ) := by
  refine ok_intro (by decide +kernel) rfl rfl ?_
  intro av σ K h
  obtain ⟨lab, X, ψ, pp, dd, what, v, rfl, hpp, hdd, hW, h⟩ := h
  obtain ⟨x, sh, ⟨n0, n1, n2, n3⟩, ⟨t0, t1, t2, t3⟩, p, ⟨i0, i1, i2, i3⟩, ip, ⟨ta, tl⟩, ⟨pa, pk⟩, S⟩ := X
  obtain ⟨⟨w, kp, kd, day, gone, draw, P, rule, gd⟩, si, ⟨pc, pn⟩, ⟨qc, qn⟩, hi, ⟨l, len⟩, ss⟩ := ψ
  have hW0 := hW
  obtain ⟨⟨x1, x2, x3, x4⟩, x5, ⟨sf, x6, x7⟩, ⟨cN, lN⟩, ⟨⟨t, cT⟩, lT⟩, pP, ⟨cI, lI⟩, pI, ⟨⟨pl, tT⟩, lTp, hlen⟩, ⟨⟨pls, pPl⟩, lPl⟩, hS⟩ := hW
  simp only at cN lN cT lT pP cI lI pI tT lTp hlen pPl lPl hS x6 x7
  obtain ⟨⟨m1, m2, m3, m4⟩, e1, e2, e3, e4⟩ := id cN
  simp only [XE, ColE, iA] at x1 x2 x5 m1 m2 m3 m4 e1 e2 e3 e4
  refine ⟨Nat.le_of_ble_eq_true rfl, yvc_ok (uX6_suppose Γ) (S := []) 60 _ _ _ _ ?_⟩
  simp only [lv_args, Value.category, x1, x5, yvc_s, s1i, s2i, s1l, s2l, sil, s1r, sir, siir, slir, srir, svr, sd1, sd2, lg, lput, ldel, isL_i, isL_r, isL_l, jmp, obj, obj1, fI, fR, arI, arL, arR, hput, f4_0, f4_1, f4_2, f4_3, lc_0, lc_1, rok_i, rok_b, rok_y, strF, fput_1, fput_2, csum_nil, csum_i, csum_l, csum_r, va_up_self, bx_uu, Int.reduceAdd, List.elem_nil, List.elem_cons, List.take_succ_cons, List.take_zero, List.drop_succ_cons, List.drop_zero, List.take_nil, List.drop_nil, List.reverse_cons, List.reverse_nil, List.nil_append, List.cons_append, List.append_nil, Option.toList_some, Option.toList_none, List.getElem?_cons_zero, List.getElem?_cons_succ, List.set_cons_zero, List.set_cons_succ, List.length_cons, List.length_nil, reduceIte, reduceCtorEq, and_true, true_and, and_self, or_true, true_or, false_and, and_false, not_true_eq_false, not_false_eq_true, true_implies, false_implies, implies_true, Nat.reduceAdd, Nat.reduceLT, Nat.reduceEqDiff, Nat.reduceLeDiff, Nat.reduceBEq, Nat.zero_add, Nat.lt_add_one, Bool.false_eq_true, Bool.or_false, Bool.or_true, Bool.or_self, Nat.zero_ne_one, Nat.one_ne_zero, ite_true, ite_false, ne_eq, Nat.reduceSub, Nat.succ_eq_add_one, Nat.zero_lt_succ, Nat.add_one_ne_zero, false_or, or_false, mX6_suppose_c, mX6_suppose_n, mX6_suppose_r, mX6_suppose_l, dX6_suppose_0, dX6_suppose_1, fl_6_16_6, dX6_suppose_4, dX6_suppose_5, fl_6_10_6, dX6_suppose_8, dX6_suppose_11, dX6_suppose_12, tg_12_56, tg_12_28, tg_12_42, lkl, dX6_suppose_40, dX6_suppose_41, dX6_suppose_44, fl_6_85_0, dX6_suppose_47, dX6_suppose_48, dX6_suppose_50, dX6_suppose_51, tg_51_26, dX6_suppose_54, dX6_suppose_55, dX6_suppose_58, dX6_suppose_59, dX6_suppose_60, dX6_suppose_62, dX6_suppose_65, tg_65_12, dX6_suppose_68, dX6_suppose_69, dX6_suppose_72, dX6_suppose_74, fl_6_72_0, dX6_suppose_77, jX6_suppose_0_124, jX6_suppose_0_243, st_aload_n, st_getfield, st_goto, st_iastore, st_iload, st_iload_n, st_invokevirtual, st_lookupswitch, st_putfield, st_return]
  refine ⟨(t0, t1, t2, t3), (n0, n1, n2, n3), t, _, rfl, ap_lab lT lN (by decide), cT, cN, ?_⟩
  have hC1 := cT.set (bec t (w, kp, kd, day, gone, draw, P, rule, gd))
  have hW1 := hW0.sT (csetL (Γ := Γ) lT) ⟨_, hC1⟩
  have hk := fun s' => h _ t (csetL (Γ := Γ) (s := s') lT) (hW0.sT (csetL (Γ := Γ) lT) ⟨_, cT.set s'⟩)
  have hk2 : ∀ s', s' = supC (bec t (w, kp, kd, day, gone, draw, P, rule, gd)) what pp dd v → K none (cset Γ (t0, t1, t2, t3) s' (cset Γ (t0, t1, t2, t3) (bec t (w, kp, kd, day, gone, draw, P, rule, gd)) σ)) := by
    intro s' hs'
    rw [cset_cset]
    refine hk s' ?_
    simp only
    rw [← hs']
    exact cT.set s'
  clear hk h
  generalize cset Γ (t0, t1, t2, t3) (bec t (w, kp, kd, day, gone, draw, P, rule, gd)) σ = σ1 at hC1 hW1 hk2 ⊢
  generalize bec t (w, kp, kd, day, gone, draw, P, rule, gd) = s1 at hC1 hk2
  obtain ⟨w1, kp1, kd1, day1, gone1, draw1, P1, rule1, gd1⟩ := s1
  have q1 := hC1.putD (upd kd1 pp v)
  have q2 := hC1.put (setR (w1, kp1, kd1, day1, gone1, draw1, P1, rule1, gd1) v) rfl rfl rfl
  obtain ⟨⟨y1, -⟩, y5, -⟩ := id hW1
  obtain ⟨⟨u1, u2, u3, u4⟩, g1, g2, g3, g4⟩ := id hC1
  simp only [XE, ColE, iA, hput, setR] at y1 y5 u1 u4 g1 g4 q1 q2
  have c5 : vp_in (nI pp) 5 := vp_in_nI hpp (by decide)
  have c6 : (nI pp).toNatClampNeg = pp := nI_clamp (by omega)
  refine yvc_ok (uX6_suppose Γ) (S := []) 60 _ _ _ _ ?_
  simp only [y1, y5, u1, u4, g1, g4, c5, c6, q1, q2, toInt_0, toInt_1, yvc_s, s1i, s2i, s1l, s2l, sil, s1r, sir, siir, slir, srir, svr, sd1, sd2, lg, lput, ldel, isL_i, isL_r, isL_l, jmp, obj, obj1, fI, fR, arI, arL, arR, hput, f4_0, f4_1, f4_2, f4_3, lc_0, lc_1, rok_i, rok_b, rok_y, strF, fput_1, fput_2, csum_nil, csum_i, csum_l, csum_r, va_up_self, bx_uu, Int.reduceAdd, List.elem_nil, List.elem_cons, List.take_succ_cons, List.take_zero, List.drop_succ_cons, List.drop_zero, List.take_nil, List.drop_nil, List.reverse_cons, List.reverse_nil, List.nil_append, List.cons_append, List.append_nil, Option.toList_some, Option.toList_none, List.getElem?_cons_zero, List.getElem?_cons_succ, List.set_cons_zero, List.set_cons_succ, List.length_cons, List.length_nil, reduceIte, reduceCtorEq, and_true, true_and, and_self, or_true, true_or, false_and, and_false, not_true_eq_false, not_false_eq_true, true_implies, false_implies, implies_true, Nat.reduceAdd, Nat.reduceLT, Nat.reduceEqDiff, Nat.reduceLeDiff, Nat.reduceBEq, Nat.zero_add, Nat.lt_add_one, Bool.false_eq_true, Bool.or_false, Bool.or_true, Bool.or_self, Nat.zero_ne_one, Nat.one_ne_zero, ite_true, ite_false, ne_eq, Nat.reduceSub, Nat.succ_eq_add_one, Nat.zero_lt_succ, Nat.add_one_ne_zero, false_or, or_false, mX6_suppose_c, mX6_suppose_n, mX6_suppose_r, mX6_suppose_l, dX6_suppose_0, dX6_suppose_1, fl_6_16_6, dX6_suppose_4, dX6_suppose_5, fl_6_10_6, dX6_suppose_8, dX6_suppose_11, dX6_suppose_12, tg_12_56, tg_12_28, tg_12_42, lkl, dX6_suppose_40, dX6_suppose_41, dX6_suppose_44, fl_6_85_0, dX6_suppose_47, dX6_suppose_48, dX6_suppose_50, dX6_suppose_51, tg_51_26, dX6_suppose_54, dX6_suppose_55, dX6_suppose_58, dX6_suppose_59, dX6_suppose_60, dX6_suppose_62, dX6_suppose_65, tg_65_12, dX6_suppose_68, dX6_suppose_69, dX6_suppose_72, dX6_suppose_74, fl_6_72_0, dX6_suppose_77, jX6_suppose_0_124, jX6_suppose_0_243, st_aload_n, st_getfield, st_goto, st_iastore, st_iload, st_iload_n, st_invokevirtual, st_lookupswitch, st_putfield, st_return]
  refine ⟨by decide, fun d1 => ?_, fun d1 => ⟨fun d2 => ?_, fun d2 => ?_⟩⟩
  · exact hk2 _ (by unfold supC; rw [if_pos d1])
  · refine ⟨(t0, t1, t2, t3), _, _, _, _, rfl, hC1, ix_in hpp hdd, ?_⟩
    have hk3 := hk2 (upd w1 (ix (nI pp) (nI dd)) v, kp1, kd1, day1, gone1, draw1, P1, rule1, gd1) (by unfold supC; rw [if_neg d1, if_pos d2])
    refine yvc_ok (uX6_suppose Γ) (S := []) 60 _ _ _ _ ?_
    simp only [yvc_s, s1i, s2i, s1l, s2l, sil, s1r, sir, siir, slir, srir, svr, sd1, sd2, lg, lput, ldel, isL_i, isL_r, isL_l, jmp, obj, obj1, fI, fR, arI, arL, arR, hput, f4_0, f4_1, f4_2, f4_3, lc_0, lc_1, rok_i, rok_b, rok_y, strF, fput_1, fput_2, csum_nil, csum_i, csum_l, csum_r, va_up_self, bx_uu, Int.reduceAdd, List.elem_nil, List.elem_cons, List.take_succ_cons, List.take_zero, List.drop_succ_cons, List.drop_zero, List.take_nil, List.drop_nil, List.reverse_cons, List.reverse_nil, List.nil_append, List.cons_append, List.append_nil, Option.toList_some, Option.toList_none, List.getElem?_cons_zero, List.getElem?_cons_succ, List.set_cons_zero, List.set_cons_succ, List.length_cons, List.length_nil, reduceIte, reduceCtorEq, and_true, true_and, and_self, or_true, true_or, false_and, and_false, not_true_eq_false, not_false_eq_true, true_implies, false_implies, implies_true, Nat.reduceAdd, Nat.reduceLT, Nat.reduceEqDiff, Nat.reduceLeDiff, Nat.reduceBEq, Nat.zero_add, Nat.lt_add_one, Bool.false_eq_true, Bool.or_false, Bool.or_true, Bool.or_self, Nat.zero_ne_one, Nat.one_ne_zero, ite_true, ite_false, ne_eq, Nat.reduceSub, Nat.succ_eq_add_one, Nat.zero_lt_succ, Nat.add_one_ne_zero, false_or, or_false, mX6_suppose_c, mX6_suppose_n, mX6_suppose_r, mX6_suppose_l, dX6_suppose_0, dX6_suppose_1, fl_6_16_6, dX6_suppose_4, dX6_suppose_5, fl_6_10_6, dX6_suppose_8, dX6_suppose_11, dX6_suppose_12, tg_12_56, tg_12_28, tg_12_42, lkl, dX6_suppose_40, dX6_suppose_41, dX6_suppose_44, fl_6_85_0, dX6_suppose_47, dX6_suppose_48, dX6_suppose_50, dX6_suppose_51, tg_51_26, dX6_suppose_54, dX6_suppose_55, dX6_suppose_58, dX6_suppose_59, dX6_suppose_60, dX6_suppose_62, dX6_suppose_65, tg_65_12, dX6_suppose_68, dX6_suppose_69, dX6_suppose_72, dX6_suppose_74, fl_6_72_0, dX6_suppose_77, jX6_suppose_0_124, jX6_suppose_0_243, st_aload_n, st_getfield, st_goto, st_iastore, st_iload, st_iload_n, st_invokevirtual, st_lookupswitch, st_putfield, st_return]
    exact hk3
  · exact hk2 _ (by unfold supC; rw [if_neg d1, if_neg d2]; rfl)
def TdR (ψ : XS) (what : Int32) (p d : Nat) (it : Nat → Int64) (I N : Nat) : Nat → Nat → Int32 → Int32 → Prop
  | 0, _, acc, r => r = acc
  | m + 1, v, acc, r => ∃ t, TdR ψ what p d it I N m (v + 1) (if tlB (supC (bec t ψ.1) what p d (nI v)) it (nI p) (nI d) I N 0 = true then acc ||| (1 <<< (nI v &&& 31)) else acc) r
def tdF (what : Int32) : Nat := if what = 2 then 1 else 0
def tdL (what : Int32) : Nat := if what = 0 then 4 else 20
def okT (ψ : XS) (a b c d f g : Int32) : Prop := inr a 0 (nI ψ.1.2.2.2.2.2.2.1 - 1) = true ∧ inr b 0 3 = true ∧ inr c 0 3 = true ∧ inr d 0 3 = true ∧ inr f 1 8 = true ∧ inr g 0 2 = true
def x_told (a b c d e f g : Int32) : XS → XS → Int32 → Prop := fun ψ ψ' r => ψ' = ψ ∧ ((¬ okT ψ a b c d f g ∧ r = -1) ∨ (okT ψ a b c d f g ∧ ((¬ rfz (ψ.2.2.2.2.2.2 c.toNatClampNeg).2.1 (ψ.2.2.2.2.2.2 c.toNatClampNeg).2.2 d e f = 0 ∧ r = rfz (ψ.2.2.2.2.2.2 c.toNatClampNeg).2.1 (ψ.2.2.2.2.2.2 c.toNatClampNeg).2.2 d e f) ∨ (rfz (ψ.2.2.2.2.2.2 c.toNatClampNeg).2.1 (ψ.2.2.2.2.2.2 c.toNatClampNeg).2.2 d e f = 0 ∧ TdR ψ g a.toNatClampNeg b.toNatClampNeg (ψ.2.2.2.2.2.2 c.toNatClampNeg).1 e.toNatClampNeg f.toNatClampNeg (tdL g + 1 - tdF g) (tdF g) 0 r))))
def sp_X6_told (Γ : Cx) : YSp := fun av σ K => ∃ (a b c d e f g : Int32), xq Γ [.int a, .int b, .int c, .int d, .int e, .int f, .int g] (x_told a b c d e f g) PXS av σ K
theorem rv_X6_told {Γ : Cx} : Recv (sp_X6_told Γ) 7 6 := by
  intro av σ K h
  obtain ⟨a, b, c, d, e, f, g, h⟩ := h
  obtain ⟨q, fs, h1, h2, h3⟩ := rv_xq h
  exact ⟨q, _, fs, h1, rfl, h2, h3⟩
theorem bw_662 : Cond.code yX6_suppose cX6_suppose 5 none ∈ BW := bw_i 662 (by decide +kernel) (by decide +kernel)
theorem no_X6_suppose : NameOK yX6_suppose 4 := by unfold NameOK; decide +kernel
theorem bw_659 : Cond.methodLink RX6 200 yX6_suppose ∈ BW := bw_i 659 (by decide +kernel) (by decide +kernel)
theorem bw_661 : Cond.instanceMethod yX6_suppose ∈ BW := bw_i 661 (by decide +kernel) (by decide +kernel)
theorem bw_13 : Cond.selects RX6 yX6_suppose yX6_suppose ∈ BW := bw_i 13 (by decide +kernel) (by decide +kernel)
theorem bw_667 : Cond.code yX4_tells cX4_tells 7 (some .boolean) ∈ BW := bw_i 667 (by decide +kernel) (by decide +kernel)
theorem no_X4_tells : NameOK yX4_tells 5 := by unfold NameOK; decide +kernel
theorem bw_664 : Cond.methodLink RX6 204 yX4_tells ∈ BW := bw_i 664 (by decide +kernel) (by decide +kernel)
theorem bw_665 : Cond.instanceMethod yX4_tells ∈ BW := bw_i 665 (by decide +kernel) (by decide +kernel)
theorem bw_666 : Cond.selects RX4 yX4_tells yX4_tells ∈ BW := bw_i 666 (by decide +kernel) (by decide +kernel)
theorem tg_8_46 : tgo 8 46 = some 54 := by decide
theorem tg_15_39 : tgo 15 39 = some 54 := by decide
theorem tg_22_32 : tgo 22 32 = some 54 := by decide
theorem tg_30_24 : tgo 30 24 = some 54 := by decide
theorem tg_41_13 : tgo 41 13 = some 54 := by decide
theorem tg_51_5 : tgo 51 5 = some 56 := by decide
theorem tg_75_6 : tgo 75 6 = some 81 := by decide
theorem tg_84_7 : tgo 84 7 = some 91 := by decide
theorem tg_88_4 : tgo 88 4 = some 92 := by decide
theorem tg_96_7 : tgo 96 7 = some 103 := by decide
theorem tg_100_5 : tgo 100 5 = some 105 := by decide
theorem tg_118_50 : tgo 118 50 = some 168 := by decide
theorem tg_150_12 : tgo 150 12 = some 162 := by decide
theorem tg_165_m51 : tgo 165 (-51) = some 114 := by decide
def mX6_told : Mt := (⟨5, 0, 0, 126⟩, RX6, cX6_told, 13, some .int, (0, 0), none)
theorem mX6_told_c : mX6_told.2.2.1 = cX6_told := rfl
theorem mX6_told_n : mX6_told.2.2.2.1 = 13 := rfl
theorem mX6_told_r : mX6_told.2.2.2.2.1 = some .int := rfl
theorem mX6_told_l : mX6_told.2.2.2.2.2.2 = none := rfl
def jX6_told (Γ : Cx) : List ((Nat × Nat) × Nat × Bool × YSp) := [((0, 75), 2, true, sp_X0_has Γ), ((1, 79), 1, true, sp_X6_isDoor Γ), ((1, 190), 1, true, sp_X6_isSheet Γ), ((1, 193), 1, true, sp_X6_isLane Γ), ((1, 57), 3, true, sp_X6_within Γ), ((0, 196), 4, true, sp_X4_refusal Γ), ((0, 200), 5, false, sp_X6_suppose Γ), ((0, 204), 6, false, sp_X4_tells Γ)]
theorem jX6_told_0_75 (Γ : Cx) : kT (jX6_told Γ) 0 75 = some (2, true, sp_X0_has Γ) := rfl
theorem jX6_told_1_79 (Γ : Cx) : kT (jX6_told Γ) 1 79 = some (1, true, sp_X6_isDoor Γ) := rfl
theorem jX6_told_1_190 (Γ : Cx) : kT (jX6_told Γ) 1 190 = some (1, true, sp_X6_isSheet Γ) := rfl
theorem jX6_told_1_193 (Γ : Cx) : kT (jX6_told Γ) 1 193 = some (1, true, sp_X6_isLane Γ) := rfl
theorem jX6_told_1_57 (Γ : Cx) : kT (jX6_told Γ) 1 57 = some (3, true, sp_X6_within Γ) := rfl
theorem jX6_told_0_196 (Γ : Cx) : kT (jX6_told Γ) 0 196 = some (4, true, sp_X4_refusal Γ) := rfl
theorem jX6_told_0_200 (Γ : Cx) : kT (jX6_told Γ) 0 200 = some (5, false, sp_X6_suppose Γ) := rfl
theorem jX6_told_0_204 (Γ : Cx) : kT (jX6_told Γ) 0 204 = some (6, false, sp_X4_tells Γ) := rfl
theorem uX6_told (Γ : Cx) : TbOK Γ mX6_told (fT fX6, cT kX6, kT (jX6_told Γ)) := tb_ok fX6_ok kX6_ok (all_cons ⟨call_V (n := 1) (T := TX0) (N := 9) (ok_X0_has Γ) (rv_X0_has (Γ := Γ)) rfl bw_265 bw_262 bw_263 bw_264 bw_44 no_X0_has ⟨⟨rfl, rfl⟩, ⟨by decide, by decide⟩, ⟨by decide, by decide⟩⟩, fun _ => mono_X0_has (Γ := Γ)⟩ (all_cons ⟨call_S (n := 1) (ok_X6_isDoor Γ) (rv_X6_isDoor (Γ := Γ)) bw_269 bw_267 bw_268 bw_42 no_X6_isDoor ⟨⟨rfl, rfl⟩, ⟨by decide, by decide⟩, ⟨by decide, by decide⟩⟩, fun _ => mono_X6_isDoor (Γ := Γ)⟩ (all_cons ⟨call_S (n := 1) (ok_X6_isSheet Γ) (rv_X6_isSheet (Γ := Γ)) bw_643 bw_641 bw_642 bw_42 no_X6_isSheet ⟨⟨rfl, rfl⟩, ⟨by decide, by decide⟩, ⟨by decide, by decide⟩⟩, fun _ => mono_X6_isSheet (Γ := Γ)⟩ (all_cons ⟨call_S (n := 1) (ok_X6_isLane Γ) (rv_X6_isLane (Γ := Γ)) bw_646 bw_644 bw_645 bw_42 no_X6_isLane ⟨⟨rfl, rfl⟩, ⟨by decide, by decide⟩, ⟨by decide, by decide⟩⟩, fun _ => mono_X6_isLane (Γ := Γ)⟩ (all_cons ⟨call_S (n := 3) (ok_X6_within Γ) (rv_X6_within (Γ := Γ)) bw_241 bw_239 bw_240 bw_42 no_X6_within ⟨⟨rfl, rfl⟩, ⟨by decide, by decide⟩, ⟨by decide, by decide⟩⟩, fun _ => mono_X6_within (Γ := Γ)⟩ (all_cons ⟨call_V (n := 3) (T := TX4) (N := 3) (ok_X4_refusal Γ) (rv_X4_refusal (Γ := Γ)) rfl bw_650 bw_647 bw_648 bw_649 bw_48 no_X4_refusal ⟨⟨rfl, rfl⟩, ⟨by decide, by decide⟩, ⟨by decide, by decide⟩⟩, fun _ => mono_X4_refusal (Γ := Γ)⟩ (all_cons ⟨call_V (n := 4) (T := TX6) (N := 9) (ok_X6_suppose Γ) (rv_X6_suppose (Γ := Γ)) rfl bw_662 bw_659 bw_661 bw_13 bw_42 no_X6_suppose ⟨⟨rfl, rfl⟩, ⟨by decide, by decide⟩, ⟨by decide, by decide⟩⟩, fun z => by cases z⟩ (all_cons ⟨call_V (n := 5) (T := TX4) (N := 3) (ok_X4_tells Γ) (rv_X4_tells (Γ := Γ)) rfl bw_667 bw_664 bw_665 bw_666 bw_48 no_X4_tells ⟨⟨rfl, rfl⟩, ⟨by decide, by decide⟩, ⟨by decide, by decide⟩⟩, fun z => by cases z⟩ (all_nil)))))))))
theorem dis_lab {lab : Nat → Nat} {A : Nat × Nat} {B : CA} {j k : Nat} (hA : ∀ q, SF A q → lab q = j) (hB : ∀ q, CF B q → lab q = k) (h : j ≠ k) : ∀ q, SF A q → ¬ CF B q := fun q h1 h2 => h ((hA q h1).symm.trans (hB q h2))
set_option maxRecDepth 20000 in
theorem ok_X6_told (Γ : Cx) : Ok Γ yX6_told mX6_told (sp_X6_told Γ) := by
  refine ok_intro (by decide +kernel) rfl rfl ?_
  intro av σ K h
  obtain ⟨a, b, c, d, e, f, g, lab, X, ψ, rfl, hW, hpre, h⟩ := h
  obtain ⟨x, sh, ⟨n0, n1, n2, n3⟩, ⟨t0, t1, t2, t3⟩, p, ⟨i0, i1, i2, i3⟩, ip, ⟨ta, tl⟩, ⟨pa, pk⟩, S⟩ := X
  obtain ⟨⟨w, kp, kd, day, gone, draw, P, rule, gd⟩, si, ⟨pc, pn⟩, ⟨qc, qn⟩, hi, ⟨l, len⟩, ss⟩ := ψ
  have hW0 := hW
  obtain ⟨⟨x1, x2, x3, x4⟩, x5, ⟨sf, x6, x7⟩, ⟨cN, lN⟩, ⟨⟨t, cT⟩, lT⟩, pP, ⟨cI, lI⟩, pI, ⟨⟨pl, tT⟩, lTp, hlen⟩, ⟨⟨pls, pPl⟩, lPl⟩, hS⟩ := hW
  simp only at cN lN cT lT pP cI lI pI tT lTp hlen pPl lPl hS x6 x7
  obtain ⟨⟨m1, m2, m3, m4⟩, e1, e2, e3, e4⟩ := id cN
  simp only [XE, ColE, iA] at x1 x2 x5 m1 m2 m3 m4 e1 e2 e3 e4
  have hP := hpre.1.1
  simp only at hP
  have hno : ¬ okT ((w, kp, kd, day, gone, draw, P, rule, gd), si, (pc, pn), (qc, qn), hi, (l, len), ss) a b c d f g → K (some (.int (-1))) σ := fun z => h σ _ _ ⟨rfl, Or.inl ⟨z, rfl⟩⟩ frm.rf hW0
  have go : okT ((w, kp, kd, day, gone, draw, P, rule, gd), si, (pc, pn), (qc, qn), hi, (l, len), ss) a b c d f g → YG Γ mX6_told K 56 [(0, .ref x), (1, .int a), (2, .int b), (3, .int c), (4, .int d), (5, .int e), (6, .int f), (7, .int g)] [] σ := by
    intro hok
    have h2 := fun σ' r hr hf hW' => h σ' _ r ⟨rfl, Or.inr ⟨hok, hr⟩⟩ hf hW'
    obtain ⟨o1, o2, o3, o4, o5, o6⟩ := hok
    obtain ⟨pp, hpp, rfl⟩ := has_n hP o1
    obtain ⟨dd, hdd, rfl⟩ := door_n o2
    obtain ⟨q, hq, rfl⟩ := door_n o3
    obtain ⟨d2, d3⟩ := in4q hq
    obtain ⟨hS1, hl1⟩ := hS q hq
    have hx7 := x7 q hq
    have hss := hpre.2 q hq
    obtain ⟨⟨v1, v2⟩, f1, f2⟩ := id hS1
    simp only [ShE, shA] at f1 x6
    simp only [d3] at h2 hss
    refine yvc_ok (uX6_told Γ) (S := [81]) 60 _ _ _ _ ?_
    simp only [x1, x2, x5, x6, d2, d3, hx7, v1, f1, sp_X4_refusal, yvc_s, s1i, s2i, s1l, s2l, sil, s1r, sir, siir, slir, srir, svr, sd1, sd2, lg, lput, ldel, isL_i, isL_r, isL_l, jmp, obj, obj1, fI, fR, arI, arL, arR, hput, f4_0, f4_1, f4_2, f4_3, lc_0, lc_1, rok_i, rok_b, rok_y, strF, fput_1, fput_2, csum_nil, csum_i, csum_l, csum_r, va_up_self, bx_uu, Int.reduceAdd, List.elem_nil, List.elem_cons, List.take_succ_cons, List.take_zero, List.drop_succ_cons, List.drop_zero, List.take_nil, List.drop_nil, List.reverse_cons, List.reverse_nil, List.nil_append, List.cons_append, List.append_nil, Option.toList_some, Option.toList_none, List.getElem?_cons_zero, List.getElem?_cons_succ, List.set_cons_zero, List.set_cons_succ, List.length_cons, List.length_nil, reduceIte, reduceCtorEq, and_true, true_and, and_self, or_true, true_or, false_and, and_false, not_true_eq_false, not_false_eq_true, true_implies, false_implies, implies_true, Nat.reduceAdd, Nat.reduceLT, Nat.reduceEqDiff, Nat.reduceLeDiff, Nat.reduceBEq, Nat.zero_add, Nat.lt_add_one, Bool.false_eq_true, Bool.or_false, Bool.or_true, Bool.or_self, Nat.zero_ne_one, Nat.one_ne_zero, ite_true, ite_false, ne_eq, Nat.reduceSub, Nat.succ_eq_add_one, Nat.zero_lt_succ, Nat.add_one_ne_zero, false_or, or_false, mX6_told_c, mX6_told_n, mX6_told_r, mX6_told_l, dX6_told_0, dX6_told_1, fl_6_10_6, dX6_told_4, dX6_told_5, dX6_told_8, tg_8_46, cnd1_eq, dX6_told_11, dX6_told_12, dX6_told_15, tg_15_39, dX6_told_18, dX6_told_19, dX6_told_22, tg_22_32, dX6_told_25, dX6_told_27, dX6_told_30, tg_30_24, dX6_told_33, dX6_told_35, ic_1, dX6_told_36, bc_8, dX6_told_38, dX6_told_41, tg_41_13, dX6_told_44, dX6_told_46, ic_0, dX6_told_47, ic_2, dX6_told_48, dX6_told_51, tg_51_5, cnd1_ne, dX6_told_54, ic_m1, dX6_told_55, dX6_told_56, dX6_told_57, fl_6_53_6, dX6_told_60, dX6_told_61, dX6_told_62, dX6_told_64, dX6_told_66, dX6_told_68, dX6_told_71, dX6_told_73, dX6_told_75, tg_75_6, dX6_told_78, dX6_told_80, dX6_told_81, dX6_told_83, dX6_told_84, tg_84_7, cnd2_ne, dX6_told_87, dX6_told_88, tg_88_4, dX6_told_91, dX6_told_92, dX6_told_94, dX6_told_96, tg_96_7, dX6_told_99, ic_4, dX6_told_100, tg_100_5, dX6_told_103, bc_20, dX6_told_105, dX6_told_107, dX6_told_108, dX6_told_110, dX6_told_112, dX6_told_114, dX6_told_116, dX6_told_118, tg_118_50, cnd2_gt, dX6_told_121, dX6_told_122, dX6_told_123, dX6_told_124, dX6_told_126, dX6_told_128, dX6_told_131, dX6_told_132, dX6_told_135, dX6_told_136, dX6_told_137, dX6_told_138, fl_6_16_6, dX6_told_141, dX6_told_142, dX6_told_143, dX6_told_145, dX6_told_147, dX6_told_150, tg_150_12, dX6_told_153, dX6_told_155, dX6_told_156, dX6_told_158, dX6_told_159, dX6_told_160, dX6_told_162, dX6_told_165, tg_165_m51, dX6_told_168, dX6_told_170, jX6_told_0_75, jX6_told_1_79, jX6_told_1_190, jX6_told_1_193, jX6_told_1_57, jX6_told_0_196, jX6_told_0_200, jX6_told_0_204, st_aaload, st_aload_n, st_bipush, st_getfield, st_goto, st_iconst, st_ifCond, st_if_icmp, st_iinc, st_iload, st_iload_n, st_invokestatic, st_invokevirtual, st_ior, st_ireturn, st_ishl, st_istore]
    refine ⟨fun c3 => ?_, fun c3 => h2 σ _ (Or.inl ⟨c3, rfl⟩) frm.rf hW0⟩
    obtain ⟨r1, r2, r3⟩ := rfz_0 c3
    obtain ⟨I, N, k, rfl, rfl, e8, e9, e10⟩ := span_n hss r1 r3
    have h3 := fun σ' r hr hf hW' => h2 σ' r (Or.inr ⟨c3, hr⟩) hf hW'
    rw [nI_clamp (show I < 2 ^ 31 by omega), nI_clamp (show N < 2 ^ 31 by omega), nI_clamp (show pp < 2 ^ 31 by omega), nI_clamp (show dd < 2 ^ 31 by omega)] at h3
    clear h2 h
    have loop : ∀ m v : Nat, ∀ (acc : Int32) (t : CS) (σ1 : Hp) (F0 : Nat), v + m = tdL g + 1 → frm (fL lab 2) σ σ1 → XW Γ lab (x, sh, (n0, n1, n2, n3), (t0, t1, t2, t3), p, (i0, i1, i2, i3), ip, (ta, tl), (pa, pk), S) ((w, kp, kd, day, gone, draw, P, rule, gd), si, (pc, pn), (qc, qn), hi, (l, len), ss) σ1 → (∀ r, TdR ((w, kp, kd, day, gone, draw, P, rule, gd), si, (pc, pn), (qc, qn), hi, (l, len), ss) g pp dd (ss q).1 I N m v acc r → TdR ((w, kp, kd, day, gone, draw, P, rule, gd), si, (pc, pn), (qc, qn), hi, (l, len), ss) g pp dd (ss q).1 I N (tdL g + 1 - tdF g) (tdF g) 0 r) → YG Γ mX6_told K 114 [(0, .ref x), (1, .int (nI pp)), (2, .int (nI dd)), (3, .int (nI q)), (4, .int d), (5, .int (nI I)), (6, .int (nI N)), (7, .int g), (8, .int (rfz (ss q).2.1 (ss q).2.2 d (nI I) (nI N))), (9, .int (nI F0)), (10, .int (nI (tdL g))), (11, .int acc), (12, .int (nI v))] [] σ1 := by
      have hL : tdL g ≤ 20 := by unfold tdL; split <;> decide
      intro m
      induction m with
      | zero =>
        intro v acc t σ1 F0 hv hf1 hW1 hr
        have g0 := gtN (show tdL g < v by omega) (by omega)
        have hk := h3 σ1 _ (hr _ rfl) (frmX hf1 (by decide)) hW1
        refine yvc1_ok (uX6_told Γ) (S := [114]) 40 ?_
        simp only [yvc1, g0, yvc_s, s1i, s2i, s1l, s2l, sil, s1r, sir, siir, slir, srir, svr, sd1, sd2, lg, lput, ldel, isL_i, isL_r, isL_l, jmp, obj, obj1, fI, fR, arI, arL, arR, hput, f4_0, f4_1, f4_2, f4_3, lc_0, lc_1, rok_i, rok_b, rok_y, strF, fput_1, fput_2, csum_nil, csum_i, csum_l, csum_r, va_up_self, bx_uu, Int.reduceAdd, List.elem_nil, List.elem_cons, List.take_succ_cons, List.take_zero, List.drop_succ_cons, List.drop_zero, List.take_nil, List.drop_nil, List.reverse_cons, List.reverse_nil, List.nil_append, List.cons_append, List.append_nil, Option.toList_some, Option.toList_none, List.getElem?_cons_zero, List.getElem?_cons_succ, List.set_cons_zero, List.set_cons_succ, List.length_cons, List.length_nil, reduceIte, reduceCtorEq, and_true, true_and, and_self, or_true, true_or, false_and, and_false, not_true_eq_false, not_false_eq_true, true_implies, false_implies, implies_true, Nat.reduceAdd, Nat.reduceLT, Nat.reduceEqDiff, Nat.reduceLeDiff, Nat.reduceBEq, Nat.zero_add, Nat.lt_add_one, Bool.false_eq_true, Bool.or_false, Bool.or_true, Bool.or_self, Nat.zero_ne_one, Nat.one_ne_zero, ite_true, ite_false, ne_eq, Nat.reduceSub, Nat.succ_eq_add_one, Nat.zero_lt_succ, Nat.add_one_ne_zero, false_or, or_false, mX6_told_c, mX6_told_n, mX6_told_r, mX6_told_l, dX6_told_0, dX6_told_1, fl_6_10_6, dX6_told_4, dX6_told_5, dX6_told_8, tg_8_46, cnd1_eq, dX6_told_11, dX6_told_12, dX6_told_15, tg_15_39, dX6_told_18, dX6_told_19, dX6_told_22, tg_22_32, dX6_told_25, dX6_told_27, dX6_told_30, tg_30_24, dX6_told_33, dX6_told_35, ic_1, dX6_told_36, bc_8, dX6_told_38, dX6_told_41, tg_41_13, dX6_told_44, dX6_told_46, ic_0, dX6_told_47, ic_2, dX6_told_48, dX6_told_51, tg_51_5, cnd1_ne, dX6_told_54, ic_m1, dX6_told_55, dX6_told_56, dX6_told_57, fl_6_53_6, dX6_told_60, dX6_told_61, dX6_told_62, dX6_told_64, dX6_told_66, dX6_told_68, dX6_told_71, dX6_told_73, dX6_told_75, tg_75_6, dX6_told_78, dX6_told_80, dX6_told_81, dX6_told_83, dX6_told_84, tg_84_7, cnd2_ne, dX6_told_87, dX6_told_88, tg_88_4, dX6_told_91, dX6_told_92, dX6_told_94, dX6_told_96, tg_96_7, dX6_told_99, ic_4, dX6_told_100, tg_100_5, dX6_told_103, bc_20, dX6_told_105, dX6_told_107, dX6_told_108, dX6_told_110, dX6_told_112, dX6_told_114, dX6_told_116, dX6_told_118, tg_118_50, cnd2_gt, dX6_told_121, dX6_told_122, dX6_told_123, dX6_told_124, dX6_told_126, dX6_told_128, dX6_told_131, dX6_told_132, dX6_told_135, dX6_told_136, dX6_told_137, dX6_told_138, fl_6_16_6, dX6_told_141, dX6_told_142, dX6_told_143, dX6_told_145, dX6_told_147, dX6_told_150, tg_150_12, dX6_told_153, dX6_told_155, dX6_told_156, dX6_told_158, dX6_told_159, dX6_told_160, dX6_told_162, dX6_told_165, tg_165_m51, dX6_told_168, dX6_told_170, jX6_told_0_75, jX6_told_1_79, jX6_told_1_190, jX6_told_1_193, jX6_told_1_57, jX6_told_0_196, jX6_told_0_200, jX6_told_0_204, st_aaload, st_aload_n, st_bipush, st_getfield, st_goto, st_iconst, st_ifCond, st_if_icmp, st_iinc, st_iload, st_iload_n, st_invokestatic, st_invokevirtual, st_ior, st_ireturn, st_ishl, st_istore]
        exact hk
      | succ m ih =>
        intro v acc t σ1 F0 hv hf1 hW1 hr
        have g0 := ngtN (show v ≤ tdL g by omega) (by omega)
        refine yvc1_ok (uX6_told Γ) (S := [114]) 40 ?_
        simp only [yvc1, g0, yvc_s, s1i, s2i, s1l, s2l, sil, s1r, sir, siir, slir, srir, svr, sd1, sd2, lg, lput, ldel, isL_i, isL_r, isL_l, jmp, obj, obj1, fI, fR, arI, arL, arR, hput, f4_0, f4_1, f4_2, f4_3, lc_0, lc_1, rok_i, rok_b, rok_y, strF, fput_1, fput_2, csum_nil, csum_i, csum_l, csum_r, va_up_self, bx_uu, Int.reduceAdd, List.elem_nil, List.elem_cons, List.take_succ_cons, List.take_zero, List.drop_succ_cons, List.drop_zero, List.take_nil, List.drop_nil, List.reverse_cons, List.reverse_nil, List.nil_append, List.cons_append, List.append_nil, Option.toList_some, Option.toList_none, List.getElem?_cons_zero, List.getElem?_cons_succ, List.set_cons_zero, List.set_cons_succ, List.length_cons, List.length_nil, reduceIte, reduceCtorEq, and_true, true_and, and_self, or_true, true_or, false_and, and_false, not_true_eq_false, not_false_eq_true, true_implies, false_implies, implies_true, Nat.reduceAdd, Nat.reduceLT, Nat.reduceEqDiff, Nat.reduceLeDiff, Nat.reduceBEq, Nat.zero_add, Nat.lt_add_one, Bool.false_eq_true, Bool.or_false, Bool.or_true, Bool.or_self, Nat.zero_ne_one, Nat.one_ne_zero, ite_true, ite_false, ne_eq, Nat.reduceSub, Nat.succ_eq_add_one, Nat.zero_lt_succ, Nat.add_one_ne_zero, false_or, or_false, mX6_told_c, mX6_told_n, mX6_told_r, mX6_told_l, dX6_told_0, dX6_told_1, fl_6_10_6, dX6_told_4, dX6_told_5, dX6_told_8, tg_8_46, cnd1_eq, dX6_told_11, dX6_told_12, dX6_told_15, tg_15_39, dX6_told_18, dX6_told_19, dX6_told_22, tg_22_32, dX6_told_25, dX6_told_27, dX6_told_30, tg_30_24, dX6_told_33, dX6_told_35, ic_1, dX6_told_36, bc_8, dX6_told_38, dX6_told_41, tg_41_13, dX6_told_44, dX6_told_46, ic_0, dX6_told_47, ic_2, dX6_told_48, dX6_told_51, tg_51_5, cnd1_ne, dX6_told_54, ic_m1, dX6_told_55, dX6_told_56, dX6_told_57, fl_6_53_6, dX6_told_60, dX6_told_61, dX6_told_62, dX6_told_64, dX6_told_66, dX6_told_68, dX6_told_71, dX6_told_73, dX6_told_75, tg_75_6, dX6_told_78, dX6_told_80, dX6_told_81, dX6_told_83, dX6_told_84, tg_84_7, cnd2_ne, dX6_told_87, dX6_told_88, tg_88_4, dX6_told_91, dX6_told_92, dX6_told_94, dX6_told_96, tg_96_7, dX6_told_99, ic_4, dX6_told_100, tg_100_5, dX6_told_103, bc_20, dX6_told_105, dX6_told_107, dX6_told_108, dX6_told_110, dX6_told_112, dX6_told_114, dX6_told_116, dX6_told_118, tg_118_50, cnd2_gt, dX6_told_121, dX6_told_122, dX6_told_123, dX6_told_124, dX6_told_126, dX6_told_128, dX6_told_131, dX6_told_132, dX6_told_135, dX6_told_136, dX6_told_137, dX6_told_138, fl_6_16_6, dX6_told_141, dX6_told_142, dX6_told_143, dX6_told_145, dX6_told_147, dX6_told_150, tg_150_12, dX6_told_153, dX6_told_155, dX6_told_156, dX6_told_158, dX6_told_159, dX6_told_160, dX6_told_162, dX6_told_165, tg_165_m51, dX6_told_168, dX6_told_170, jX6_told_0_75, jX6_told_1_79, jX6_told_1_190, jX6_told_1_193, jX6_told_1_57, jX6_told_0_196, jX6_told_0_200, jX6_told_0_204, st_aaload, st_aload_n, st_bipush, st_getfield, st_goto, st_iconst, st_ifCond, st_if_icmp, st_iinc, st_iload, st_iload_n, st_invokestatic, st_invokevirtual, st_ior, st_ireturn, st_ishl, st_istore]
        refine ⟨lab, _, _, pp, dd, g, nI v, rfl, by omega, hdd, hW1, fun σ2 t' hf2 hW2 hC2 => ?_⟩
        simp only at hC2
        have hwf := supC_wf (bec_wf (t := t') hpre.1) g pp dd (nI v)
        simp only at hwf
        have hr2 := fun r hh => hr r ⟨t', hh⟩
        simp only at hr2
        obtain ⟨⟨z1, z2, -⟩, z5, ⟨sf2, z6, z7⟩, -, -, -, -, -, -, -, hS2⟩ := id hW2
        have hz7 := z7 q hq
        obtain ⟨hSq, -⟩ := hS2 q hq
        simp only [XE, shA] at z1 z2 z5 z6 hz7 hSq
        refine yvc_ok (uX6_told Γ) (S := [114]) 40 _ _ _ _ ?_
        simp only [z1, z2, z5, z6, hz7, d2, d3, yvc_s, s1i, s2i, s1l, s2l, sil, s1r, sir, siir, slir, srir, svr, sd1, sd2, lg, lput, ldel, isL_i, isL_r, isL_l, jmp, obj, obj1, fI, fR, arI, arL, arR, hput, f4_0, f4_1, f4_2, f4_3, lc_0, lc_1, rok_i, rok_b, rok_y, strF, fput_1, fput_2, csum_nil, csum_i, csum_l, csum_r, va_up_self, bx_uu, Int.reduceAdd, List.elem_nil, List.elem_cons, List.take_succ_cons, List.take_zero, List.drop_succ_cons, List.drop_zero, List.take_nil, List.drop_nil, List.reverse_cons, List.reverse_nil, List.nil_append, List.cons_append, List.append_nil, Option.toList_some, Option.toList_none, List.getElem?_cons_zero, List.getElem?_cons_succ, List.set_cons_zero, List.set_cons_succ, List.length_cons, List.length_nil, reduceIte, reduceCtorEq, and_true, true_and, and_self, or_true, true_or, false_and, and_false, not_true_eq_false, not_false_eq_true, true_implies, false_implies, implies_true, Nat.reduceAdd, Nat.reduceLT, Nat.reduceEqDiff, Nat.reduceLeDiff, Nat.reduceBEq, Nat.zero_add, Nat.lt_add_one, Bool.false_eq_true, Bool.or_false, Bool.or_true, Bool.or_self, Nat.zero_ne_one, Nat.one_ne_zero, ite_true, ite_false, ne_eq, Nat.reduceSub, Nat.succ_eq_add_one, Nat.zero_lt_succ, Nat.add_one_ne_zero, false_or, or_false, mX6_told_c, mX6_told_n, mX6_told_r, mX6_told_l, dX6_told_0, dX6_told_1, fl_6_10_6, dX6_told_4, dX6_told_5, dX6_told_8, tg_8_46, cnd1_eq, dX6_told_11, dX6_told_12, dX6_told_15, tg_15_39, dX6_told_18, dX6_told_19, dX6_told_22, tg_22_32, dX6_told_25, dX6_told_27, dX6_told_30, tg_30_24, dX6_told_33, dX6_told_35, ic_1, dX6_told_36, bc_8, dX6_told_38, dX6_told_41, tg_41_13, dX6_told_44, dX6_told_46, ic_0, dX6_told_47, ic_2, dX6_told_48, dX6_told_51, tg_51_5, cnd1_ne, dX6_told_54, ic_m1, dX6_told_55, dX6_told_56, dX6_told_57, fl_6_53_6, dX6_told_60, dX6_told_61, dX6_told_62, dX6_told_64, dX6_told_66, dX6_told_68, dX6_told_71, dX6_told_73, dX6_told_75, tg_75_6, dX6_told_78, dX6_told_80, dX6_told_81, dX6_told_83, dX6_told_84, tg_84_7, cnd2_ne, dX6_told_87, dX6_told_88, tg_88_4, dX6_told_91, dX6_told_92, dX6_told_94, dX6_told_96, tg_96_7, dX6_told_99, ic_4, dX6_told_100, tg_100_5, dX6_told_103, bc_20, dX6_told_105, dX6_told_107, dX6_told_108, dX6_told_110, dX6_told_112, dX6_told_114, dX6_told_116, dX6_told_118, tg_118_50, cnd2_gt, dX6_told_121, dX6_told_122, dX6_told_123, dX6_told_124, dX6_told_126, dX6_told_128, dX6_told_131, dX6_told_132, dX6_told_135, dX6_told_136, dX6_told_137, dX6_told_138, fl_6_16_6, dX6_told_141, dX6_told_142, dX6_told_143, dX6_told_145, dX6_told_147, dX6_told_150, tg_150_12, dX6_told_153, dX6_told_155, dX6_told_156, dX6_told_158, dX6_told_159, dX6_told_160, dX6_told_162, dX6_told_165, tg_165_m51, dX6_told_168, dX6_told_170, jX6_told_0_75, jX6_told_1_79, jX6_told_1_190, jX6_told_1_193, jX6_told_1_57, jX6_told_0_196, jX6_told_0_200, jX6_told_0_204, st_aaload, st_aload_n, st_bipush, st_getfield, st_goto, st_iconst, st_ifCond, st_if_icmp, st_iinc, st_iload, st_iload_n, st_invokestatic, st_invokevirtual, st_ior, st_ireturn, st_ishl, st_istore]
        refine ⟨S q, ss q, (t0, t1, t2, t3), _, pp, dd, I, N, rfl, ⟨by omega, hdd, by omega⟩, hwf, hSq, hC2, dis_lab hl1 lT (by omega), ?_⟩
        intro s'
        have hC3 := hC2.set s'
        have hW3 := hW2.sT (csetL (Γ := Γ) lT) ⟨_, hC3⟩
        have hf3 : frm (fL lab 2) σ (cset Γ (t0, t1, t2, t3) s' σ2) := (hf1.tr hf2).tr (csetL lT)
        have hi3 := fun acc' hh => ih (v + 1) acc' s' _ F0 (by omega) hf3 hW3 hh
        refine yvc_ok (uX6_told Γ) (S := [114]) 40 _ _ _ _ ?_
        simp only [bI_eq0, Bool.not_eq_false, nI_1, yvc_s, s1i, s2i, s1l, s2l, sil, s1r, sir, siir, slir, srir, svr, sd1, sd2, lg, lput, ldel, isL_i, isL_r, isL_l, jmp, obj, obj1, fI, fR, arI, arL, arR, hput, f4_0, f4_1, f4_2, f4_3, lc_0, lc_1, rok_i, rok_b, rok_y, strF, fput_1, fput_2, csum_nil, csum_i, csum_l, csum_r, va_up_self, bx_uu, Int.reduceAdd, List.elem_nil, List.elem_cons, List.take_succ_cons, List.take_zero, List.drop_succ_cons, List.drop_zero, List.take_nil, List.drop_nil, List.reverse_cons, List.reverse_nil, List.nil_append, List.cons_append, List.append_nil, Option.toList_some, Option.toList_none, List.getElem?_cons_zero, List.getElem?_cons_succ, List.set_cons_zero, List.set_cons_succ, List.length_cons, List.length_nil, reduceIte, reduceCtorEq, and_true, true_and, and_self, or_true, true_or, false_and, and_false, not_true_eq_false, not_false_eq_true, true_implies, false_implies, implies_true, Nat.reduceAdd, Nat.reduceLT, Nat.reduceEqDiff, Nat.reduceLeDiff, Nat.reduceBEq, Nat.zero_add, Nat.lt_add_one, Bool.false_eq_true, Bool.or_false, Bool.or_true, Bool.or_self, Nat.zero_ne_one, Nat.one_ne_zero, ite_true, ite_false, ne_eq, Nat.reduceSub, Nat.succ_eq_add_one, Nat.zero_lt_succ, Nat.add_one_ne_zero, false_or, or_false, mX6_told_c, mX6_told_n, mX6_told_r, mX6_told_l, dX6_told_0, dX6_told_1, fl_6_10_6, dX6_told_4, dX6_told_5, dX6_told_8, tg_8_46, cnd1_eq, dX6_told_11, dX6_told_12, dX6_told_15, tg_15_39, dX6_told_18, dX6_told_19, dX6_told_22, tg_22_32, dX6_told_25, dX6_told_27, dX6_told_30, tg_30_24, dX6_told_33, dX6_told_35, ic_1, dX6_told_36, bc_8, dX6_told_38, dX6_told_41, tg_41_13, dX6_told_44, dX6_told_46, ic_0, dX6_told_47, ic_2, dX6_told_48, dX6_told_51, tg_51_5, cnd1_ne, dX6_told_54, ic_m1, dX6_told_55, dX6_told_56, dX6_told_57, fl_6_53_6, dX6_told_60, dX6_told_61, dX6_told_62, dX6_told_64, dX6_told_66, dX6_told_68, dX6_told_71, dX6_told_73, dX6_told_75, tg_75_6, dX6_told_78, dX6_told_80, dX6_told_81, dX6_told_83, dX6_told_84, tg_84_7, cnd2_ne, dX6_told_87, dX6_told_88, tg_88_4, dX6_told_91, dX6_told_92, dX6_told_94, dX6_told_96, tg_96_7, dX6_told_99, ic_4, dX6_told_100, tg_100_5, dX6_told_103, bc_20, dX6_told_105, dX6_told_107, dX6_told_108, dX6_told_110, dX6_told_112, dX6_told_114, dX6_told_116, dX6_told_118, tg_118_50, cnd2_gt, dX6_told_121, dX6_told_122, dX6_told_123, dX6_told_124, dX6_told_126, dX6_told_128, dX6_told_131, dX6_told_132, dX6_told_135, dX6_told_136, dX6_told_137, dX6_told_138, fl_6_16_6, dX6_told_141, dX6_told_142, dX6_told_143, dX6_told_145, dX6_told_147, dX6_told_150, tg_150_12, dX6_told_153, dX6_told_155, dX6_told_156, dX6_told_158, dX6_told_159, dX6_told_160, dX6_told_162, dX6_told_165, tg_165_m51, dX6_told_168, dX6_told_170, jX6_told_0_75, jX6_told_1_79, jX6_told_1_190, jX6_told_1_193, jX6_told_1_57, jX6_told_0_196, jX6_told_0_200, jX6_told_0_204, st_aaload, st_aload_n, st_bipush, st_getfield, st_goto, st_iconst, st_ifCond, st_if_icmp, st_iinc, st_iload, st_iload_n, st_invokestatic, st_invokevirtual, st_ior, st_ireturn, st_ishl, st_istore]
        refine ⟨fun c4 => hi3 acc (fun r hh => hr2 r ?_), fun c4 => hi3 _ (fun r hh => hr2 r ?_)⟩
        · rw [if_neg (by rw [c4]; decide)]
          exact hh
        · rw [if_pos c4]
          exact hh
    have hF : tdF g ≤ tdL g + 1 := by unfold tdF tdL; split <;> split <;> decide
    have hl2 := loop (tdL g + 1 - tdF g) (tdF g) 0 t σ (tdF g) (by omega) frm.rf hW0 (fun _ z => z)
    refine yvc_ok (uX6_told Γ) (S := [114]) 60 _ _ _ _ ?_
    simp only [yvc_s, s1i, s2i, s1l, s2l, sil, s1r, sir, siir, slir, srir, svr, sd1, sd2, lg, lput, ldel, isL_i, isL_r, isL_l, jmp, obj, obj1, fI, fR, arI, arL, arR, hput, f4_0, f4_1, f4_2, f4_3, lc_0, lc_1, rok_i, rok_b, rok_y, strF, fput_1, fput_2, csum_nil, csum_i, csum_l, csum_r, va_up_self, bx_uu, Int.reduceAdd, List.elem_nil, List.elem_cons, List.take_succ_cons, List.take_zero, List.drop_succ_cons, List.drop_zero, List.take_nil, List.drop_nil, List.reverse_cons, List.reverse_nil, List.nil_append, List.cons_append, List.append_nil, Option.toList_some, Option.toList_none, List.getElem?_cons_zero, List.getElem?_cons_succ, List.set_cons_zero, List.set_cons_succ, List.length_cons, List.length_nil, reduceIte, reduceCtorEq, and_true, true_and, and_self, or_true, true_or, false_and, and_false, not_true_eq_false, not_false_eq_true, true_implies, false_implies, implies_true, Nat.reduceAdd, Nat.reduceLT, Nat.reduceEqDiff, Nat.reduceLeDiff, Nat.reduceBEq, Nat.zero_add, Nat.lt_add_one, Bool.false_eq_true, Bool.or_false, Bool.or_true, Bool.or_self, Nat.zero_ne_one, Nat.one_ne_zero, ite_true, ite_false, ne_eq, Nat.reduceSub, Nat.succ_eq_add_one, Nat.zero_lt_succ, Nat.add_one_ne_zero, false_or, or_false, mX6_told_c, mX6_told_n, mX6_told_r, mX6_told_l, dX6_told_0, dX6_told_1, fl_6_10_6, dX6_told_4, dX6_told_5, dX6_told_8, tg_8_46, cnd1_eq, dX6_told_11, dX6_told_12, dX6_told_15, tg_15_39, dX6_told_18, dX6_told_19, dX6_told_22, tg_22_32, dX6_told_25, dX6_told_27, dX6_told_30, tg_30_24, dX6_told_33, dX6_told_35, ic_1, dX6_told_36, bc_8, dX6_told_38, dX6_told_41, tg_41_13, dX6_told_44, dX6_told_46, ic_0, dX6_told_47, ic_2, dX6_told_48, dX6_told_51, tg_51_5, cnd1_ne, dX6_told_54, ic_m1, dX6_told_55, dX6_told_56, dX6_told_57, fl_6_53_6, dX6_told_60, dX6_told_61, dX6_told_62, dX6_told_64, dX6_told_66, dX6_told_68, dX6_told_71, dX6_told_73, dX6_told_75, tg_75_6, dX6_told_78, dX6_told_80, dX6_told_81, dX6_told_83, dX6_told_84, tg_84_7, cnd2_ne, dX6_told_87, dX6_told_88, tg_88_4, dX6_told_91, dX6_told_92, dX6_told_94, dX6_told_96, tg_96_7, dX6_told_99, ic_4, dX6_told_100, tg_100_5, dX6_told_103, bc_20, dX6_told_105, dX6_told_107, dX6_told_108, dX6_told_110, dX6_told_112, dX6_told_114, dX6_told_116, dX6_told_118, tg_118_50, cnd2_gt, dX6_told_121, dX6_told_122, dX6_told_123, dX6_told_124, dX6_told_126, dX6_told_128, dX6_told_131, dX6_told_132, dX6_told_135, dX6_told_136, dX6_told_137, dX6_told_138, fl_6_16_6, dX6_told_141, dX6_told_142, dX6_told_143, dX6_told_145, dX6_told_147, dX6_told_150, tg_150_12, dX6_told_153, dX6_told_155, dX6_told_156, dX6_told_158, dX6_told_159, dX6_told_160, dX6_told_162, dX6_told_165, tg_165_m51, dX6_told_168, dX6_told_170, jX6_told_0_75, jX6_told_1_79, jX6_told_1_190, jX6_told_1_193, jX6_told_1_57, jX6_told_0_196, jX6_told_0_200, jX6_told_0_204, st_aaload, st_aload_n, st_bipush, st_getfield, st_goto, st_iconst, st_ifCond, st_if_icmp, st_iinc, st_iload, st_iload_n, st_invokestatic, st_invokevirtual, st_ior, st_ireturn, st_ishl, st_istore]
    unfold tdF tdL at hl2
    refine ⟨fun c4 => ⟨fun c5 => ?_, fun c5 => ?_⟩, fun c4 => ⟨fun c5 => ?_, fun c5 => ?_⟩⟩
    · rw [if_neg c4, if_neg c5] at hl2
      exact hl2
    · rw [if_neg c4, if_pos (Classical.not_not.mp c5)] at hl2
      exact hl2
    · rw [if_pos (Classical.not_not.mp c4), if_neg c5] at hl2
      exact hl2
    · exact absurd ((Classical.not_not.mp c4).symm.trans (Classical.not_not.mp c5)) (by decide)
  refine ⟨Nat.le_of_ble_eq_true rfl, yvc_ok (uX6_told Γ) (S := [56]) 60 _ _ _ _ ?_⟩
  simp only [lv_args, Value.category, x1, x5, m1, e1, sp_X6_isSheet, sp_X6_isLane, sp_X6_isDoor, sp_X6_within, sp_X0_has, bI_eq0, Bool.not_eq_false, yvc_s, s1i, s2i, s1l, s2l, sil, s1r, sir, siir, slir, srir, svr, sd1, sd2, lg, lput, ldel, isL_i, isL_r, isL_l, jmp, obj, obj1, fI, fR, arI, arL, arR, hput, f4_0, f4_1, f4_2, f4_3, lc_0, lc_1, rok_i, rok_b, rok_y, strF, fput_1, fput_2, csum_nil, csum_i, csum_l, csum_r, va_up_self, bx_uu, Int.reduceAdd, List.elem_nil, List.elem_cons, List.take_succ_cons, List.take_zero, List.drop_succ_cons, List.drop_zero, List.take_nil, List.drop_nil, List.reverse_cons, List.reverse_nil, List.nil_append, List.cons_append, List.append_nil, Option.toList_some, Option.toList_none, List.getElem?_cons_zero, List.getElem?_cons_succ, List.set_cons_zero, List.set_cons_succ, List.length_cons, List.length_nil, reduceIte, reduceCtorEq, and_true, true_and, and_self, or_true, true_or, false_and, and_false, not_true_eq_false, not_false_eq_true, true_implies, false_implies, implies_true, Nat.reduceAdd, Nat.reduceLT, Nat.reduceEqDiff, Nat.reduceLeDiff, Nat.reduceBEq, Nat.zero_add, Nat.lt_add_one, Bool.false_eq_true, Bool.or_false, Bool.or_true, Bool.or_self, Nat.zero_ne_one, Nat.one_ne_zero, ite_true, ite_false, ne_eq, Nat.reduceSub, Nat.succ_eq_add_one, Nat.zero_lt_succ, Nat.add_one_ne_zero, false_or, or_false, mX6_told_c, mX6_told_n, mX6_told_r, mX6_told_l, dX6_told_0, dX6_told_1, fl_6_10_6, dX6_told_4, dX6_told_5, dX6_told_8, tg_8_46, cnd1_eq, dX6_told_11, dX6_told_12, dX6_told_15, tg_15_39, dX6_told_18, dX6_told_19, dX6_told_22, tg_22_32, dX6_told_25, dX6_told_27, dX6_told_30, tg_30_24, dX6_told_33, dX6_told_35, ic_1, dX6_told_36, bc_8, dX6_told_38, dX6_told_41, tg_41_13, dX6_told_44, dX6_told_46, ic_0, dX6_told_47, ic_2, dX6_told_48, dX6_told_51, tg_51_5, cnd1_ne, dX6_told_54, ic_m1, dX6_told_55, dX6_told_56, dX6_told_57, fl_6_53_6, dX6_told_60, dX6_told_61, dX6_told_62, dX6_told_64, dX6_told_66, dX6_told_68, dX6_told_71, dX6_told_73, dX6_told_75, tg_75_6, dX6_told_78, dX6_told_80, dX6_told_81, dX6_told_83, dX6_told_84, tg_84_7, cnd2_ne, dX6_told_87, dX6_told_88, tg_88_4, dX6_told_91, dX6_told_92, dX6_told_94, dX6_told_96, tg_96_7, dX6_told_99, ic_4, dX6_told_100, tg_100_5, dX6_told_103, bc_20, dX6_told_105, dX6_told_107, dX6_told_108, dX6_told_110, dX6_told_112, dX6_told_114, dX6_told_116, dX6_told_118, tg_118_50, cnd2_gt, dX6_told_121, dX6_told_122, dX6_told_123, dX6_told_124, dX6_told_126, dX6_told_128, dX6_told_131, dX6_told_132, dX6_told_135, dX6_told_136, dX6_told_137, dX6_told_138, fl_6_16_6, dX6_told_141, dX6_told_142, dX6_told_143, dX6_told_145, dX6_told_147, dX6_told_150, tg_150_12, dX6_told_153, dX6_told_155, dX6_told_156, dX6_told_158, dX6_told_159, dX6_told_160, dX6_told_162, dX6_told_165, tg_165_m51, dX6_told_168, dX6_told_170, jX6_told_0_75, jX6_told_1_79, jX6_told_1_190, jX6_told_1_193, jX6_told_1_57, jX6_told_0_196, jX6_told_0_200, jX6_told_0_204, st_aaload, st_aload_n, st_bipush, st_getfield, st_goto, st_iconst, st_ifCond, st_if_icmp, st_iinc, st_iload, st_iload_n, st_invokestatic, st_invokevirtual, st_ior, st_ireturn, st_ishl, st_istore]
  refine ⟨fun c1 => hno (fun z => by rw [z.1] at c1; cases c1), fun c1 => ⟨fun c2 => hno (fun z => by rw [z.2.1] at c2; cases c2), fun c2 => ⟨fun c3 => hno (fun z => by rw [z.2.2.1] at c3; cases c3), fun c3 => ⟨fun c4 => hno (fun z => by rw [z.2.2.2.1] at c4; cases c4), fun c4 => ⟨fun c5 => hno (fun z => by rw [z.2.2.2.2.1] at c5; cases c5), fun c5 => ⟨fun c6 => go ⟨c1, c2, c3, c4, c5, c6⟩, fun c6 => hno (fun z => c6 z.2.2.2.2.2)⟩⟩⟩⟩⟩⟩
