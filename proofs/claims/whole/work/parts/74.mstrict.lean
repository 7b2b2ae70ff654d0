/-! ===== YawnKeysModel: strict, yawn ===== -/
/-- another rule -/
theorem R.rl {ψ : XS} {s : MS} (h : R ψ s) (v : Int32) : R (setR ψ.1 v, ψ.2) (upd s.1 1 v, s.2) := by
  obtain ⟨p1, p2, p3, p4, pI, p5, p6, p7⟩ := id h.1
  exact h.upN (s' := (upd s.1 1 v, s.2)) (c := setR ψ.1 v) (pa := ψ.2.2.1) rfl rfl rfl rfl rfl rfl rfl rfl rfl rfl ⟨p1, rfl, p3, p4, pI, p5, p6, p7⟩
theorem setR_bec {t c : CS} {v : Int32} : setR (bec t c) v = bec t (setR c v) := rfl
theorem le0_0 : nI 0 ≤ 0 := by decide
def sp_X7_strict (Γ : Cx) : YSp := fun av σ K => ∃ (x : Int32), mo Γ [.int x] (x_strict x) av σ K
theorem rv_X7_strict {Γ : Cx} : Recv (sp_X7_strict Γ) 1 7 := by
  intro av σ K h
  obtain ⟨x, h⟩ := h
  obtain ⟨q, fs, h1, h2, h3⟩ := rv_mo h
  exact ⟨q, _, fs, h1, rfl, h2, h3⟩
theorem tg_32_58 : tgo 32 58 = some 90 := by decide
theorem tg_38_52 : tgo 38 52 = some 90 := by decide
theorem tg_64_10 : tgo 64 10 = some 74 := by decide
theorem tg_71_5 : tgo 71 5 = some 76 := by decide
theorem tg_87_m59 : tgo 87 (-59) = some 28 := by decide
def mX7_strict : Mt := (⟨4, 0, 0, 91⟩, RX7, cX7_strict, 4, some .int, (0, 0), none)
theorem mX7_strict_c : mX7_strict.2.2.1 = cX7_strict := rfl
theorem mX7_strict_n : mX7_strict.2.2.2.1 = 4 := rfl
theorem mX7_strict_r : mX7_strict.2.2.2.2.1 = some .int := rfl
theorem mX7_strict_l : mX7_strict.2.2.2.2.2.2 = none := rfl
def jX7_strict (Γ : Cx) : List ((Nat × Nat) × Nat × Bool × YSp) := [((1, 63), 3, true, sp_X7_lies Γ), ((0, 122), 1, false, sp_X7_aside Γ), ((0, 198), 2, false, sp_X7_goDays Γ)]
theorem jX7_strict_1_63 (Γ : Cx) : kT (jX7_strict Γ) 1 63 = some (3, true, sp_X7_lies Γ) := rfl
theorem jX7_strict_0_122 (Γ : Cx) : kT (jX7_strict Γ) 0 122 = some (1, false, sp_X7_aside Γ) := rfl
theorem jX7_strict_0_198 (Γ : Cx) : kT (jX7_strict Γ) 0 198 = some (2, false, sp_X7_goDays Γ) := rfl
theorem uX7_strict (Γ : Cx) : TbOK Γ mX7_strict (fT fX7, cT kX7, kT (jX7_strict Γ)) := tb_ok fX7_ok kX7_ok (all_cons ⟨call_S (n := 3) (ok_X7_lies Γ) (rv_X7_lies (Γ := Γ)) bw_797 bw_795 bw_796 bw_49 no_X7_lies ⟨⟨rfl, rfl⟩, ⟨by decide, by decide⟩, ⟨by decide, by decide⟩⟩, fun _ => mono_X7_lies (Γ := Γ)⟩ (all_cons ⟨call_V (n := 0) (T := TX7) (N := 26) (ok_X7_aside Γ) (rv_X7_aside (Γ := Γ)) rfl bw_835 bw_832 bw_834 bw_17 bw_49 no_X7_aside ⟨⟨rfl, rfl⟩, ⟨by decide, by decide⟩, ⟨by decide, by decide⟩⟩, fun z => by cases z⟩ (all_cons ⟨call_V (n := 1) (T := TX7) (N := 26) (ok_X7_goDays Γ) (rv_X7_goDays (Γ := Γ)) rfl bw_961 bw_958 bw_960 bw_34 bw_49 no_X7_goDays ⟨⟨rfl, rfl⟩, ⟨by decide, by decide⟩, ⟨by decide, by decide⟩⟩, fun z => by cases z⟩ (all_nil))))
set_option maxRecDepth 20000 in
theorem ok_X7_strict (Γ : Cx) : Ok Γ yX7_strict mX7_strict (sp_X7_strict Γ) := by
  refine ok_intro (by decide +kernel) rfl rfl ?_
  intro av σ K h
  obtain ⟨x, h⟩ := h
  obtain ⟨lab, ⟨a, ad⟩, ⟨sc, ar, it⟩, ψ, ψ', r, rfl, hM, hR, hrel, h⟩ := h
  try simp only at h
  obtain ⟨⟨m1, -⟩, e1, -⟩ := id hM
  obtain ⟨⟨p1, p2, p3, p4, pI, p5, p6, p7⟩, hImg, h16, hT, hSh⟩ := id hR
  have hP := pI.P5
  simp only at p1 p2 p3 p4 p5 p6 p7 hImg h16 hT hSh
  simp only [ME] at m1 e1
  obtain ⟨hψ, hrel⟩ := hrel
  rw [hψ] at h
  have hM0 := hM.putO (upd sc 1 20)
  have hR0 := hR.rl 20
  simp only at hR0
  refine ⟨Nat.le_of_ble_eq_true rfl, yvc_ok (uX7_strict Γ) (S := [28]) 60 _ _ _ _ ?_⟩
  simp only [lv_args, Value.category, m1, e1, sp_X7_lies, inL_130, bI_eq0, Bool.not_eq_false, yvc_s, s1i, s2i, s1l, s2l, sil, s1r, sir, siir, slir, srir, svr, sd1, sd2, lg, lput, ldel, isL_i, isL_r, isL_l, jmp, obj, obj1, fI, fR, arI, arL, arR, hput, f4_0, f4_1, f4_2, f4_3, lc_0, lc_1, rok_i, rok_b, rok_y, strF, fput_1, fput_2, csum_nil, csum_i, csum_l, csum_r, va_up_self, bx_uu, Int.reduceAdd, List.elem_nil, List.elem_cons, List.take_succ_cons, List.take_zero, List.drop_succ_cons, List.drop_zero, List.take_nil, List.drop_nil, List.reverse_cons, List.reverse_nil, List.nil_append, List.cons_append, List.append_nil, Option.toList_some, Option.toList_none, List.getElem?_cons_zero, List.getElem?_cons_succ, List.set_cons_zero, List.set_cons_succ, List.length_cons, List.length_nil, reduceIte, reduceCtorEq, and_true, true_and, and_self, or_true, true_or, false_and, and_false, not_true_eq_false, not_false_eq_true, true_implies, false_implies, implies_true, Nat.reduceAdd, Nat.reduceLT, Nat.reduceEqDiff, Nat.reduceLeDiff, Nat.reduceBEq, Nat.zero_add, Nat.lt_add_one, Bool.false_eq_true, Bool.or_false, Bool.or_true, Bool.or_self, Nat.zero_ne_one, Nat.one_ne_zero, ite_true, ite_false, ne_eq, Nat.reduceSub, Nat.succ_eq_add_one, Nat.zero_lt_succ, Nat.add_one_ne_zero, false_or, or_false, mX7_strict_c, mX7_strict_n, mX7_strict_r, mX7_strict_l, dX7_strict_0, dX7_strict_1, dX7_strict_2, dX7_strict_3, cl_7_201, dX7_strict_6, dX7_strict_9, tg_9_5, cnd1_ne, dX7_strict_12, ic_m1, dX7_strict_13, dX7_strict_14, dX7_strict_15, fl_7_7_7, dX7_strict_18, dX7_strict_19, bc_m4, dX7_strict_21, dX7_strict_22, dX7_strict_23, bc_20, dX7_strict_25, dX7_strict_28, dX7_strict_29, dX7_strict_32, tg_32_58, cnd1_le, dX7_strict_35, dX7_strict_36, dX7_strict_38, tg_38_52, cnd2_ne, dX7_strict_41, dX7_strict_42, dX7_strict_45, dX7_strict_46, dX7_strict_47, dX7_strict_50, dX7_strict_51, fl_7_20_7, dX7_strict_54, bc_25, dX7_strict_56, dX7_strict_57, dX7_strict_58, fl_7_17_7, dX7_strict_61, dX7_strict_63, dX7_strict_64, tg_64_10, dX7_strict_67, dX7_strict_68, dX7_strict_71, tg_71_5, dX7_strict_74, dX7_strict_76, dX7_strict_77, dX7_strict_78, dX7_strict_79, dX7_strict_82, ic_1, dX7_strict_83, dX7_strict_84, dX7_strict_87, tg_87_m59, dX7_strict_90, dX7_strict_91, dX7_strict_92, dX7_strict_95, dX7_strict_96, jX7_strict_1_63, jX7_strict_0_122, jX7_strict_0_198, st_aload_n, st_bipush, st_dup, st_getfield, st_goto, st_i2l, st_iaload, st_iconst, st_ifCond, st_if_icmp, st_iload_n, st_invokestatic, st_invokevirtual, st_ireturn, st_istore_n, st_isub, st_lconst, st_ldc2_w, st_putfield]
  refine ⟨fun d => ?_, fun d => ?_⟩
  · obtain ⟨-, hT⟩ := hrel.resolve_left (fun w => w.1 d)
    obtain ⟨N, hN0, hN, rfl⟩ := in1_n (B := 30) (by decide) d
    rw [nI_clamp (show N < 2 ^ 31 by omega)] at hT
    -- the end
    have fin : ∀ (v : Int32) (s1 : MS) (σ1 : Hp), frm (fL lab 30) σ σ1 → Mod Γ lab (a, ad) s1 σ1 → R (setR ψ.1 v, ψ.2) s1 → YG Γ mX7_strict K 90 [(0, .ref a), (1, .int (nI N)), (2, .int (sc 1)), (3, .int r)] [] σ1 := by
      intro v s1 σ1 hf1 hM1 hR1
      have hR2 := hR1.rl (sc 1)
      obtain ⟨sc1, ar1, it1⟩ := s1
      have hk := h _ _ (by
        have e : ((setR (setR ψ.1 v, ψ.2).1 (sc 1), (setR ψ.1 v, ψ.2).2) : XS) = ψ := by rw [p2]; rfl
        rw [e] at hR2
        exact hR2) (hf1.tr hM1.frO) (hM1.putO (upd sc1 1 (sc 1)))
      obtain ⟨⟨m1, -⟩, e1, -⟩ := id hM1
      simp only [ME, hput] at m1 e1 hk
      refine yvc_ok (uX7_strict Γ) (S := []) 60 _ _ _ _ ?_
      simp only [m1, e1, yvc_s, s1i, s2i, s1l, s2l, sil, s1r, sir, siir, slir, srir, svr, sd1, sd2, lg, lput, ldel, isL_i, isL_r, isL_l, jmp, obj, obj1, fI, fR, arI, arL, arR, hput, f4_0, f4_1, f4_2, f4_3, lc_0, lc_1, rok_i, rok_b, rok_y, strF, fput_1, fput_2, csum_nil, csum_i, csum_l, csum_r, va_up_self, bx_uu, Int.reduceAdd, List.elem_nil, List.elem_cons, List.take_succ_cons, List.take_zero, List.drop_succ_cons, List.drop_zero, List.take_nil, List.drop_nil, List.reverse_cons, List.reverse_nil, List.nil_append, List.cons_append, List.append_nil, Option.toList_some, Option.toList_none, List.getElem?_cons_zero, List.getElem?_cons_succ, List.set_cons_zero, List.set_cons_succ, List.length_cons, List.length_nil, reduceIte, reduceCtorEq, and_true, true_and, and_self, or_true, true_or, false_and, and_false, not_true_eq_false, not_false_eq_true, true_implies, false_implies, implies_true, Nat.reduceAdd, Nat.reduceLT, Nat.reduceEqDiff, Nat.reduceLeDiff, Nat.reduceBEq, Nat.zero_add, Nat.lt_add_one, Bool.false_eq_true, Bool.or_false, Bool.or_true, Bool.or_self, Nat.zero_ne_one, Nat.one_ne_zero, ite_true, ite_false, ne_eq, Nat.reduceSub, Nat.succ_eq_add_one, Nat.zero_lt_succ, Nat.add_one_ne_zero, false_or, or_false, mX7_strict_c, mX7_strict_n, mX7_strict_r, mX7_strict_l, dX7_strict_0, dX7_strict_1, dX7_strict_2, dX7_strict_3, cl_7_201, dX7_strict_6, dX7_strict_9, tg_9_5, cnd1_ne, dX7_strict_12, ic_m1, dX7_strict_13, dX7_strict_14, dX7_strict_15, fl_7_7_7, dX7_strict_18, dX7_strict_19, bc_m4, dX7_strict_21, dX7_strict_22, dX7_strict_23, bc_20, dX7_strict_25, dX7_strict_28, dX7_strict_29, dX7_strict_32, tg_32_58, cnd1_le, dX7_strict_35, dX7_strict_36, dX7_strict_38, tg_38_52, cnd2_ne, dX7_strict_41, dX7_strict_42, dX7_strict_45, dX7_strict_46, dX7_strict_47, dX7_strict_50, dX7_strict_51, fl_7_20_7, dX7_strict_54, bc_25, dX7_strict_56, dX7_strict_57, dX7_strict_58, fl_7_17_7, dX7_strict_61, dX7_strict_63, dX7_strict_64, tg_64_10, dX7_strict_67, dX7_strict_68, dX7_strict_71, tg_71_5, dX7_strict_74, dX7_strict_76, dX7_strict_77, dX7_strict_78, dX7_strict_79, dX7_strict_82, ic_1, dX7_strict_83, dX7_strict_84, dX7_strict_87, tg_87_m59, dX7_strict_90, dX7_strict_91, dX7_strict_92, dX7_strict_95, dX7_strict_96, jX7_strict_1_63, jX7_strict_0_122, jX7_strict_0_198, st_aload_n, st_bipush, st_dup, st_getfield, st_goto, st_i2l, st_iaload, st_iconst, st_ifCond, st_if_icmp, st_iload_n, st_invokestatic, st_invokevirtual, st_ireturn, st_istore_n, st_isub, st_lconst, st_ldc2_w, st_putfield]
      exact hk
    have loop : ∀ j : Nat, j ≤ 20 → StR ψ N j r → ∀ (s1 : MS) (σ1 : Hp), frm (fL lab 30) σ σ1 → Mod Γ lab (a, ad) s1 σ1 → R (setR ψ.1 (nI j), ψ.2) s1 → YG Γ mX7_strict K 28 [(0, .ref a), (1, .int (nI N)), (2, .int (sc 1)), (3, .int (-4))] [] σ1 := by
      intro j
      induction j with
      | zero =>
        intro _ hT s1 σ1 hf1 hM1 hR1
        have hk := fin _ s1 σ1 hf1 hM1 hR1
        rw [show r = -4 from hT] at hk
        have e2 : s1.1 1 = nI 0 := hR1.1.2.1
        obtain ⟨sc1, ar1, it1⟩ := s1
        simp only at e2
        obtain ⟨⟨m1, -⟩, e1, -⟩ := id hM1
        simp only [ME] at m1 e1
        rw [e2] at e1
        refine yvc1_ok (uX7_strict Γ) (S := [28, 90]) 60 ?_
        simp only [yvc1, m1, e1, le0_0, yvc_s, s1i, s2i, s1l, s2l, sil, s1r, sir, siir, slir, srir, svr, sd1, sd2, lg, lput, ldel, isL_i, isL_r, isL_l, jmp, obj, obj1, fI, fR, arI, arL, arR, hput, f4_0, f4_1, f4_2, f4_3, lc_0, lc_1, rok_i, rok_b, rok_y, strF, fput_1, fput_2, csum_nil, csum_i, csum_l, csum_r, va_up_self, bx_uu, Int.reduceAdd, List.elem_nil, List.elem_cons, List.take_succ_cons, List.take_zero, List.drop_succ_cons, List.drop_zero, List.take_nil, List.drop_nil, List.reverse_cons, List.reverse_nil, List.nil_append, List.cons_append, List.append_nil, Option.toList_some, Option.toList_none, List.getElem?_cons_zero, List.getElem?_cons_succ, List.set_cons_zero, List.set_cons_succ, List.length_cons, List.length_nil, reduceIte, reduceCtorEq, and_true, true_and, and_self, or_true, true_or, false_and, and_false, not_true_eq_false, not_false_eq_true, true_implies, false_implies, implies_true, Nat.reduceAdd, Nat.reduceLT, Nat.reduceEqDiff, Nat.reduceLeDiff, Nat.reduceBEq, Nat.zero_add, Nat.lt_add_one, Bool.false_eq_true, Bool.or_false, Bool.or_true, Bool.or_self, Nat.zero_ne_one, Nat.one_ne_zero, ite_true, ite_false, ne_eq, Nat.reduceSub, Nat.succ_eq_add_one, Nat.zero_lt_succ, Nat.add_one_ne_zero, false_or, or_false, mX7_strict_c, mX7_strict_n, mX7_strict_r, mX7_strict_l, dX7_strict_0, dX7_strict_1, dX7_strict_2, dX7_strict_3, cl_7_201, dX7_strict_6, dX7_strict_9, tg_9_5, cnd1_ne, dX7_strict_12, ic_m1, dX7_strict_13, dX7_strict_14, dX7_strict_15, fl_7_7_7, dX7_strict_18, dX7_strict_19, bc_m4, dX7_strict_21, dX7_strict_22, dX7_strict_23, bc_20, dX7_strict_25, dX7_strict_28, dX7_strict_29, dX7_strict_32, tg_32_58, cnd1_le, dX7_strict_35, dX7_strict_36, dX7_strict_38, tg_38_52, cnd2_ne, dX7_strict_41, dX7_strict_42, dX7_strict_45, dX7_strict_46, dX7_strict_47, dX7_strict_50, dX7_strict_51, fl_7_20_7, dX7_strict_54, bc_25, dX7_strict_56, dX7_strict_57, dX7_strict_58, fl_7_17_7, dX7_strict_61, dX7_strict_63, dX7_strict_64, tg_64_10, dX7_strict_67, dX7_strict_68, dX7_strict_71, tg_71_5, dX7_strict_74, dX7_strict_76, dX7_strict_77, dX7_strict_78, dX7_strict_79, dX7_strict_82, ic_1, dX7_strict_83, dX7_strict_84, dX7_strict_87, tg_87_m59, dX7_strict_90, dX7_strict_91, dX7_strict_92, dX7_strict_95, dX7_strict_96, jX7_strict_1_63, jX7_strict_0_122, jX7_strict_0_198, st_aload_n, st_bipush, st_dup, st_getfield, st_goto, st_i2l, st_iaload, st_iconst, st_ifCond, st_if_icmp, st_iload_n, st_invokestatic, st_invokevirtual, st_ireturn, st_istore_n, st_isub, st_lconst, st_ldc2_w, st_putfield]
        exact hk
      | succ j ih =>
        intro hj hT s1 σ1 hf1 hM1 hR1
        obtain ⟨t, hT⟩ := hT
        have e2 : s1.1 1 = nI (j + 1) := hR1.1.2.1
        have c1 : ¬ nI (j + 1) ≤ 0 := nI_nle (by omega) (by omega)
        have hL : Like (setR (bec t ψ.1) (nI (j + 1))) (setR ψ.1 (nI (j + 1))) := like_bec (t := t) (c := setR ψ.1 (nI (j + 1))) hP
        have hS2 := hR1.sd hL
        have hCI : CI (setR (bec t ψ.1) (nI (j + 1))) := hL.ci hR1.1.2.2.2.2.1
        have hR2 := hR1.asd
        obtain ⟨sc1, ar1, it1⟩ := s1
        simp only at e2
        obtain ⟨⟨m1, -⟩, e1, -⟩ := id hM1
        simp only [ME] at m1 e1
        rw [e2] at e1
        refine yvc1_ok (uX7_strict Γ) (S := [28, 90]) 60 ?_
        simp only [yvc1, m1, e1, c1, yvc_s, s1i, s2i, s1l, s2l, sil, s1r, sir, siir, slir, srir, svr, sd1, sd2, lg, lput, ldel, isL_i, isL_r, isL_l, jmp, obj, obj1, fI, fR, arI, arL, arR, hput, f4_0, f4_1, f4_2, f4_3, lc_0, lc_1, rok_i, rok_b, rok_y, strF, fput_1, fput_2, csum_nil, csum_i, csum_l, csum_r, va_up_self, bx_uu, Int.reduceAdd, List.elem_nil, List.elem_cons, List.take_succ_cons, List.take_zero, List.drop_succ_cons, List.drop_zero, List.take_nil, List.drop_nil, List.reverse_cons, List.reverse_nil, List.nil_append, List.cons_append, List.append_nil, Option.toList_some, Option.toList_none, List.getElem?_cons_zero, List.getElem?_cons_succ, List.set_cons_zero, List.set_cons_succ, List.length_cons, List.length_nil, reduceIte, reduceCtorEq, and_true, true_and, and_self, or_true, true_or, false_and, and_false, not_true_eq_false, not_false_eq_true, true_implies, false_implies, implies_true, Nat.reduceAdd, Nat.reduceLT, Nat.reduceEqDiff, Nat.reduceLeDiff, Nat.reduceBEq, Nat.zero_add, Nat.lt_add_one, Bool.false_eq_true, Bool.or_false, Bool.or_true, Bool.or_self, Nat.zero_ne_one, Nat.one_ne_zero, ite_true, ite_false, ne_eq, Nat.reduceSub, Nat.succ_eq_add_one, Nat.zero_lt_succ, Nat.add_one_ne_zero, false_or, or_false, mX7_strict_c, mX7_strict_n, mX7_strict_r, mX7_strict_l, dX7_strict_0, dX7_strict_1, dX7_strict_2, dX7_strict_3, cl_7_201, dX7_strict_6, dX7_strict_9, tg_9_5, cnd1_ne, dX7_strict_12, ic_m1, dX7_strict_13, dX7_strict_14, dX7_strict_15, fl_7_7_7, dX7_strict_18, dX7_strict_19, bc_m4, dX7_strict_21, dX7_strict_22, dX7_strict_23, bc_20, dX7_strict_25, dX7_strict_28, dX7_strict_29, dX7_strict_32, tg_32_58, cnd1_le, dX7_strict_35, dX7_strict_36, dX7_strict_38, tg_38_52, cnd2_ne, dX7_strict_41, dX7_strict_42, dX7_strict_45, dX7_strict_46, dX7_strict_47, dX7_strict_50, dX7_strict_51, fl_7_20_7, dX7_strict_54, bc_25, dX7_strict_56, dX7_strict_57, dX7_strict_58, fl_7_17_7, dX7_strict_61, dX7_strict_63, dX7_strict_64, tg_64_10, dX7_strict_67, dX7_strict_68, dX7_strict_71, tg_71_5, dX7_strict_74, dX7_strict_76, dX7_strict_77, dX7_strict_78, dX7_strict_79, dX7_strict_82, ic_1, dX7_strict_83, dX7_strict_84, dX7_strict_87, tg_87_m59, dX7_strict_90, dX7_strict_91, dX7_strict_92, dX7_strict_95, dX7_strict_96, jX7_strict_1_63, jX7_strict_0_122, jX7_strict_0_198, st_aload_n, st_bipush, st_dup, st_getfield, st_goto, st_i2l, st_iaload, st_iconst, st_ifCond, st_if_icmp, st_iload_n, st_invokestatic, st_invokevirtual, st_ireturn, st_istore_n, st_isub, st_lconst, st_ldc2_w, st_putfield]
        refine ⟨lab, (a, ad), _, rfl, hM1, trivial, ?_⟩
        rintro σ2 s2 r2 ⟨rfl, rfl⟩ hf2 hM2
        refine yvc_ok (uX7_strict Γ) (S := []) 60 _ _ _ _ ?_
        simp only [yvc_s, s1i, s2i, s1l, s2l, sil, s1r, sir, siir, slir, srir, svr, sd1, sd2, lg, lput, ldel, isL_i, isL_r, isL_l, jmp, obj, obj1, fI, fR, arI, arL, arR, hput, f4_0, f4_1, f4_2, f4_3, lc_0, lc_1, rok_i, rok_b, rok_y, strF, fput_1, fput_2, csum_nil, csum_i, csum_l, csum_r, va_up_self, bx_uu, Int.reduceAdd, List.elem_nil, List.elem_cons, List.take_succ_cons, List.take_zero, List.drop_succ_cons, List.drop_zero, List.take_nil, List.drop_nil, List.reverse_cons, List.reverse_nil, List.nil_append, List.cons_append, List.append_nil, Option.toList_some, Option.toList_none, List.getElem?_cons_zero, List.getElem?_cons_succ, List.set_cons_zero, List.set_cons_succ, List.length_cons, List.length_nil, reduceIte, reduceCtorEq, and_true, true_and, and_self, or_true, true_or, false_and, and_false, not_true_eq_false, not_false_eq_true, true_implies, false_implies, implies_true, Nat.reduceAdd, Nat.reduceLT, Nat.reduceEqDiff, Nat.reduceLeDiff, Nat.reduceBEq, Nat.zero_add, Nat.lt_add_one, Bool.false_eq_true, Bool.or_false, Bool.or_true, Bool.or_self, Nat.zero_ne_one, Nat.one_ne_zero, ite_true, ite_false, ne_eq, Nat.reduceSub, Nat.succ_eq_add_one, Nat.zero_lt_succ, Nat.add_one_ne_zero, false_or, or_false, mX7_strict_c, mX7_strict_n, mX7_strict_r, mX7_strict_l, dX7_strict_0, dX7_strict_1, dX7_strict_2, dX7_strict_3, cl_7_201, dX7_strict_6, dX7_strict_9, tg_9_5, cnd1_ne, dX7_strict_12, ic_m1, dX7_strict_13, dX7_strict_14, dX7_strict_15, fl_7_7_7, dX7_strict_18, dX7_strict_19, bc_m4, dX7_strict_21, dX7_strict_22, dX7_strict_23, bc_20, dX7_strict_25, dX7_strict_28, dX7_strict_29, dX7_strict_32, tg_32_58, cnd1_le, dX7_strict_35, dX7_strict_36, dX7_strict_38, tg_38_52, cnd2_ne, dX7_strict_41, dX7_strict_42, dX7_strict_45, dX7_strict_46, dX7_strict_47, dX7_strict_50, dX7_strict_51, fl_7_20_7, dX7_strict_54, bc_25, dX7_strict_56, dX7_strict_57, dX7_strict_58, fl_7_17_7, dX7_strict_61, dX7_strict_63, dX7_strict_64, tg_64_10, dX7_strict_67, dX7_strict_68, dX7_strict_71, tg_71_5, dX7_strict_74, dX7_strict_76, dX7_strict_77, dX7_strict_78, dX7_strict_79, dX7_strict_82, ic_1, dX7_strict_83, dX7_strict_84, dX7_strict_87, tg_87_m59, dX7_strict_90, dX7_strict_91, dX7_strict_92, dX7_strict_95, dX7_strict_96, jX7_strict_1_63, jX7_strict_0_122, jX7_strict_0_198, st_aload_n, st_bipush, st_dup, st_getfield, st_goto, st_i2l, st_iaload, st_iconst, st_ifCond, st_if_icmp, st_iload_n, st_invokestatic, st_invokevirtual, st_ireturn, st_istore_n, st_isub, st_lconst, st_ldc2_w, st_putfield]
        refine ⟨N, _, lab, (a, ad), _, rfl, hM2, ⟨hS2, hCI.ds, by omega⟩, ?_⟩
        rintro σ3 ⟨sc3, ar3, it3⟩ r3 ⟨hF3, hS3, rfl⟩ hf3 hM3
        have hR3 := hR2.fr hF3
        have f2 : sc3 1 = nI (j + 1) := hR3.1.2.1
        have f25 : ar3 3 25 = ψ.1.2.2.2.2.1 := hR3.1.2.2.2.2.2.2.1.2.2.2.1
        generalize daysC (setR (bec t ψ.1) (nI (j + 1))) N = z at hS3 hT
        have f4 : ar3 4 25 = z.2.2.2.2.1 := hS3.2.2.2.2.1
        have hM4 := hM3.putO (upd sc3 1 (nI j))
        have hR4 := hR3.rl (nI j)
        have hf4 := ((hf1.tr hf2).tr hf3).tr (hM3.frO (e := ME ad (upd sc3 1 (nI j))))
        obtain ⟨⟨m1, -⟩, e1, -⟩ := id hM3
        obtain ⟨m3, e3⟩ := hM3.arr 3 rfl
        obtain ⟨m4, e4⟩ := hM3.arr 4 rfl
        simp only [ME, iA, lenM] at m1 e1 m3 e3 m4 e4
        rw [f2] at e1
        refine yvc_ok (uX7_strict Γ) (S := [28, 90]) 60 _ _ _ _ ?_
        simp only [m1, e1, m3, e3, m4, e4, in25_27, n25, f25, f4, nI_pred, yvc_s, s1i, s2i, s1l, s2l, sil, s1r, sir, siir, slir, srir, svr, sd1, sd2, lg, lput, ldel, isL_i, isL_r, isL_l, jmp, obj, obj1, fI, fR, arI, arL, arR, hput, f4_0, f4_1, f4_2, f4_3, lc_0, lc_1, rok_i, rok_b, rok_y, strF, fput_1, fput_2, csum_nil, csum_i, csum_l, csum_r, va_up_self, bx_uu, Int.reduceAdd, List.elem_nil, List.elem_cons, List.take_succ_cons, List.take_zero, List.drop_succ_cons, List.drop_zero, List.take_nil, List.drop_nil, List.reverse_cons, List.reverse_nil, List.nil_append, List.cons_append, List.append_nil, Option.toList_some, Option.toList_none, List.getElem?_cons_zero, List.getElem?_cons_succ, List.set_cons_zero, List.set_cons_succ, List.length_cons, List.length_nil, reduceIte, reduceCtorEq, and_true, true_and, and_self, or_true, true_or, false_and, and_false, not_true_eq_false, not_false_eq_true, true_implies, false_implies, implies_true, Nat.reduceAdd, Nat.reduceLT, Nat.reduceEqDiff, Nat.reduceLeDiff, Nat.reduceBEq, Nat.zero_add, Nat.lt_add_one, Bool.false_eq_true, Bool.or_false, Bool.or_true, Bool.or_self, Nat.zero_ne_one, Nat.one_ne_zero, ite_true, ite_false, ne_eq, Nat.reduceSub, Nat.succ_eq_add_one, Nat.zero_lt_succ, Nat.add_one_ne_zero, false_or, or_false, mX7_strict_c, mX7_strict_n, mX7_strict_r, mX7_strict_l, dX7_strict_0, dX7_strict_1, dX7_strict_2, dX7_strict_3, cl_7_201, dX7_strict_6, dX7_strict_9, tg_9_5, cnd1_ne, dX7_strict_12, ic_m1, dX7_strict_13, dX7_strict_14, dX7_strict_15, fl_7_7_7, dX7_strict_18, dX7_strict_19, bc_m4, dX7_strict_21, dX7_strict_22, dX7_strict_23, bc_20, dX7_strict_25, dX7_strict_28, dX7_strict_29, dX7_strict_32, tg_32_58, cnd1_le, dX7_strict_35, dX7_strict_36, dX7_strict_38, tg_38_52, cnd2_ne, dX7_strict_41, dX7_strict_42, dX7_strict_45, dX7_strict_46, dX7_strict_47, dX7_strict_50, dX7_strict_51, fl_7_20_7, dX7_strict_54, bc_25, dX7_strict_56, dX7_strict_57, dX7_strict_58, fl_7_17_7, dX7_strict_61, dX7_strict_63, dX7_strict_64, tg_64_10, dX7_strict_67, dX7_strict_68, dX7_strict_71, tg_71_5, dX7_strict_74, dX7_strict_76, dX7_strict_77, dX7_strict_78, dX7_strict_79, dX7_strict_82, ic_1, dX7_strict_83, dX7_strict_84, dX7_strict_87, tg_87_m59, dX7_strict_90, dX7_strict_91, dX7_strict_92, dX7_strict_95, dX7_strict_96, jX7_strict_1_63, jX7_strict_0_122, jX7_strict_0_198, st_aload_n, st_bipush, st_dup, st_getfield, st_goto, st_i2l, st_iaload, st_iconst, st_ifCond, st_if_icmp, st_iload_n, st_invokestatic, st_invokevirtual, st_ireturn, st_istore_n, st_isub, st_lconst, st_ldc2_w, st_putfield]
        refine ⟨fun c => ?_, fun c => ?_⟩
        · rcases hT with w | w
          · exact absurd w.1 c
          · have hy := ih (by omega) w.2 _ _ hf4 hM4 hR4
            simp only [ME, hput] at hy
            exact hy
        · rcases hT with w | w
          · have hy := fin (nI j) _ _ hf4 hM4 hR4
            rw [w.2] at hy
            obtain ⟨⟨m1, -⟩, e1, -⟩ := id hM4
            simp only [ME, hput, pk_us] at m1 e1 hy
            refine yvc1_ok (uX7_strict Γ) (S := [28, 90]) 60 ?_
            simp only [yvc1, m1, e1, nI_m4 (show j + 1 < 2 ^ 31 by omega), yvc_s, s1i, s2i, s1l, s2l, sil, s1r, sir, siir, slir, srir, svr, sd1, sd2, lg, lput, ldel, isL_i, isL_r, isL_l, jmp, obj, obj1, fI, fR, arI, arL, arR, hput, f4_0, f4_1, f4_2, f4_3, lc_0, lc_1, rok_i, rok_b, rok_y, strF, fput_1, fput_2, csum_nil, csum_i, csum_l, csum_r, va_up_self, bx_uu, Int.reduceAdd, List.elem_nil, List.elem_cons, List.take_succ_cons, List.take_zero, List.drop_succ_cons, List.drop_zero, List.take_nil, List.drop_nil, List.reverse_cons, List.reverse_nil, List.nil_append, List.cons_append, List.append_nil, Option.toList_some, Option.toList_none, List.getElem?_cons_zero, List.getElem?_cons_succ, List.set_cons_zero, List.set_cons_succ, List.length_cons, List.length_nil, reduceIte, reduceCtorEq, and_true, true_and, and_self, or_true, true_or, false_and, and_false, not_true_eq_false, not_false_eq_true, true_implies, false_implies, implies_true, Nat.reduceAdd, Nat.reduceLT, Nat.reduceEqDiff, Nat.reduceLeDiff, Nat.reduceBEq, Nat.zero_add, Nat.lt_add_one, Bool.false_eq_true, Bool.or_false, Bool.or_true, Bool.or_self, Nat.zero_ne_one, Nat.one_ne_zero, ite_true, ite_false, ne_eq, Nat.reduceSub, Nat.succ_eq_add_one, Nat.zero_lt_succ, Nat.add_one_ne_zero, false_or, or_false, mX7_strict_c, mX7_strict_n, mX7_strict_r, mX7_strict_l, dX7_strict_0, dX7_strict_1, dX7_strict_2, dX7_strict_3, cl_7_201, dX7_strict_6, dX7_strict_9, tg_9_5, cnd1_ne, dX7_strict_12, ic_m1, dX7_strict_13, dX7_strict_14, dX7_strict_15, fl_7_7_7, dX7_strict_18, dX7_strict_19, bc_m4, dX7_strict_21, dX7_strict_22, dX7_strict_23, bc_20, dX7_strict_25, dX7_strict_28, dX7_strict_29, dX7_strict_32, tg_32_58, cnd1_le, dX7_strict_35, dX7_strict_36, dX7_strict_38, tg_38_52, cnd2_ne, dX7_strict_41, dX7_strict_42, dX7_strict_45, dX7_strict_46, dX7_strict_47, dX7_strict_50, dX7_strict_51, fl_7_20_7, dX7_strict_54, bc_25, dX7_strict_56, dX7_strict_57, dX7_strict_58, fl_7_17_7, dX7_strict_61, dX7_strict_63, dX7_strict_64, tg_64_10, dX7_strict_67, dX7_strict_68, dX7_strict_71, tg_71_5, dX7_strict_74, dX7_strict_76, dX7_strict_77, dX7_strict_78, dX7_strict_79, dX7_strict_82, ic_1, dX7_strict_83, dX7_strict_84, dX7_strict_87, tg_87_m59, dX7_strict_90, dX7_strict_91, dX7_strict_92, dX7_strict_95, dX7_strict_96, jX7_strict_1_63, jX7_strict_0_122, jX7_strict_0_198, st_aload_n, st_bipush, st_dup, st_getfield, st_goto, st_i2l, st_iaload, st_iconst, st_ifCond, st_if_icmp, st_iload_n, st_invokestatic, st_invokevirtual, st_ireturn, st_istore_n, st_isub, st_lconst, st_ldc2_w, st_putfield]
            exact ⟨fun _ => hy, fun _ => hy⟩
          · exact absurd (Classical.not_not.mp c) w.1
    have hl := loop 20 (Nat.le_refl _) hT _ _ hM.frO hM0 hR0
    simp only [ME, hput] at hl
    exact hl
  · obtain ⟨-, hr⟩ := hrel.resolve_right (fun w => d w.1)
    rw [hr] at h
    exact h _ _ hR frm.rf hM
/-- what is above and below, as numbers -/
theorem yw_nn (w : Nat → Int32) (rule d : Int32) {C : Nat} (hC : C ≤ 10) : ∀ n : Nat, ∃ k, k ≤ n ∧ yw w rule d (nI C) n = (nI ((10 - C) ^ k), nI (10 ^ k))
  | 0 => ⟨0, Nat.le_refl _, rfl⟩
  | n + 1 => by
    obtain ⟨k, hk, e⟩ := yw_nn w rule d hC n
    rw [yw]
    by_cases c : w (ix (nI n) d) < rule
    · rw [if_pos c]
      exact ⟨k, by omega, e⟩
    · rw [if_neg c, e]
      refine ⟨k + 1, by omega, ?_⟩
      rw [show (10 : Int32) - nI C = nI (10 - C) from pk_sub hC, show (10 : Int32) = nI 10 from rfl]
      simp only [pk_mul, Nat.pow_succ]
theorem cd_all : ∀ C, C < 11 → ∀ k, k < 6 → cdM (nI ((10 - C) ^ k)) (nI (10 ^ k)) = nI (Nat.gcd ((10 - C) ^ k) (10 ^ k)) := by decide +kernel
def sp_X7_yawn (Γ : Cx) : YSp := fun av σ K => ∃ (x : Int32) (y : Int32) (z : Int32), mo Γ [.int x, .int y, .int z] (fn (x_yawn x y z)) av σ K
theorem rv_X7_yawn {Γ : Cx} : Recv (sp_X7_yawn Γ) 3 7 := by
  intro av σ K h
  obtain ⟨x, y, z, h⟩ := h
  obtain ⟨q, fs, h1, h2, h3⟩ := rv_mo h
  exact ⟨q, _, fs, h1, rfl, h2, h3⟩
theorem tg_4_25 : tgo 4 25 = some 29 := by decide
theorem tg_16_13 : tgo 16 13 = some 29 := by decide
theorem tg_26_5 : tgo 26 5 = some 31 := by decide
theorem tg_46_68 : tgo 46 68 = some 114 := by decide
theorem tg_64_7 : tgo 64 7 = some 71 := by decide
theorem tg_68_4 : tgo 68 4 = some 72 := by decide
theorem tg_78_10 : tgo 78 10 = some 88 := by decide
theorem tg_85_4 : tgo 85 4 = some 89 := by decide
theorem tg_96_8 : tgo 96 8 = some 104 := by decide
theorem tg_101_4 : tgo 101 4 = some 105 := by decide
theorem tg_111_m71 : tgo 111 (-71) = some 40 := by decide
theorem tg_124_21 : tgo 124 21 = some 145 := by decide
theorem tg_142_m20 : tgo 142 (-20) = some 122 := by decide
theorem tg_146_11 : tgo 146 11 = some 157 := by decide
theorem tg_154_8 : tgo 154 8 = some 162 := by decide
def mX7_yawn : Mt := (⟨2, 0, 0, 45⟩, RX7, cX7_yawn, 9, some .int, (0, 0), none)
theorem mX7_yawn_c : mX7_yawn.2.2.1 = cX7_yawn := rfl
theorem mX7_yawn_n : mX7_yawn.2.2.2.1 = 9 := rfl
theorem mX7_yawn_r : mX7_yawn.2.2.2.2.1 = some .int := rfl
theorem mX7_yawn_l : mX7_yawn.2.2.2.2.2.2 = none := rfl
def jX7_yawn (Γ : Cx) : List ((Nat × Nat) × Nat × Bool × YSp) := [((1, 111), 1, true, sp_X7_isDoor Γ), ((1, 63), 3, true, sp_X7_lies Γ)]
theorem jX7_yawn_1_111 (Γ : Cx) : kT (jX7_yawn Γ) 1 111 = some (1, true, sp_X7_isDoor Γ) := rfl
theorem jX7_yawn_1_63 (Γ : Cx) : kT (jX7_yawn Γ) 1 63 = some (3, true, sp_X7_lies Γ) := rfl
theorem uX7_yawn (Γ : Cx) : TbOK Γ mX7_yawn (fT fX7, cT kX7, kT (jX7_yawn Γ)) := tb_ok fX7_ok kX7_ok (all_cons ⟨call_S (n := 1) (ok_X7_isDoor Γ) (rv_X7_isDoor (Γ := Γ)) bw_813 bw_811 bw_812 bw_49 no_X7_isDoor ⟨⟨rfl, rfl⟩, ⟨by decide, by decide⟩, ⟨by decide, by decide⟩⟩, fun _ => mono_X7_isDoor (Γ := Γ)⟩ (all_cons ⟨call_S (n := 3) (ok_X7_lies Γ) (rv_X7_lies (Γ := Γ)) bw_797 bw_795 bw_796 bw_49 no_X7_lies ⟨⟨rfl, rfl⟩, ⟨by decide, by decide⟩, ⟨by decide, by decide⟩⟩, fun _ => mono_X7_lies (Γ := Γ)⟩ (all_nil)))
set_option maxRecDepth 20000 in
theorem ok_X7_yawn (Γ : Cx) : Ok Γ yX7_yawn mX7_yawn (sp_X7_yawn Γ) := by
  refine ok_intro (by decide +kernel) rfl rfl ?_
  intro av σ K h
  obtain ⟨x, y, z, h⟩ := h
  obtain ⟨lab, ⟨a, ad⟩, ⟨sc, ar, it⟩, ψ, ψ', r, rfl, hM, hR, hrel, h⟩ := h
  try simp only at h
  obtain ⟨⟨m1, -⟩, e1, -⟩ := id hM
  obtain ⟨⟨p1, p2, p3, p4, pI, p5, p6, p7⟩, hImg, h16, hT, hSh⟩ := id hR
  have hP := pI.P5
  simp only at p1 p2 p3 p4 p5 p6 p7 hImg h16 hT hSh
  simp only [ME] at m1 e1
  obtain ⟨hq1, hq2⟩ := fn_r hrel
  rw [hq1, hq2] at h
  clear hq1 hq2 hrel ψ' r
  unfold x_yawn at h
  have h := h σ (sc, ar, it) hR frm.rf hM
  simp only at h
  obtain ⟨m3, e3⟩ := hM.arr 3 rfl
  simp only [iA, lenM] at m3 e3
  rw [p1, p2] at e1
  refine ⟨Nat.le_of_ble_eq_true rfl, yvc_ok (uX7_yawn Γ) (S := [40]) 60 _ _ _ _ ?_⟩
  simp only [lv_args, Value.category, sp_X7_isDoor, sp_X6_isDoor, sp_X7_lies, inL_010, inL_01, bI_eq0, Bool.not_eq_false, yvc_s, s1i, s2i, s1l, s2l, sil, s1r, sir, siir, slir, srir, svr, sd1, sd2, lg, lput, ldel, isL_i, isL_r, isL_l, jmp, obj, obj1, fI, fR, arI, arL, arR, hput, f4_0, f4_1, f4_2, f4_3, lc_0, lc_1, rok_i, rok_b, rok_y, strF, fput_1, fput_2, csum_nil, csum_i, csum_l, csum_r, va_up_self, bx_uu, Int.reduceAdd, List.elem_nil, List.elem_cons, List.take_succ_cons, List.take_zero, List.drop_succ_cons, List.drop_zero, List.take_nil, List.drop_nil, List.reverse_cons, List.reverse_nil, List.nil_append, List.cons_append, List.append_nil, Option.toList_some, Option.toList_none, List.getElem?_cons_zero, List.getElem?_cons_succ, List.set_cons_zero, List.set_cons_succ, List.length_cons, List.length_nil, reduceIte, reduceCtorEq, and_true, true_and, and_self, or_true, true_or, false_and, and_false, not_true_eq_false, not_false_eq_true, true_implies, false_implies, implies_true, Nat.reduceAdd, Nat.reduceLT, Nat.reduceEqDiff, Nat.reduceLeDiff, Nat.reduceBEq, Nat.zero_add, Nat.lt_add_one, Bool.false_eq_true, Bool.or_false, Bool.or_true, Bool.or_self, Nat.zero_ne_one, Nat.one_ne_zero, ite_true, ite_false, ne_eq, Nat.reduceSub, Nat.succ_eq_add_one, Nat.zero_lt_succ, Nat.add_one_ne_zero, false_or, or_false, mX7_yawn_c, mX7_yawn_n, mX7_yawn_r, mX7_yawn_l, dX7_yawn_0, dX7_yawn_1, dX7_yawn_4, tg_4_25, cnd1_eq, dX7_yawn_7, dX7_yawn_8, dX7_yawn_9, dX7_yawn_10, cl_7_205, dX7_yawn_13, dX7_yawn_16, tg_16_13, dX7_yawn_19, dX7_yawn_20, dX7_yawn_21, dX7_yawn_22, dX7_yawn_23, dX7_yawn_26, tg_26_5, cnd1_ne, dX7_yawn_29, ic_m1, dX7_yawn_30, dX7_yawn_31, ic_1, dX7_yawn_32, dX7_yawn_34, dX7_yawn_35, dX7_yawn_37, ic_0, dX7_yawn_38, dX7_yawn_40, dX7_yawn_42, dX7_yawn_43, fl_7_60_7, dX7_yawn_46, tg_46_68, cnd2_ge, dX7_yawn_49, dX7_yawn_50, fl_7_17_7, dX7_yawn_53, ic_4, dX7_yawn_54, dX7_yawn_56, dX7_yawn_57, dX7_yawn_58, dX7_yawn_59, dX7_yawn_60, dX7_yawn_61, fl_7_7_7, dX7_yawn_64, tg_64_7, cnd2_lt, dX7_yawn_67, dX7_yawn_68, tg_68_4, dX7_yawn_71, dX7_yawn_72, dX7_yawn_74, dX7_yawn_76, dX7_yawn_78, tg_78_10, dX7_yawn_81, bc_10, dX7_yawn_83, dX7_yawn_84, dX7_yawn_85, tg_85_4, dX7_yawn_88, dX7_yawn_89, dX7_yawn_90, dX7_yawn_92, dX7_yawn_94, dX7_yawn_96, tg_96_8, dX7_yawn_99, dX7_yawn_101, tg_101_4, dX7_yawn_104, dX7_yawn_105, dX7_yawn_106, dX7_yawn_108, dX7_yawn_111, tg_111_m71, dX7_yawn_114, dX7_yawn_116, dX7_yawn_118, dX7_yawn_120, dX7_yawn_122, dX7_yawn_124, tg_124_21, dX7_yawn_127, dX7_yawn_129, dX7_yawn_131, dX7_yawn_132, dX7_yawn_134, dX7_yawn_136, dX7_yawn_138, dX7_yawn_140, dX7_yawn_142, tg_142_m20, dX7_yawn_145, dX7_yawn_146, tg_146_11, dX7_yawn_149, dX7_yawn_151, dX7_yawn_153, dX7_yawn_154, tg_154_8, dX7_yawn_157, dX7_yawn_159, dX7_yawn_161, dX7_yawn_162, jX7_yawn_1_111, jX7_yawn_1_63, st_aload_n, st_bipush, st_getfield, st_goto, st_i2l, st_iadd, st_iaload, st_iconst, st_idiv, st_ifCond, st_if_icmp, st_iinc, st_iload, st_iload_n, st_imul, st_invokestatic, st_irem, st_ireturn, st_istore, st_isub, st_lconst, st_ldc2_w]
  have no : ¬ (inr x 0 3 = true ∧ inr y 0 10 = true ∧ inr z 0 1 = true) → K (some (.int (-1))) σ := fun w => by
    rw [if_neg w] at h
    exact h
  refine ⟨fun c => no (fun z => by rw [z.1] at c; cases c), fun c => ⟨fun d => no (fun z => by rw [z.2.1] at d; cases d), fun d => ⟨fun e => ?_, fun e => no (fun z => e z.2.2)⟩⟩⟩
  rw [if_pos ⟨c, d, e⟩] at h
  obtain ⟨q, hq, rfl⟩ := door_n c
  obtain ⟨C, hC, rfl⟩ := in_n (B := 10) (by decide) d
  obtain ⟨kk, hkk, hyw⟩ := yw_nn ψ.1.1 ψ.1.2.2.2.2.2.2.2.1 (nI q) hC ψ.1.2.2.2.2.2.2.1
  rw [hyw] at h
  simp only at h
  rw [cd_all C (by omega) kk (by omega)] at h
  have hb1 : (10 - C) ^ kk ≤ 100000 := Nat.le_trans (Nat.pow_le_pow_left (show 10 - C ≤ 10 by omega) kk) (Nat.pow_le_pow_right (show 0 < 10 by decide) (show kk ≤ 5 by omega))
  have hb2 : 10 ^ kk ≤ 100000 := Nat.pow_le_pow_right (show 0 < 10 by decide) (show kk ≤ 5 by omega)
  have hb0 : 0 < 10 ^ kk := Nat.pow_pos (by decide)
  generalize (10 - C) ^ kk = A at h hyw hb1
  generalize 10 ^ kk = B at h hyw hb2 hb0
  -- Euclid
  have euc : ∀ w v : Nat, v ≤ 100000 → w ≤ 100000 → 0 < v ∨ 0 < w → Nat.gcd v w = Nat.gcd A B → YG Γ mX7_yawn K 122 [(0, .ref a), (1, .int (nI q)), (2, .int (nI C)), (3, .int z), (4, .int (nI A)), (5, .int (nI B)), (6, .int (nI v)), (7, .int (nI w))] [] σ := by
    intro w
    induction w using Nat.strongRecOn with
    | _ w ih =>
      intro v hv hw h0 hg
      by_cases w0 : w = 0
      · subst w0
        rw [Nat.gcd_zero_right] at hg
        have hv0 : ¬ nI v = 0 := nI_ne0 (by omega) (by omega)
        rw [← hg] at h
        refine yvc1_ok (uX7_yawn Γ) (S := [122]) 60 ?_
        simp only [yvc1, nI0, hv0, yvc_s, s1i, s2i, s1l, s2l, sil, s1r, sir, siir, slir, srir, svr, sd1, sd2, lg, lput, ldel, isL_i, isL_r, isL_l, jmp, obj, obj1, fI, fR, arI, arL, arR, hput, f4_0, f4_1, f4_2, f4_3, lc_0, lc_1, rok_i, rok_b, rok_y, strF, fput_1, fput_2, csum_nil, csum_i, csum_l, csum_r, va_up_self, bx_uu, Int.reduceAdd, List.elem_nil, List.elem_cons, List.take_succ_cons, List.take_zero, List.drop_succ_cons, List.drop_zero, List.take_nil, List.drop_nil, List.reverse_cons, List.reverse_nil, List.nil_append, List.cons_append, List.append_nil, Option.toList_some, Option.toList_none, List.getElem?_cons_zero, List.getElem?_cons_succ, List.set_cons_zero, List.set_cons_succ, List.length_cons, List.length_nil, reduceIte, reduceCtorEq, and_true, true_and, and_self, or_true, true_or, false_and, and_false, not_true_eq_false, not_false_eq_true, true_implies, false_implies, implies_true, Nat.reduceAdd, Nat.reduceLT, Nat.reduceEqDiff, Nat.reduceLeDiff, Nat.reduceBEq, Nat.zero_add, Nat.lt_add_one, Bool.false_eq_true, Bool.or_false, Bool.or_true, Bool.or_self, Nat.zero_ne_one, Nat.one_ne_zero, ite_true, ite_false, ne_eq, Nat.reduceSub, Nat.succ_eq_add_one, Nat.zero_lt_succ, Nat.add_one_ne_zero, false_or, or_false, mX7_yawn_c, mX7_yawn_n, mX7_yawn_r, mX7_yawn_l, dX7_yawn_0, dX7_yawn_1, dX7_yawn_4, tg_4_25, cnd1_eq, dX7_yawn_7, dX7_yawn_8, dX7_yawn_9, dX7_yawn_10, cl_7_205, dX7_yawn_13, dX7_yawn_16, tg_16_13, dX7_yawn_19, dX7_yawn_20, dX7_yawn_21, dX7_yawn_22, dX7_yawn_23, dX7_yawn_26, tg_26_5, cnd1_ne, dX7_yawn_29, ic_m1, dX7_yawn_30, dX7_yawn_31, ic_1, dX7_yawn_32, dX7_yawn_34, dX7_yawn_35, dX7_yawn_37, ic_0, dX7_yawn_38, dX7_yawn_40, dX7_yawn_42, dX7_yawn_43, fl_7_60_7, dX7_yawn_46, tg_46_68, cnd2_ge, dX7_yawn_49, dX7_yawn_50, fl_7_17_7, dX7_yawn_53, ic_4, dX7_yawn_54, dX7_yawn_56, dX7_yawn_57, dX7_yawn_58, dX7_yawn_59, dX7_yawn_60, dX7_yawn_61, fl_7_7_7, dX7_yawn_64, tg_64_7, cnd2_lt, dX7_yawn_67, dX7_yawn_68, tg_68_4, dX7_yawn_71, dX7_yawn_72, dX7_yawn_74, dX7_yawn_76, dX7_yawn_78, tg_78_10, dX7_yawn_81, bc_10, dX7_yawn_83, dX7_yawn_84, dX7_yawn_85, tg_85_4, dX7_yawn_88, dX7_yawn_89, dX7_yawn_90, dX7_yawn_92, dX7_yawn_94, dX7_yawn_96, tg_96_8, dX7_yawn_99, dX7_yawn_101, tg_101_4, dX7_yawn_104, dX7_yawn_105, dX7_yawn_106, dX7_yawn_108, dX7_yawn_111, tg_111_m71, dX7_yawn_114, dX7_yawn_116, dX7_yawn_118, dX7_yawn_120, dX7_yawn_122, dX7_yawn_124, tg_124_21, dX7_yawn_127, dX7_yawn_129, dX7_yawn_131, dX7_yawn_132, dX7_yawn_134, dX7_yawn_136, dX7_yawn_138, dX7_yawn_140, dX7_yawn_142, tg_142_m20, dX7_yawn_145, dX7_yawn_146, tg_146_11, dX7_yawn_149, dX7_yawn_151, dX7_yawn_153, dX7_yawn_154, tg_154_8, dX7_yawn_157, dX7_yawn_159, dX7_yawn_161, dX7_yawn_162, jX7_yawn_1_111, jX7_yawn_1_63, st_aload_n, st_bipush, st_getfield, st_goto, st_i2l, st_iadd, st_iaload, st_iconst, st_idiv, st_ifCond, st_if_icmp, st_iinc, st_iload, st_iload_n, st_imul, st_invokestatic, st_irem, st_ireturn, st_istore, st_isub, st_lconst, st_ldc2_w]
        refine ⟨fun z0 => ?_, fun z0 => ?_⟩
        · rw [if_neg z0] at h; exact h
        · rw [if_pos (Classical.not_not.mp z0)] at h; exact h
      · have hw0 : ¬ nI w = 0 := nI_ne0 (by omega) (by omega)
        have hlt := Nat.mod_lt v (show 0 < w by omega)
        have hy := ih (v % w) hlt w hw (by omega) (Or.inl (by omega)) (by
          rw [Nat.gcd_comm w, ← Nat.gcd_rec, Nat.gcd_comm]; exact hg)
        have hrem : nI v - nI v / nI w * nI w = nI (v % w) := pk_rem (by omega) (by omega) (by omega)
        refine yvc1_ok (uX7_yawn Γ) (S := [122]) 60 ?_
        simp only [yvc1, hw0, hrem, yvc_s, s1i, s2i, s1l, s2l, sil, s1r, sir, siir, slir, srir, svr, sd1, sd2, lg, lput, ldel, isL_i, isL_r, isL_l, jmp, obj, obj1, fI, fR, arI, arL, arR, hput, f4_0, f4_1, f4_2, f4_3, lc_0, lc_1, rok_i, rok_b, rok_y, strF, fput_1, fput_2, csum_nil, csum_i, csum_l, csum_r, va_up_self, bx_uu, Int.reduceAdd, List.elem_nil, List.elem_cons, List.take_succ_cons, List.take_zero, List.drop_succ_cons, List.drop_zero, List.take_nil, List.drop_nil, List.reverse_cons, List.reverse_nil, List.nil_append, List.cons_append, List.append_nil, Option.toList_some, Option.toList_none, List.getElem?_cons_zero, List.getElem?_cons_succ, List.set_cons_zero, List.set_cons_succ, List.length_cons, List.length_nil, reduceIte, reduceCtorEq, and_true, true_and, and_self, or_true, true_or, false_and, and_false, not_true_eq_false, not_false_eq_true, true_implies, false_implies, implies_true, Nat.reduceAdd, Nat.reduceLT, Nat.reduceEqDiff, Nat.reduceLeDiff, Nat.reduceBEq, Nat.zero_add, Nat.lt_add_one, Bool.false_eq_true, Bool.or_false, Bool.or_true, Bool.or_self, Nat.zero_ne_one, Nat.one_ne_zero, ite_true, ite_false, ne_eq, Nat.reduceSub, Nat.succ_eq_add_one, Nat.zero_lt_succ, Nat.add_one_ne_zero, false_or, or_false, mX7_yawn_c, mX7_yawn_n, mX7_yawn_r, mX7_yawn_l, dX7_yawn_0, dX7_yawn_1, dX7_yawn_4, tg_4_25, cnd1_eq, dX7_yawn_7, dX7_yawn_8, dX7_yawn_9, dX7_yawn_10, cl_7_205, dX7_yawn_13, dX7_yawn_16, tg_16_13, dX7_yawn_19, dX7_yawn_20, dX7_yawn_21, dX7_yawn_22, dX7_yawn_23, dX7_yawn_26, tg_26_5, cnd1_ne, dX7_yawn_29, ic_m1, dX7_yawn_30, dX7_yawn_31, ic_1, dX7_yawn_32, dX7_yawn_34, dX7_yawn_35, dX7_yawn_37, ic_0, dX7_yawn_38, dX7_yawn_40, dX7_yawn_42, dX7_yawn_43, fl_7_60_7, dX7_yawn_46, tg_46_68, cnd2_ge, dX7_yawn_49, dX7_yawn_50, fl_7_17_7, dX7_yawn_53, ic_4, dX7_yawn_54, dX7_yawn_56, dX7_yawn_57, dX7_yawn_58, dX7_yawn_59, dX7_yawn_60, dX7_yawn_61, fl_7_7_7, dX7_yawn_64, tg_64_7, cnd2_lt, dX7_yawn_67, dX7_yawn_68, tg_68_4, dX7_yawn_71, dX7_yawn_72, dX7_yawn_74, dX7_yawn_76, dX7_yawn_78, tg_78_10, dX7_yawn_81, bc_10, dX7_yawn_83, dX7_yawn_84, dX7_yawn_85, tg_85_4, dX7_yawn_88, dX7_yawn_89, dX7_yawn_90, dX7_yawn_92, dX7_yawn_94, dX7_yawn_96, tg_96_8, dX7_yawn_99, dX7_yawn_101, tg_101_4, dX7_yawn_104, dX7_yawn_105, dX7_yawn_106, dX7_yawn_108, dX7_yawn_111, tg_111_m71, dX7_yawn_114, dX7_yawn_116, dX7_yawn_118, dX7_yawn_120, dX7_yawn_122, dX7_yawn_124, tg_124_21, dX7_yawn_127, dX7_yawn_129, dX7_yawn_131, dX7_yawn_132, dX7_yawn_134, dX7_yawn_136, dX7_yawn_138, dX7_yawn_140, dX7_yawn_142, tg_142_m20, dX7_yawn_145, dX7_yawn_146, tg_146_11, dX7_yawn_149, dX7_yawn_151, dX7_yawn_153, dX7_yawn_154, tg_154_8, dX7_yawn_157, dX7_yawn_159, dX7_yawn_161, dX7_yawn_162, jX7_yawn_1_111, jX7_yawn_1_63, st_aload_n, st_bipush, st_getfield, st_goto, st_i2l, st_iadd, st_iaload, st_iconst, st_idiv, st_ifCond, st_if_icmp, st_iinc, st_iload, st_iload_n, st_imul, st_invokestatic, st_irem, st_ireturn, st_istore, st_isub, st_lconst, st_ldc2_w]
        refine hy.sub (fun q hq => ?_)
        simp only [List.mem_cons, List.not_mem_nil, or_false] at hq ⊢
        rcases hq with rfl | rfl | rfl | rfl | rfl | rfl | rfl | rfl <;> simp
  have loop : ∀ n j : Nat, j + n = ψ.1.2.2.2.2.2.2.1 → YG Γ mX7_yawn K 40 [(0, .ref a), (1, .int (nI q)), (2, .int (nI C)), (3, .int z), (4, .int (yw ψ.1.1 ψ.1.2.2.2.2.2.2.2.1 (nI q) (nI C) j).1), (5, .int (yw ψ.1.1 ψ.1.2.2.2.2.2.2.2.1 (nI q) (nI C) j).2), (6, .int (nI j))] [] σ := by
    intro n
    induction n with
    | zero =>
      intro j hj
      obtain rfl : j = ψ.1.2.2.2.2.2.2.1 := by omega
      rw [hyw]
      have hy := euc B A hb1 hb2 (Or.inr hb0) rfl
      refine yvc1_ok (uX7_yawn Γ) (S := [40, 122]) 60 ?_
      simp only [yvc1, geP, m1, e1, yvc_s, s1i, s2i, s1l, s2l, sil, s1r, sir, siir, slir, srir, svr, sd1, sd2, lg, lput, ldel, isL_i, isL_r, isL_l, jmp, obj, obj1, fI, fR, arI, arL, arR, hput, f4_0, f4_1, f4_2, f4_3, lc_0, lc_1, rok_i, rok_b, rok_y, strF, fput_1, fput_2, csum_nil, csum_i, csum_l, csum_r, va_up_self, bx_uu, Int.reduceAdd, List.elem_nil, List.elem_cons, List.take_succ_cons, List.take_zero, List.drop_succ_cons, List.drop_zero, List.take_nil, List.drop_nil, List.reverse_cons, List.reverse_nil, List.nil_append, List.cons_append, List.append_nil, Option.toList_some, Option.toList_none, List.getElem?_cons_zero, List.getElem?_cons_succ, List.set_cons_zero, List.set_cons_succ, List.length_cons, List.length_nil, reduceIte, reduceCtorEq, and_true, true_and, and_self, or_true, true_or, false_and, and_false, not_true_eq_false, not_false_eq_true, true_implies, false_implies, implies_true, Nat.reduceAdd, Nat.reduceLT, Nat.reduceEqDiff, Nat.reduceLeDiff, Nat.reduceBEq, Nat.zero_add, Nat.lt_add_one, Bool.false_eq_true, Bool.or_false, Bool.or_true, Bool.or_self, Nat.zero_ne_one, Nat.one_ne_zero, ite_true, ite_false, ne_eq, Nat.reduceSub, Nat.succ_eq_add_one, Nat.zero_lt_succ, Nat.add_one_ne_zero, false_or, or_false, mX7_yawn_c, mX7_yawn_n, mX7_yawn_r, mX7_yawn_l, dX7_yawn_0, dX7_yawn_1, dX7_yawn_4, tg_4_25, cnd1_eq, dX7_yawn_7, dX7_yawn_8, dX7_yawn_9, dX7_yawn_10, cl_7_205, dX7_yawn_13, dX7_yawn_16, tg_16_13, dX7_yawn_19, dX7_yawn_20, dX7_yawn_21, dX7_yawn_22, dX7_yawn_23, dX7_yawn_26, tg_26_5, cnd1_ne, dX7_yawn_29, ic_m1, dX7_yawn_30, dX7_yawn_31, ic_1, dX7_yawn_32, dX7_yawn_34, dX7_yawn_35, dX7_yawn_37, ic_0, dX7_yawn_38, dX7_yawn_40, dX7_yawn_42, dX7_yawn_43, fl_7_60_7, dX7_yawn_46, tg_46_68, cnd2_ge, dX7_yawn_49, dX7_yawn_50, fl_7_17_7, dX7_yawn_53, ic_4, dX7_yawn_54, dX7_yawn_56, dX7_yawn_57, dX7_yawn_58, dX7_yawn_59, dX7_yawn_60, dX7_yawn_61, fl_7_7_7, dX7_yawn_64, tg_64_7, cnd2_lt, dX7_yawn_67, dX7_yawn_68, tg_68_4, dX7_yawn_71, dX7_yawn_72, dX7_yawn_74, dX7_yawn_76, dX7_yawn_78, tg_78_10, dX7_yawn_81, bc_10, dX7_yawn_83, dX7_yawn_84, dX7_yawn_85, tg_85_4, dX7_yawn_88, dX7_yawn_89, dX7_yawn_90, dX7_yawn_92, dX7_yawn_94, dX7_yawn_96, tg_96_8, dX7_yawn_99, dX7_yawn_101, tg_101_4, dX7_yawn_104, dX7_yawn_105, dX7_yawn_106, dX7_yawn_108, dX7_yawn_111, tg_111_m71, dX7_yawn_114, dX7_yawn_116, dX7_yawn_118, dX7_yawn_120, dX7_yawn_122, dX7_yawn_124, tg_124_21, dX7_yawn_127, dX7_yawn_129, dX7_yawn_131, dX7_yawn_132, dX7_yawn_134, dX7_yawn_136, dX7_yawn_138, dX7_yawn_140, dX7_yawn_142, tg_142_m20, dX7_yawn_145, dX7_yawn_146, tg_146_11, dX7_yawn_149, dX7_yawn_151, dX7_yawn_153, dX7_yawn_154, tg_154_8, dX7_yawn_157, dX7_yawn_159, dX7_yawn_161, dX7_yawn_162, jX7_yawn_1_111, jX7_yawn_1_63, st_aload_n, st_bipush, st_getfield, st_goto, st_i2l, st_iadd, st_iaload, st_iconst, st_idiv, st_ifCond, st_if_icmp, st_iinc, st_iload, st_iload_n, st_imul, st_invokestatic, st_irem, st_ireturn, st_istore, st_isub, st_lconst, st_ldc2_w]
      refine hy.sub (fun q hq => ?_)
      simp only [List.mem_cons, List.not_mem_nil, or_false] at hq ⊢
      rcases hq with rfl | rfl | rfl | rfl | rfl | rfl | rfl | rfl <;> simp
    | succ n ih =>
      intro j hj
      have c1 := ltP (show j < ψ.1.2.2.2.2.2.2.1 by omega) hP
      obtain ⟨i1, i2⟩ := ix4 (show j < 5 by omega) hq
      have hw : ar 3 (4 * j + q) = ψ.1.1 (4 * j + q) := p6.1 _ (by omega)
      have hy := ih (j + 1) (by omega)
      rw [yw, ix_n (show j < 5 by omega) hq] at hy
      refine yvc1_ok (uX7_yawn Γ) (S := [40, 122]) 60 ?_
      simp only [yvc1, c1, m1, e1, m3, e3, i1, i2, hw, i1e0, Int32.mul_one, nI_1, yvc_s, s1i, s2i, s1l, s2l, sil, s1r, sir, siir, slir, srir, svr, sd1, sd2, lg, lput, ldel, isL_i, isL_r, isL_l, jmp, obj, obj1, fI, fR, arI, arL, arR, hput, f4_0, f4_1, f4_2, f4_3, lc_0, lc_1, rok_i, rok_b, rok_y, strF, fput_1, fput_2, csum_nil, csum_i, csum_l, csum_r, va_up_self, bx_uu, Int.reduceAdd, List.elem_nil, List.elem_cons, List.take_succ_cons, List.take_zero, List.drop_succ_cons, List.drop_zero, List.take_nil, List.drop_nil, List.reverse_cons, List.reverse_nil, List.nil_append, List.cons_append, List.append_nil, Option.toList_some, Option.toList_none, List.getElem?_cons_zero, List.getElem?_cons_succ, List.set_cons_zero, List.set_cons_succ, List.length_cons, List.length_nil, reduceIte, reduceCtorEq, and_true, true_and, and_self, or_true, true_or, false_and, and_false, not_true_eq_false, not_false_eq_true, true_implies, false_implies, implies_true, Nat.reduceAdd, Nat.reduceLT, Nat.reduceEqDiff, Nat.reduceLeDiff, Nat.reduceBEq, Nat.zero_add, Nat.lt_add_one, Bool.false_eq_true, Bool.or_false, Bool.or_true, Bool.or_self, Nat.zero_ne_one, Nat.one_ne_zero, ite_true, ite_false, ne_eq, Nat.reduceSub, Nat.succ_eq_add_one, Nat.zero_lt_succ, Nat.add_one_ne_zero, false_or, or_false, mX7_yawn_c, mX7_yawn_n, mX7_yawn_r, mX7_yawn_l, dX7_yawn_0, dX7_yawn_1, dX7_yawn_4, tg_4_25, cnd1_eq, dX7_yawn_7, dX7_yawn_8, dX7_yawn_9, dX7_yawn_10, cl_7_205, dX7_yawn_13, dX7_yawn_16, tg_16_13, dX7_yawn_19, dX7_yawn_20, dX7_yawn_21, dX7_yawn_22, dX7_yawn_23, dX7_yawn_26, tg_26_5, cnd1_ne, dX7_yawn_29, ic_m1, dX7_yawn_30, dX7_yawn_31, ic_1, dX7_yawn_32, dX7_yawn_34, dX7_yawn_35, dX7_yawn_37, ic_0, dX7_yawn_38, dX7_yawn_40, dX7_yawn_42, dX7_yawn_43, fl_7_60_7, dX7_yawn_46, tg_46_68, cnd2_ge, dX7_yawn_49, dX7_yawn_50, fl_7_17_7, dX7_yawn_53, ic_4, dX7_yawn_54, dX7_yawn_56, dX7_yawn_57, dX7_yawn_58, dX7_yawn_59, dX7_yawn_60, dX7_yawn_61, fl_7_7_7, dX7_yawn_64, tg_64_7, cnd2_lt, dX7_yawn_67, dX7_yawn_68, tg_68_4, dX7_yawn_71, dX7_yawn_72, dX7_yawn_74, dX7_yawn_76, dX7_yawn_78, tg_78_10, dX7_yawn_81, bc_10, dX7_yawn_83, dX7_yawn_84, dX7_yawn_85, tg_85_4, dX7_yawn_88, dX7_yawn_89, dX7_yawn_90, dX7_yawn_92, dX7_yawn_94, dX7_yawn_96, tg_96_8, dX7_yawn_99, dX7_yawn_101, tg_101_4, dX7_yawn_104, dX7_yawn_105, dX7_yawn_106, dX7_yawn_108, dX7_yawn_111, tg_111_m71, dX7_yawn_114, dX7_yawn_116, dX7_yawn_118, dX7_yawn_120, dX7_yawn_122, dX7_yawn_124, tg_124_21, dX7_yawn_127, dX7_yawn_129, dX7_yawn_131, dX7_yawn_132, dX7_yawn_134, dX7_yawn_136, dX7_yawn_138, dX7_yawn_140, dX7_yawn_142, tg_142_m20, dX7_yawn_145, dX7_yawn_146, tg_146_11, dX7_yawn_149, dX7_yawn_151, dX7_yawn_153, dX7_yawn_154, tg_154_8, dX7_yawn_157, dX7_yawn_159, dX7_yawn_161, dX7_yawn_162, jX7_yawn_1_111, jX7_yawn_1_63, st_aload_n, st_bipush, st_getfield, st_goto, st_i2l, st_iadd, st_iaload, st_iconst, st_idiv, st_ifCond, st_if_icmp, st_iinc, st_iload, st_iload_n, st_imul, st_invokestatic, st_irem, st_ireturn, st_istore, st_isub, st_lconst, st_ldc2_w]
      refine ⟨fun cc => ?_, fun cc => ?_⟩
      · rw [if_pos cc] at hy
        refine hy.sub (fun q hq => ?_)
        simp only [List.mem_cons, List.not_mem_nil, or_false] at hq ⊢
        rcases hq with rfl | rfl | rfl | rfl | rfl | rfl | rfl <;> simp
      · rw [if_neg cc] at hy
        refine hy.sub (fun q hq => ?_)
        simp only [List.mem_cons, List.not_mem_nil, or_false] at hq ⊢
        rcases hq with rfl | rfl | rfl | rfl | rfl | rfl | rfl <;> simp
  exact loop _ 0 (Nat.zero_add _)
