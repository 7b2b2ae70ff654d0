/-! ===== College: passDay and what goes with it ===== -/
def sp_X0_passDay (Γ : Cx) : YSp := fun av σ K => ∃ (A : CA) (s : CS), av = [.ref A.1] ∧ WfC s ∧ Col Γ A s σ ∧ K none (cset Γ A (dayC s) σ)
theorem rv_X0_passDay {Γ : Cx} : Recv (sp_X0_passDay Γ) 0 0 := by
  intro av σ K h
  obtain ⟨A, s, rfl, -, hc, -⟩ := h
  obtain ⟨fs, h1, h2⟩ := col_rv hc
  exact ⟨_, _, fs, rfl, rfl, h1, h2⟩
theorem gN_s (s : CS) (n : Nat) : gN s (n + 1) = g1 (gN s n) n := rfl
theorem tN_s (s : CS) (n : Nat) : tN s (n + 1) = t1 (tN s n) n := rfl
theorem bw_294 : Cond.code yX0_growth cX0_growth 3 (some .int) ∈ BW := bw_i 294 (by decide +kernel) (by decide +kernel)
theorem no_X0_growth : NameOK yX0_growth 1 := by unfold NameOK; decide +kernel
theorem bw_518 : Cond.methodLink RX0 86 yX0_growth ∈ BW := bw_i 518 (by decide +kernel) (by decide +kernel)
theorem bw_292 : Cond.instanceMethod yX0_growth ∈ BW := bw_i 292 (by decide +kernel) (by decide +kernel)
theorem bw_293 : Cond.selects RX0 yX0_growth yX0_growth ∈ BW := bw_i 293 (by decide +kernel) (by decide +kernel)
theorem bw_512 : Cond.code yX0_wantMore cX0_wantMore 4 none ∈ BW := bw_i 512 (by decide +kernel) (by decide +kernel)
theorem no_X0_wantMore : NameOK yX0_wantMore 3 := by unfold NameOK; decide +kernel
theorem bw_509 : Cond.methodLink RX0 89 yX0_wantMore ∈ BW := bw_i 509 (by decide +kernel) (by decide +kernel)
theorem bw_510 : Cond.instanceMethod yX0_wantMore ∈ BW := bw_i 510 (by decide +kernel) (by decide +kernel)
theorem bw_511 : Cond.selects RX0 yX0_wantMore yX0_wantMore ∈ BW := bw_i 511 (by decide +kernel) (by decide +kernel)
theorem bw_522 : Cond.code yX0_testKeeper cX0_testKeeper 4 none ∈ BW := bw_i 522 (by decide +kernel) (by decide +kernel)
theorem no_X0_testKeeper : NameOK yX0_testKeeper 1 := by unfold NameOK; decide +kernel
theorem bw_519 : Cond.methodLink RX0 92 yX0_testKeeper ∈ BW := bw_i 519 (by decide +kernel) (by decide +kernel)
theorem bw_521 : Cond.instanceMethod yX0_testKeeper ∈ BW := bw_i 521 (by decide +kernel) (by decide +kernel)
theorem bw_10 : Cond.selects RX0 yX0_testKeeper yX0_testKeeper ∈ BW := bw_i 10 (by decide +kernel) (by decide +kernel)
theorem tg_4_36 : tgo 4 36 = some 40 := by decide
theorem tg_15_19 : tgo 15 19 = some 34 := by decide
theorem tg_37_m35 : tgo 37 (-35) = some 2 := by decide
theorem tg_49_25 : tgo 49 25 = some 74 := by decide
theorem tg_60_8 : tgo 60 8 = some 68 := by decide
theorem tg_71_m24 : tgo 71 (-24) = some 47 := by decide
def mX0_passDay : Mt := (⟨3, 0, 0, 69⟩, RX0, cX0_passDay, 2, none, (0, 0), none)
theorem mX0_passDay_c : mX0_passDay.2.2.1 = cX0_passDay := rfl
theorem mX0_passDay_n : mX0_passDay.2.2.2.1 = 2 := rfl
theorem mX0_passDay_r : mX0_passDay.2.2.2.2.1 = none := rfl
theorem mX0_passDay_l : mX0_passDay.2.2.2.2.2.2 = none := rfl
def jX0_passDay (Γ : Cx) : List ((Nat × Nat) × Nat × Bool × YSp) := [((0, 86), 2, false, sp_X0_growth Γ), ((0, 89), 4, false, sp_X0_wantMore Γ), ((0, 92), 2, false, sp_X0_testKeeper Γ)]
theorem jX0_passDay_0_86 (Γ : Cx) : kT (jX0_passDay Γ) 0 86 = some (2, false, sp_X0_growth Γ) := rfl
theorem jX0_passDay_0_89 (Γ : Cx) : kT (jX0_passDay Γ) 0 89 = some (4, false, sp_X0_wantMore Γ) := rfl
theorem jX0_passDay_0_92 (Γ : Cx) : kT (jX0_passDay Γ) 0 92 = some (2, false, sp_X0_testKeeper Γ) := rfl
theorem uX0_passDay (Γ : Cx) : TbOK Γ mX0_passDay (fT fX0, cT kX0, kT (jX0_passDay Γ)) := tb_ok fX0_ok kX0_ok (all_cons ⟨call_V (n := 1) (T := TX0) (N := 9) (ok_X0_growth Γ) (rv_X0_growth (Γ := Γ)) rfl bw_294 bw_518 bw_292 bw_293 bw_44 no_X0_growth ⟨⟨rfl, rfl⟩, ⟨by decide, by decide⟩, ⟨by decide, by decide⟩⟩, fun z => by cases z⟩ (all_cons ⟨call_V (n := 3) (T := TX0) (N := 9) (ok_X0_wantMore Γ) (rv_X0_wantMore (Γ := Γ)) rfl bw_512 bw_509 bw_510 bw_511 bw_44 no_X0_wantMore ⟨⟨rfl, rfl⟩, ⟨by decide, by decide⟩, ⟨by decide, by decide⟩⟩, fun z => by cases z⟩ (all_cons ⟨call_V (n := 1) (T := TX0) (N := 9) (ok_X0_testKeeper Γ) (rv_X0_testKeeper (Γ := Γ)) rfl bw_522 bw_519 bw_521 bw_10 bw_44 no_X0_testKeeper ⟨⟨rfl, rfl⟩, ⟨by decide, by decide⟩, ⟨by decide, by decide⟩⟩, fun z => by cases z⟩ (all_nil))))
set_option maxRecDepth 20000 in
theorem ok_X0_passDay (Γ : Cx) : Ok Γ yX0_passDay mX0_passDay (sp_X0_passDay Γ) := by
  refine ok_intro (by decide +kernel) rfl rfl ?_
  intro av σ K h
  obtain ⟨⟨a, aw, ak, ad⟩, s, rfl, hw, hc, h⟩ := h
  have loop2 : ∀ n j : Nat, ∀ t : CS, WfC t → j + n = 4 → K none (cset Γ (a, aw, ak, ad) (dayUp (tN t 4)) σ) → YG Γ mX0_passDay K 47 [(0, .ref a), (1, .int (nI j))] [] (cset Γ (a, aw, ak, ad) (tN t j) σ) := by
    intro n
    induction n with
    | zero =>
      intro j t ht hj hk
      obtain rfl : j = 4 := by omega
      have hc' := hc.set (tN t 4)
      generalize tN t 4 = s' at hc' hk ⊢
      obtain ⟨w, kp, kd, day, gone, draw, P, rule, gd⟩ := s'
      have hp := hc'.put (w, kp, kd, day + 1, gone, draw, P, rule, gd) rfl rfl rfl
      obtain ⟨⟨m1, m2, m3, m4⟩, e1, e2, e3, e4⟩ := hc'
      simp only [ColE, iA] at e1 e2 e3 e4 m1 m2 m3 m4
      refine yvc1_ok (uX0_passDay Γ) (S := [47]) 40 ?_
      simp only [yvc1, ge4, m1, e1, yvc_s, s1i, s2i, s1l, s2l, sil, s1r, sir, siir, slir, srir, svr, sd1, sd2, lg, lput, ldel, isL_i, isL_r, isL_l, jmp, obj, obj1, fI, fR, arI, arL, arR, hput, f4_0, f4_1, f4_2, f4_3, lc_0, lc_1, rok_i, rok_b, rok_y, strF, fput_1, fput_2, csum_nil, csum_i, csum_l, csum_r, va_up_self, bx_uu, Int.reduceAdd, List.elem_nil, List.elem_cons, List.take_succ_cons, List.take_zero, List.drop_succ_cons, List.drop_zero, List.take_nil, List.drop_nil, List.reverse_cons, List.reverse_nil, List.nil_append, List.cons_append, List.append_nil, Option.toList_some, Option.toList_none, List.getElem?_cons_zero, List.getElem?_cons_succ, List.set_cons_zero, List.set_cons_succ, List.length_cons, List.length_nil, reduceIte, reduceCtorEq, and_true, true_and, and_self, or_true, true_or, false_and, and_false, not_true_eq_false, not_false_eq_true, true_implies, false_implies, implies_true, Nat.reduceAdd, Nat.reduceLT, Nat.reduceEqDiff, Nat.reduceLeDiff, Nat.reduceBEq, Nat.zero_add, Nat.lt_add_one, Bool.false_eq_true, Bool.or_false, Bool.or_true, Bool.or_self, Nat.zero_ne_one, Nat.one_ne_zero, ite_true, ite_false, ne_eq, Nat.reduceSub, Nat.succ_eq_add_one, Nat.zero_lt_succ, Nat.add_one_ne_zero, false_or, or_false, mX0_passDay_c, mX0_passDay_n, mX0_passDay_r, mX0_passDay_l, dX0_passDay_0, ic_0, dX0_passDay_1, dX0_passDay_2, dX0_passDay_3, ic_4, dX0_passDay_4, tg_4_36, cnd2_ge, dX0_passDay_7, dX0_passDay_8, fl_0_59_0, dX0_passDay_11, dX0_passDay_12, dX0_passDay_13, bc_m4, dX0_passDay_15, tg_15_19, cnd2_eq, dX0_passDay_18, dX0_passDay_19, dX0_passDay_20, dX0_passDay_23, dX0_passDay_24, dX0_passDay_25, dX0_passDay_26, dX0_passDay_27, dX0_passDay_28, dX0_passDay_31, dX0_passDay_34, ic_1, dX0_passDay_37, tg_37_m35, dX0_passDay_40, dX0_passDay_41, dX0_passDay_42, fl_0_22_0, dX0_passDay_45, dX0_passDay_46, dX0_passDay_47, dX0_passDay_48, dX0_passDay_49, tg_49_25, dX0_passDay_52, dX0_passDay_53, dX0_passDay_56, dX0_passDay_57, dX0_passDay_58, dX0_passDay_60, tg_60_8, dX0_passDay_63, dX0_passDay_64, dX0_passDay_65, dX0_passDay_68, dX0_passDay_71, tg_71_m24, dX0_passDay_74, dX0_passDay_75, dX0_passDay_76, fl_0_80_0, dX0_passDay_79, dX0_passDay_80, dX0_passDay_81, dX0_passDay_84, jX0_passDay_0_86, jX0_passDay_0_89, jX0_passDay_0_92, st_aload_n, st_bipush, st_dup, st_getfield, st_goto, st_iadd, st_iaload, st_iconst, st_if_icmp, st_iinc, st_iload_n, st_invokevirtual, st_istore_n, st_putfield, st_return]
      rw [cset_cset] at hp
      have hk' : K none (cset Γ (a, aw, ak, ad) (w, kp, kd, day + 1, gone, draw, P, rule, gd) σ) := hk
      rw [← hp] at hk'
      exact hk'
    | succ n ih =>
      intro j t ht hj hk
      obtain ⟨c1, c2, c3⟩ := lt4 (show j < 4 by omega)
      have hj1 := ih (j + 1) t ht (by omega) hk
      have hw' := (tN_wf ht j).1
      have hc' := hc.set (tN t j)
      rw [tN_s] at hj1
      generalize tN t j = s' at hc' hj1 hw' ⊢
      obtain ⟨w, kp, kd, day, gone, draw, P, rule, gd⟩ := s'
      have hc0 := hc'
      obtain ⟨⟨m1, m2, m3, m4⟩, e1, e2, e3, e4⟩ := hc'
      simp only [ColE, iA] at e1 e2 e3 e4 m1 m2 m3 m4
      refine yvc1_ok (uX0_passDay Γ) (S := [47]) 40 ?_
      simp only [yvc1, c1, c2, c3, m1, m3, e1, e3, nI_1, yvc_s, s1i, s2i, s1l, s2l, sil, s1r, sir, siir, slir, srir, svr, sd1, sd2, lg, lput, ldel, isL_i, isL_r, isL_l, jmp, obj, obj1, fI, fR, arI, arL, arR, hput, f4_0, f4_1, f4_2, f4_3, lc_0, lc_1, rok_i, rok_b, rok_y, strF, fput_1, fput_2, csum_nil, csum_i, csum_l, csum_r, va_up_self, bx_uu, Int.reduceAdd, List.elem_nil, List.elem_cons, List.take_succ_cons, List.take_zero, List.drop_succ_cons, List.drop_zero, List.take_nil, List.drop_nil, List.reverse_cons, List.reverse_nil, List.nil_append, List.cons_append, List.append_nil, Option.toList_some, Option.toList_none, List.getElem?_cons_zero, List.getElem?_cons_succ, List.set_cons_zero, List.set_cons_succ, List.length_cons, List.length_nil, reduceIte, reduceCtorEq, and_true, true_and, and_self, or_true, true_or, false_and, and_false, not_true_eq_false, not_false_eq_true, true_implies, false_implies, implies_true, Nat.reduceAdd, Nat.reduceLT, Nat.reduceEqDiff, Nat.reduceLeDiff, Nat.reduceBEq, Nat.zero_add, Nat.lt_add_one, Bool.false_eq_true, Bool.or_false, Bool.or_true, Bool.or_self, Nat.zero_ne_one, Nat.one_ne_zero, ite_true, ite_false, ne_eq, Nat.reduceSub, Nat.succ_eq_add_one, Nat.zero_lt_succ, Nat.add_one_ne_zero, false_or, or_false, mX0_passDay_c, mX0_passDay_n, mX0_passDay_r, mX0_passDay_l, dX0_passDay_0, ic_0, dX0_passDay_1, dX0_passDay_2, dX0_passDay_3, ic_4, dX0_passDay_4, tg_4_36, cnd2_ge, dX0_passDay_7, dX0_passDay_8, fl_0_59_0, dX0_passDay_11, dX0_passDay_12, dX0_passDay_13, bc_m4, dX0_passDay_15, tg_15_19, cnd2_eq, dX0_passDay_18, dX0_passDay_19, dX0_passDay_20, dX0_passDay_23, dX0_passDay_24, dX0_passDay_25, dX0_passDay_26, dX0_passDay_27, dX0_passDay_28, dX0_passDay_31, dX0_passDay_34, ic_1, dX0_passDay_37, tg_37_m35, dX0_passDay_40, dX0_passDay_41, dX0_passDay_42, fl_0_22_0, dX0_passDay_45, dX0_passDay_46, dX0_passDay_47, dX0_passDay_48, dX0_passDay_49, tg_49_25, dX0_passDay_52, dX0_passDay_53, dX0_passDay_56, dX0_passDay_57, dX0_passDay_58, dX0_passDay_60, tg_60_8, dX0_passDay_63, dX0_passDay_64, dX0_passDay_65, dX0_passDay_68, dX0_passDay_71, tg_71_m24, dX0_passDay_74, dX0_passDay_75, dX0_passDay_76, fl_0_80_0, dX0_passDay_79, dX0_passDay_80, dX0_passDay_81, dX0_passDay_84, jX0_passDay_0_86, jX0_passDay_0_89, jX0_passDay_0_92, st_aload_n, st_bipush, st_dup, st_getfield, st_goto, st_iadd, st_iaload, st_iconst, st_if_icmp, st_iinc, st_iload_n, st_invokevirtual, st_istore_n, st_putfield, st_return]
      refine ⟨fun c => ?_, fun c => ?_⟩
      · rw [t1, if_pos c] at hj1
        exact hj1
      · rw [t1, if_neg c] at hj1
        refine ⟨(a, aw, ak, ad), (w, kp, kd, day, gone, draw, P, rule, gd), j, rfl, by omega, hw', c, hc0, ?_⟩
        refine yvc_ok (uX0_passDay Γ) (S := [47]) 40 _ _ _ _ ?_
        simp only [nI_1, cset_cset, yvc_s, s1i, s2i, s1l, s2l, sil, s1r, sir, siir, slir, srir, svr, sd1, sd2, lg, lput, ldel, isL_i, isL_r, isL_l, jmp, obj, obj1, fI, fR, arI, arL, arR, hput, f4_0, f4_1, f4_2, f4_3, lc_0, lc_1, rok_i, rok_b, rok_y, strF, fput_1, fput_2, csum_nil, csum_i, csum_l, csum_r, va_up_self, bx_uu, Int.reduceAdd, List.elem_nil, List.elem_cons, List.take_succ_cons, List.take_zero, List.drop_succ_cons, List.drop_zero, List.take_nil, List.drop_nil, List.reverse_cons, List.reverse_nil, List.nil_append, List.cons_append, List.append_nil, Option.toList_some, Option.toList_none, List.getElem?_cons_zero, List.getElem?_cons_succ, List.set_cons_zero, List.set_cons_succ, List.length_cons, List.length_nil, reduceIte, reduceCtorEq, and_true, true_and, and_self, or_true, true_or, false_and, and_false, not_true_eq_false, not_false_eq_true, true_implies, false_implies, implies_true, Nat.reduceAdd, Nat.reduceLT, Nat.reduceEqDiff, Nat.reduceLeDiff, Nat.reduceBEq, Nat.zero_add, Nat.lt_add_one, Bool.false_eq_true, Bool.or_false, Bool.or_true, Bool.or_self, Nat.zero_ne_one, Nat.one_ne_zero, ite_true, ite_false, ne_eq, Nat.reduceSub, Nat.succ_eq_add_one, Nat.zero_lt_succ, Nat.add_one_ne_zero, false_or, or_false, mX0_passDay_c, mX0_passDay_n, mX0_passDay_r, mX0_passDay_l, dX0_passDay_0, ic_0, dX0_passDay_1, dX0_passDay_2, dX0_passDay_3, ic_4, dX0_passDay_4, tg_4_36, cnd2_ge, dX0_passDay_7, dX0_passDay_8, fl_0_59_0, dX0_passDay_11, dX0_passDay_12, dX0_passDay_13, bc_m4, dX0_passDay_15, tg_15_19, cnd2_eq, dX0_passDay_18, dX0_passDay_19, dX0_passDay_20, dX0_passDay_23, dX0_passDay_24, dX0_passDay_25, dX0_passDay_26, dX0_passDay_27, dX0_passDay_28, dX0_passDay_31, dX0_passDay_34, ic_1, dX0_passDay_37, tg_37_m35, dX0_passDay_40, dX0_passDay_41, dX0_passDay_42, fl_0_22_0, dX0_passDay_45, dX0_passDay_46, dX0_passDay_47, dX0_passDay_48, dX0_passDay_49, tg_49_25, dX0_passDay_52, dX0_passDay_53, dX0_passDay_56, dX0_passDay_57, dX0_passDay_58, dX0_passDay_60, tg_60_8, dX0_passDay_63, dX0_passDay_64, dX0_passDay_65, dX0_passDay_68, dX0_passDay_71, tg_71_m24, dX0_passDay_74, dX0_passDay_75, dX0_passDay_76, fl_0_80_0, dX0_passDay_79, dX0_passDay_80, dX0_passDay_81, dX0_passDay_84, jX0_passDay_0_86, jX0_passDay_0_89, jX0_passDay_0_92, st_aload_n, st_bipush, st_dup, st_getfield, st_goto, st_iadd, st_iaload, st_iconst, st_if_icmp, st_iinc, st_iload_n, st_invokevirtual, st_istore_n, st_putfield, st_return]
        exact hj1
  have loop1 : ∀ n j : Nat, j + n = 4 → YG Γ mX0_passDay K 2 [(0, .ref a), (1, .int (nI j))] [] (cset Γ (a, aw, ak, ad) (gN s j) σ) := by
    intro n
    induction n with
    | zero =>
      intro j hj
      obtain rfl : j = 4 := by omega
      have hl := loop2 4 0 (gd0 (gN s 4)) (gd0_wf (gN_wf hw 4)) rfl h
      have hc' := hc.set (gN s 4)
      rw [show tN (gd0 (gN s 4)) 0 = gd0 (gN s 4) from rfl] at hl
      generalize gN s 4 = s' at hc' hl ⊢
      obtain ⟨w, kp, kd, day, gone, draw, P, rule, gd⟩ := s'
      have hp := hc'.put (gd0 (w, kp, kd, day, gone, draw, P, rule, gd)) rfl rfl rfl
      obtain ⟨⟨m1, m2, m3, m4⟩, e1, e2, e3, e4⟩ := hc'
      simp only [ColE, iA] at e1 e2 e3 e4 m1 m2 m3 m4
      refine yvc1_ok (uX0_passDay Γ) (S := [2, 47]) 40 ?_
      simp only [yvc1, ge4, m1, e1, yvc_s, s1i, s2i, s1l, s2l, sil, s1r, sir, siir, slir, srir, svr, sd1, sd2, lg, lput, ldel, isL_i, isL_r, isL_l, jmp, obj, obj1, fI, fR, arI, arL, arR, hput, f4_0, f4_1, f4_2, f4_3, lc_0, lc_1, rok_i, rok_b, rok_y, strF, fput_1, fput_2, csum_nil, csum_i, csum_l, csum_r, va_up_self, bx_uu, Int.reduceAdd, List.elem_nil, List.elem_cons, List.take_succ_cons, List.take_zero, List.drop_succ_cons, List.drop_zero, List.take_nil, List.drop_nil, List.reverse_cons, List.reverse_nil, List.nil_append, List.cons_append, List.append_nil, Option.toList_some, Option.toList_none, List.getElem?_cons_zero, List.getElem?_cons_succ, List.set_cons_zero, List.set_cons_succ, List.length_cons, List.length_nil, reduceIte, reduceCtorEq, and_true, true_and, and_self, or_true, true_or, false_and, and_false, not_true_eq_false, not_false_eq_true, true_implies, false_implies, implies_true, Nat.reduceAdd, Nat.reduceLT, Nat.reduceEqDiff, Nat.reduceLeDiff, Nat.reduceBEq, Nat.zero_add, Nat.lt_add_one, Bool.false_eq_true, Bool.or_false, Bool.or_true, Bool.or_self, Nat.zero_ne_one, Nat.one_ne_zero, ite_true, ite_false, ne_eq, Nat.reduceSub, Nat.succ_eq_add_one, Nat.zero_lt_succ, Nat.add_one_ne_zero, false_or, or_false, mX0_passDay_c, mX0_passDay_n, mX0_passDay_r, mX0_passDay_l, dX0_passDay_0, ic_0, dX0_passDay_1, dX0_passDay_2, dX0_passDay_3, ic_4, dX0_passDay_4, tg_4_36, cnd2_ge, dX0_passDay_7, dX0_passDay_8, fl_0_59_0, dX0_passDay_11, dX0_passDay_12, dX0_passDay_13, bc_m4, dX0_passDay_15, tg_15_19, cnd2_eq, dX0_passDay_18, dX0_passDay_19, dX0_passDay_20, dX0_passDay_23, dX0_passDay_24, dX0_passDay_25, dX0_passDay_26, dX0_passDay_27, dX0_passDay_28, dX0_passDay_31, dX0_passDay_34, ic_1, dX0_passDay_37, tg_37_m35, dX0_passDay_40, dX0_passDay_41, dX0_passDay_42, fl_0_22_0, dX0_passDay_45, dX0_passDay_46, dX0_passDay_47, dX0_passDay_48, dX0_passDay_49, tg_49_25, dX0_passDay_52, dX0_passDay_53, dX0_passDay_56, dX0_passDay_57, dX0_passDay_58, dX0_passDay_60, tg_60_8, dX0_passDay_63, dX0_passDay_64, dX0_passDay_65, dX0_passDay_68, dX0_passDay_71, tg_71_m24, dX0_passDay_74, dX0_passDay_75, dX0_passDay_76, fl_0_80_0, dX0_passDay_79, dX0_passDay_80, dX0_passDay_81, dX0_passDay_84, jX0_passDay_0_86, jX0_passDay_0_89, jX0_passDay_0_92, st_aload_n, st_bipush, st_dup, st_getfield, st_goto, st_iadd, st_iaload, st_iconst, st_if_icmp, st_iinc, st_iload_n, st_invokevirtual, st_istore_n, st_putfield, st_return]
      rw [cset_cset] at hp
      rw [← hp] at hl
      exact hl
    | succ n ih =>
      intro j hj
      obtain ⟨c1, c2, c3⟩ := lt4 (show j < 4 by omega)
      have hj1 := ih (j + 1) (by omega)
      have hw' := gN_wf hw j
      have hc' := hc.set (gN s j)
      rw [gN_s] at hj1
      generalize gN s j = s' at hc' hj1 hw' ⊢
      obtain ⟨w, kp, kd, day, gone, draw, P, rule, gd⟩ := s'
      have hc0 := hc'
      obtain ⟨⟨m1, m2, m3, m4⟩, e1, e2, e3, e4⟩ := hc'
      simp only [ColE, iA] at e1 e2 e3 e4 m1 m2 m3 m4
      refine yvc1_ok (uX0_passDay Γ) (S := [2, 47]) 40 ?_
      simp only [yvc1, c1, c2, c3, m1, m3, e1, e3, nI_1, yvc_s, s1i, s2i, s1l, s2l, sil, s1r, sir, siir, slir, srir, svr, sd1, sd2, lg, lput, ldel, isL_i, isL_r, isL_l, jmp, obj, obj1, fI, fR, arI, arL, arR, hput, f4_0, f4_1, f4_2, f4_3, lc_0, lc_1, rok_i, rok_b, rok_y, strF, fput_1, fput_2, csum_nil, csum_i, csum_l, csum_r, va_up_self, bx_uu, Int.reduceAdd, List.elem_nil, List.elem_cons, List.take_succ_cons, List.take_zero, List.drop_succ_cons, List.drop_zero, List.take_nil, List.drop_nil, List.reverse_cons, List.reverse_nil, List.nil_append, List.cons_append, List.append_nil, Option.toList_some, Option.toList_none, List.getElem?_cons_zero, List.getElem?_cons_succ, List.set_cons_zero, List.set_cons_succ, List.length_cons, List.length_nil, reduceIte, reduceCtorEq, and_true, true_and, and_self, or_true, true_or, false_and, and_false, not_true_eq_false, not_false_eq_true, true_implies, false_implies, implies_true, Nat.reduceAdd, Nat.reduceLT, Nat.reduceEqDiff, Nat.reduceLeDiff, Nat.reduceBEq, Nat.zero_add, Nat.lt_add_one, Bool.false_eq_true, Bool.or_false, Bool.or_true, Bool.or_self, Nat.zero_ne_one, Nat.one_ne_zero, ite_true, ite_false, ne_eq, Nat.reduceSub, Nat.succ_eq_add_one, Nat.zero_lt_succ, Nat.add_one_ne_zero, false_or, or_false, mX0_passDay_c, mX0_passDay_n, mX0_passDay_r, mX0_passDay_l, dX0_passDay_0, ic_0, dX0_passDay_1, dX0_passDay_2, dX0_passDay_3, ic_4, dX0_passDay_4, tg_4_36, cnd2_ge, dX0_passDay_7, dX0_passDay_8, fl_0_59_0, dX0_passDay_11, dX0_passDay_12, dX0_passDay_13, bc_m4, dX0_passDay_15, tg_15_19, cnd2_eq, dX0_passDay_18, dX0_passDay_19, dX0_passDay_20, dX0_passDay_23, dX0_passDay_24, dX0_passDay_25, dX0_passDay_26, dX0_passDay_27, dX0_passDay_28, dX0_passDay_31, dX0_passDay_34, ic_1, dX0_passDay_37, tg_37_m35, dX0_passDay_40, dX0_passDay_41, dX0_passDay_42, fl_0_22_0, dX0_passDay_45, dX0_passDay_46, dX0_passDay_47, dX0_passDay_48, dX0_passDay_49, tg_49_25, dX0_passDay_52, dX0_passDay_53, dX0_passDay_56, dX0_passDay_57, dX0_passDay_58, dX0_passDay_60, tg_60_8, dX0_passDay_63, dX0_passDay_64, dX0_passDay_65, dX0_passDay_68, dX0_passDay_71, tg_71_m24, dX0_passDay_74, dX0_passDay_75, dX0_passDay_76, fl_0_80_0, dX0_passDay_79, dX0_passDay_80, dX0_passDay_81, dX0_passDay_84, jX0_passDay_0_86, jX0_passDay_0_89, jX0_passDay_0_92, st_aload_n, st_bipush, st_dup, st_getfield, st_goto, st_iadd, st_iaload, st_iconst, st_if_icmp, st_iinc, st_iload_n, st_invokevirtual, st_istore_n, st_putfield, st_return]
      refine ⟨fun c => ?_, fun c => ?_⟩
      · rw [g1, if_pos c] at hj1
        exact hj1
      · rw [g1, if_neg c] at hj1
        rcases hw'.2 j (by omega) with h0 | ⟨q, hq, h0⟩
        · exact absurd h0 c
        simp only at h0 hq
        have hP := hw'.1
        simp only at hP
        refine ⟨(a, aw, ak, ad), (w, kp, kd, day, gone, draw, P, rule, gd), j, rfl, by omega, hw', hc0, ?_⟩
        refine yvc_ok (uX0_passDay Γ) (S := [2, 47]) 40 _ _ _ _ ?_
        simp only [yvc_s, s1i, s2i, s1l, s2l, sil, s1r, sir, siir, slir, srir, svr, sd1, sd2, lg, lput, ldel, isL_i, isL_r, isL_l, jmp, obj, obj1, fI, fR, arI, arL, arR, hput, f4_0, f4_1, f4_2, f4_3, lc_0, lc_1, rok_i, rok_b, rok_y, strF, fput_1, fput_2, csum_nil, csum_i, csum_l, csum_r, va_up_self, bx_uu, Int.reduceAdd, List.elem_nil, List.elem_cons, List.take_succ_cons, List.take_zero, List.drop_succ_cons, List.drop_zero, List.take_nil, List.drop_nil, List.reverse_cons, List.reverse_nil, List.nil_append, List.cons_append, List.append_nil, Option.toList_some, Option.toList_none, List.getElem?_cons_zero, List.getElem?_cons_succ, List.set_cons_zero, List.set_cons_succ, List.length_cons, List.length_nil, reduceIte, reduceCtorEq, and_true, true_and, and_self, or_true, true_or, false_and, and_false, not_true_eq_false, not_false_eq_true, true_implies, false_implies, implies_true, Nat.reduceAdd, Nat.reduceLT, Nat.reduceEqDiff, Nat.reduceLeDiff, Nat.reduceBEq, Nat.zero_add, Nat.lt_add_one, Bool.false_eq_true, Bool.or_false, Bool.or_true, Bool.or_self, Nat.zero_ne_one, Nat.one_ne_zero, ite_true, ite_false, ne_eq, Nat.reduceSub, Nat.succ_eq_add_one, Nat.zero_lt_succ, Nat.add_one_ne_zero, false_or, or_false, mX0_passDay_c, mX0_passDay_n, mX0_passDay_r, mX0_passDay_l, dX0_passDay_0, ic_0, dX0_passDay_1, dX0_passDay_2, dX0_passDay_3, ic_4, dX0_passDay_4, tg_4_36, cnd2_ge, dX0_passDay_7, dX0_passDay_8, fl_0_59_0, dX0_passDay_11, dX0_passDay_12, dX0_passDay_13, bc_m4, dX0_passDay_15, tg_15_19, cnd2_eq, dX0_passDay_18, dX0_passDay_19, dX0_passDay_20, dX0_passDay_23, dX0_passDay_24, dX0_passDay_25, dX0_passDay_26, dX0_passDay_27, dX0_passDay_28, dX0_passDay_31, dX0_passDay_34, ic_1, dX0_passDay_37, tg_37_m35, dX0_passDay_40, dX0_passDay_41, dX0_passDay_42, fl_0_22_0, dX0_passDay_45, dX0_passDay_46, dX0_passDay_47, dX0_passDay_48, dX0_passDay_49, tg_49_25, dX0_passDay_52, dX0_passDay_53, dX0_passDay_56, dX0_passDay_57, dX0_passDay_58, dX0_passDay_60, tg_60_8, dX0_passDay_63, dX0_passDay_64, dX0_passDay_65, dX0_passDay_68, dX0_passDay_71, tg_71_m24, dX0_passDay_74, dX0_passDay_75, dX0_passDay_76, fl_0_80_0, dX0_passDay_79, dX0_passDay_80, dX0_passDay_81, dX0_passDay_84, jX0_passDay_0_86, jX0_passDay_0_89, jX0_passDay_0_92, st_aload_n, st_bipush, st_dup, st_getfield, st_goto, st_iadd, st_iaload, st_iconst, st_if_icmp, st_iinc, st_iload_n, st_invokevirtual, st_istore_n, st_putfield, st_return]
        refine ⟨(a, aw, ak, ad), (w, kp, kd, day, gone, draw, P, rule, gd), _, _, _, rfl, hc0, ix_in' (show q < 5 by omega) (by omega) h0, ?_⟩
        refine yvc_ok (uX0_passDay Γ) (S := [2, 47]) 40 _ _ _ _ ?_
        simp only [nI_1, cset_cset, yvc_s, s1i, s2i, s1l, s2l, sil, s1r, sir, siir, slir, srir, svr, sd1, sd2, lg, lput, ldel, isL_i, isL_r, isL_l, jmp, obj, obj1, fI, fR, arI, arL, arR, hput, f4_0, f4_1, f4_2, f4_3, lc_0, lc_1, rok_i, rok_b, rok_y, strF, fput_1, fput_2, csum_nil, csum_i, csum_l, csum_r, va_up_self, bx_uu, Int.reduceAdd, List.elem_nil, List.elem_cons, List.take_succ_cons, List.take_zero, List.drop_succ_cons, List.drop_zero, List.take_nil, List.drop_nil, List.reverse_cons, List.reverse_nil, List.nil_append, List.cons_append, List.append_nil, Option.toList_some, Option.toList_none, List.getElem?_cons_zero, List.getElem?_cons_succ, List.set_cons_zero, List.set_cons_succ, List.length_cons, List.length_nil, reduceIte, reduceCtorEq, and_true, true_and, and_self, or_true, true_or, false_and, and_false, not_true_eq_false, not_false_eq_true, true_implies, false_implies, implies_true, Nat.reduceAdd, Nat.reduceLT, Nat.reduceEqDiff, Nat.reduceLeDiff, Nat.reduceBEq, Nat.zero_add, Nat.lt_add_one, Bool.false_eq_true, Bool.or_false, Bool.or_true, Bool.or_self, Nat.zero_ne_one, Nat.one_ne_zero, ite_true, ite_false, ne_eq, Nat.reduceSub, Nat.succ_eq_add_one, Nat.zero_lt_succ, Nat.add_one_ne_zero, false_or, or_false, mX0_passDay_c, mX0_passDay_n, mX0_passDay_r, mX0_passDay_l, dX0_passDay_0, ic_0, dX0_passDay_1, dX0_passDay_2, dX0_passDay_3, ic_4, dX0_passDay_4, tg_4_36, cnd2_ge, dX0_passDay_7, dX0_passDay_8, fl_0_59_0, dX0_passDay_11, dX0_passDay_12, dX0_passDay_13, bc_m4, dX0_passDay_15, tg_15_19, cnd2_eq, dX0_passDay_18, dX0_passDay_19, dX0_passDay_20, dX0_passDay_23, dX0_passDay_24, dX0_passDay_25, dX0_passDay_26, dX0_passDay_27, dX0_passDay_28, dX0_passDay_31, dX0_passDay_34, ic_1, dX0_passDay_37, tg_37_m35, dX0_passDay_40, dX0_passDay_41, dX0_passDay_42, fl_0_22_0, dX0_passDay_45, dX0_passDay_46, dX0_passDay_47, dX0_passDay_48, dX0_passDay_49, tg_49_25, dX0_passDay_52, dX0_passDay_53, dX0_passDay_56, dX0_passDay_57, dX0_passDay_58, dX0_passDay_60, tg_60_8, dX0_passDay_63, dX0_passDay_64, dX0_passDay_65, dX0_passDay_68, dX0_passDay_71, tg_71_m24, dX0_passDay_74, dX0_passDay_75, dX0_passDay_76, fl_0_80_0, dX0_passDay_79, dX0_passDay_80, dX0_passDay_81, dX0_passDay_84, jX0_passDay_0_86, jX0_passDay_0_89, jX0_passDay_0_92, st_aload_n, st_bipush, st_dup, st_getfield, st_goto, st_iadd, st_iaload, st_iconst, st_if_icmp, st_iinc, st_iload_n, st_invokevirtual, st_istore_n, st_putfield, st_return]
        exact hj1
  refine ⟨Nat.le_of_ble_eq_true rfl, yvc_ok (uX0_passDay Γ) (S := [2]) 40 _ _ _ _ ?_⟩
  simp only [lv_args, Value.category, yvc_s, s1i, s2i, s1l, s2l, sil, s1r, sir, siir, slir, srir, svr, sd1, sd2, lg, lput, ldel, isL_i, isL_r, isL_l, jmp, obj, obj1, fI, fR, arI, arL, arR, hput, f4_0, f4_1, f4_2, f4_3, lc_0, lc_1, rok_i, rok_b, rok_y, strF, fput_1, fput_2, csum_nil, csum_i, csum_l, csum_r, va_up_self, bx_uu, Int.reduceAdd, List.elem_nil, List.elem_cons, List.take_succ_cons, List.take_zero, List.drop_succ_cons, List.drop_zero, List.take_nil, List.drop_nil, List.reverse_cons, List.reverse_nil, List.nil_append, List.cons_append, List.append_nil, Option.toList_some, Option.toList_none, List.getElem?_cons_zero, List.getElem?_cons_succ, List.set_cons_zero, List.set_cons_succ, List.length_cons, List.length_nil, reduceIte, reduceCtorEq, and_true, true_and, and_self, or_true, true_or, false_and, and_false, not_true_eq_false, not_false_eq_true, true_implies, false_implies, implies_true, Nat.reduceAdd, Nat.reduceLT, Nat.reduceEqDiff, Nat.reduceLeDiff, Nat.reduceBEq, Nat.zero_add, Nat.lt_add_one, Bool.false_eq_true, Bool.or_false, Bool.or_true, Bool.or_self, Nat.zero_ne_one, Nat.one_ne_zero, ite_true, ite_false, ne_eq, Nat.reduceSub, Nat.succ_eq_add_one, Nat.zero_lt_succ, Nat.add_one_ne_zero, false_or, or_false, mX0_passDay_c, mX0_passDay_n, mX0_passDay_r, mX0_passDay_l, dX0_passDay_0, ic_0, dX0_passDay_1, dX0_passDay_2, dX0_passDay_3, ic_4, dX0_passDay_4, tg_4_36, cnd2_ge, dX0_passDay_7, dX0_passDay_8, fl_0_59_0, dX0_passDay_11, dX0_passDay_12, dX0_passDay_13, bc_m4, dX0_passDay_15, tg_15_19, cnd2_eq, dX0_passDay_18, dX0_passDay_19, dX0_passDay_20, dX0_passDay_23, dX0_passDay_24, dX0_passDay_25, dX0_passDay_26, dX0_passDay_27, dX0_passDay_28, dX0_passDay_31, dX0_passDay_34, ic_1, dX0_passDay_37, tg_37_m35, dX0_passDay_40, dX0_passDay_41, dX0_passDay_42, fl_0_22_0, dX0_passDay_45, dX0_passDay_46, dX0_passDay_47, dX0_passDay_48, dX0_passDay_49, tg_49_25, dX0_passDay_52, dX0_passDay_53, dX0_passDay_56, dX0_passDay_57, dX0_passDay_58, dX0_passDay_60, tg_60_8, dX0_passDay_63, dX0_passDay_64, dX0_passDay_65, dX0_passDay_68, dX0_passDay_71, tg_71_m24, dX0_passDay_74, dX0_passDay_75, dX0_passDay_76, fl_0_80_0, dX0_passDay_79, dX0_passDay_80, dX0_passDay_81, dX0_passDay_84, jX0_passDay_0_86, jX0_passDay_0_89, jX0_passDay_0_92, st_aload_n, st_bipush, st_dup, st_getfield, st_goto, st_iadd, st_iaload, st_iconst, st_if_icmp, st_iinc, st_iload_n, st_invokevirtual, st_istore_n, st_putfield, st_return]
  have hl := loop1 4 0 rfl
  rw [show gN s 0 = s from rfl, hc.self] at hl
  exact hl
def sp_X0_passDays (Γ : Cx) : YSp := fun av σ K => ∃ (A : CA) (s : CS) (n : Nat), av = [.ref A.1, .int (nI n)] ∧ n < 100 ∧ WfC s ∧ Col Γ A s σ ∧ K none (cset Γ A (daysC s n) σ)
theorem rv_X0_passDays {Γ : Cx} : Recv (sp_X0_passDays Γ) 1 0 := by
  intro av σ K h
  obtain ⟨A, s, n, rfl, -, -, hc, -⟩ := h
  obtain ⟨fs, h1, h2⟩ := col_rv hc
  exact ⟨_, _, fs, rfl, rfl, h1, h2⟩
theorem ltN {j n : Nat} (h : j < n) (hn : n < 100) : ¬ nI n ≤ nI j := nI_ge h (by omega)
theorem bw_517 : Cond.code yX0_passDay cX0_passDay 2 none ∈ BW := bw_i 517 (by decide +kernel) (by decide +kernel)
theorem no_X0_passDay : NameOK yX0_passDay 0 := by unfold NameOK; decide +kernel
theorem bw_561 : Cond.methodLink RX0 83 yX0_passDay ∈ BW := bw_i 561 (by decide +kernel) (by decide +kernel)
theorem bw_515 : Cond.instanceMethod yX0_passDay ∈ BW := bw_i 515 (by decide +kernel) (by decide +kernel)
theorem bw_516 : Cond.selects RX0 yX0_passDay yX0_passDay ∈ BW := bw_i 516 (by decide +kernel) (by decide +kernel)
theorem tg_4_13 : tgo 4 13 = some 17 := by decide
theorem tg_14_m12 : tgo 14 (-12) = some 2 := by decide
def mX0_passDays : Mt := (⟨4, 0, 0, 90⟩, RX0, cX0_passDays, 3, none, (0, 0), none)
theorem mX0_passDays_c : mX0_passDays.2.2.1 = cX0_passDays := rfl
theorem mX0_passDays_n : mX0_passDays.2.2.2.1 = 3 := rfl
theorem mX0_passDays_r : mX0_passDays.2.2.2.2.1 = none := rfl
theorem mX0_passDays_l : mX0_passDays.2.2.2.2.2.2 = none := rfl
def jX0_passDays (Γ : Cx) : List ((Nat × Nat) × Nat × Bool × YSp) := [((0, 83), 1, false, sp_X0_passDay Γ)]
theorem jX0_passDays_0_83 (Γ : Cx) : kT (jX0_passDays Γ) 0 83 = some (1, false, sp_X0_passDay Γ) := rfl
theorem uX0_passDays (Γ : Cx) : TbOK Γ mX0_passDays (fT fX0, cT kX0, kT (jX0_passDays Γ)) := tb_ok fX0_ok kX0_ok (all_cons ⟨call_V (n := 0) (T := TX0) (N := 9) (ok_X0_passDay Γ) (rv_X0_passDay (Γ := Γ)) rfl bw_517 bw_561 bw_515 bw_516 bw_44 no_X0_passDay ⟨⟨rfl, rfl⟩, ⟨by decide, by decide⟩, ⟨by decide, by decide⟩⟩, fun z => by cases z⟩ (all_nil))
set_option maxRecDepth 20000 in
theorem ok_X0_passDays (Γ : Cx) : Ok Γ yX0_passDays mX0_passDays (sp_X0_passDays Γ) := by
  refine ok_intro (by decide +kernel) rfl rfl ?_
  intro av σ K h
  obtain ⟨⟨a, aw, ak, ad⟩, s, N, rfl, hN, hw, hc, h⟩ := h
  have loop : ∀ n j : Nat, j + n = N → YG Γ mX0_passDays K 2 [(0, .ref a), (1, .int (nI N)), (2, .int (nI j))] [] (cset Γ (a, aw, ak, ad) (daysC s j) σ) := by
    intro n
    induction n with
    | zero =>
      intro j hj
      obtain rfl : j = N := by omega
      refine yvc1_ok (uX0_passDays Γ) (S := [2]) 40 ?_
      simp only [yvc1, geP, yvc_s, s1i, s2i, s1l, s2l, sil, s1r, sir, siir, slir, srir, svr, sd1, sd2, lg, lput, ldel, isL_i, isL_r, isL_l, jmp, obj, obj1, fI, fR, arI, arL, arR, hput, f4_0, f4_1, f4_2, f4_3, lc_0, lc_1, rok_i, rok_b, rok_y, strF, fput_1, fput_2, csum_nil, csum_i, csum_l, csum_r, va_up_self, bx_uu, Int.reduceAdd, List.elem_nil, List.elem_cons, List.take_succ_cons, List.take_zero, List.drop_succ_cons, List.drop_zero, List.take_nil, List.drop_nil, List.reverse_cons, List.reverse_nil, List.nil_append, List.cons_append, List.append_nil, Option.toList_some, Option.toList_none, List.getElem?_cons_zero, List.getElem?_cons_succ, List.set_cons_zero, List.set_cons_succ, List.length_cons, List.length_nil, reduceIte, reduceCtorEq, and_true, true_and, and_self, or_true, true_or, false_and, and_false, not_true_eq_false, not_false_eq_true, true_implies, false_implies, implies_true, Nat.reduceAdd, Nat.reduceLT, Nat.reduceEqDiff, Nat.reduceLeDiff, Nat.reduceBEq, Nat.zero_add, Nat.lt_add_one, Bool.false_eq_true, Bool.or_false, Bool.or_true, Bool.or_self, Nat.zero_ne_one, Nat.one_ne_zero, ite_true, ite_false, ne_eq, Nat.reduceSub, Nat.succ_eq_add_one, Nat.zero_lt_succ, Nat.add_one_ne_zero, false_or, or_false, mX0_passDays_c, mX0_passDays_n, mX0_passDays_r, mX0_passDays_l, dX0_passDays_0, ic_0, dX0_passDays_1, dX0_passDays_2, dX0_passDays_3, dX0_passDays_4, tg_4_13, cnd2_ge, dX0_passDays_7, dX0_passDays_8, dX0_passDays_11, ic_1, dX0_passDays_14, tg_14_m12, dX0_passDays_17, jX0_passDays_0_83, st_aload_n, st_goto, st_iconst, st_if_icmp, st_iinc, st_iload_n, st_invokevirtual, st_istore_n, st_return]
      exact h
    | succ n ih =>
      intro j hj
      have c1 := ltN (show j < N by omega) hN
      have hj1 := ih (j + 1) (by omega)
      rw [daysC] at hj1
      have hw' := (daysC_wf hw j).1
      have hc' := hc.set (daysC s j)
      generalize daysC s j = s' at hc' hw' hj1 ⊢
      refine yvc1_ok (uX0_passDays Γ) (S := [2]) 40 ?_
      simp only [yvc1, c1, yvc_s, s1i, s2i, s1l, s2l, sil, s1r, sir, siir, slir, srir, svr, sd1, sd2, lg, lput, ldel, isL_i, isL_r, isL_l, jmp, obj, obj1, fI, fR, arI, arL, arR, hput, f4_0, f4_1, f4_2, f4_3, lc_0, lc_1, rok_i, rok_b, rok_y, strF, fput_1, fput_2, csum_nil, csum_i, csum_l, csum_r, va_up_self, bx_uu, Int.reduceAdd, List.elem_nil, List.elem_cons, List.take_succ_cons, List.take_zero, List.drop_succ_cons, List.drop_zero, List.take_nil, List.drop_nil, List.reverse_cons, List.reverse_nil, List.nil_append, List.cons_append, List.append_nil, Option.toList_some, Option.toList_none, List.getElem?_cons_zero, List.getElem?_cons_succ, List.set_cons_zero, List.set_cons_succ, List.length_cons, List.length_nil, reduceIte, reduceCtorEq, and_true, true_and, and_self, or_true, true_or, false_and, and_false, not_true_eq_false, not_false_eq_true, true_implies, false_implies, implies_true, Nat.reduceAdd, Nat.reduceLT, Nat.reduceEqDiff, Nat.reduceLeDiff, Nat.reduceBEq, Nat.zero_add, Nat.lt_add_one, Bool.false_eq_true, Bool.or_false, Bool.or_true, Bool.or_self, Nat.zero_ne_one, Nat.one_ne_zero, ite_true, ite_false, ne_eq, Nat.reduceSub, Nat.succ_eq_add_one, Nat.zero_lt_succ, Nat.add_one_ne_zero, false_or, or_false, mX0_passDays_c, mX0_passDays_n, mX0_passDays_r, mX0_passDays_l, dX0_passDays_0, ic_0, dX0_passDays_1, dX0_passDays_2, dX0_passDays_3, dX0_passDays_4, tg_4_13, cnd2_ge, dX0_passDays_7, dX0_passDays_8, dX0_passDays_11, ic_1, dX0_passDays_14, tg_14_m12, dX0_passDays_17, jX0_passDays_0_83, st_aload_n, st_goto, st_iconst, st_if_icmp, st_iinc, st_iload_n, st_invokevirtual, st_istore_n, st_return]
      refine ⟨(a, aw, ak, ad), s', rfl, hw', hc', ?_⟩
      refine yvc_ok (uX0_passDays Γ) (S := [2]) 40 _ _ _ _ ?_
      simp only [nI_1, cset_cset, yvc_s, s1i, s2i, s1l, s2l, sil, s1r, sir, siir, slir, srir, svr, sd1, sd2, lg, lput, ldel, isL_i, isL_r, isL_l, jmp, obj, obj1, fI, fR, arI, arL, arR, hput, f4_0, f4_1, f4_2, f4_3, lc_0, lc_1, rok_i, rok_b, rok_y, strF, fput_1, fput_2, csum_nil, csum_i, csum_l, csum_r, va_up_self, bx_uu, Int.reduceAdd, List.elem_nil, List.elem_cons, List.take_succ_cons, List.take_zero, List.drop_succ_cons, List.drop_zero, List.take_nil, List.drop_nil, List.reverse_cons, List.reverse_nil, List.nil_append, List.cons_append, List.append_nil, Option.toList_some, Option.toList_none, List.getElem?_cons_zero, List.getElem?_cons_succ, List.set_cons_zero, List.set_cons_succ, List.length_cons, List.length_nil, reduceIte, reduceCtorEq, and_true, true_and, and_self, or_true, true_or, false_and, and_false, not_true_eq_false, not_false_eq_true, true_implies, false_implies, implies_true, Nat.reduceAdd, Nat.reduceLT, Nat.reduceEqDiff, Nat.reduceLeDiff, Nat.reduceBEq, Nat.zero_add, Nat.lt_add_one, Bool.false_eq_true, Bool.or_false, Bool.or_true, Bool.or_self, Nat.zero_ne_one, Nat.one_ne_zero, ite_true, ite_false, ne_eq, Nat.reduceSub, Nat.succ_eq_add_one, Nat.zero_lt_succ, Nat.add_one_ne_zero, false_or, or_false, mX0_passDays_c, mX0_passDays_n, mX0_passDays_r, mX0_passDays_l, dX0_passDays_0, ic_0, dX0_passDays_1, dX0_passDays_2, dX0_passDays_3, dX0_passDays_4, tg_4_13, cnd2_ge, dX0_passDays_7, dX0_passDays_8, dX0_passDays_11, ic_1, dX0_passDays_14, tg_14_m12, dX0_passDays_17, jX0_passDays_0_83, st_aload_n, st_goto, st_iconst, st_if_icmp, st_iinc, st_iload_n, st_invokevirtual, st_istore_n, st_return]
      exact hj1
  refine ⟨Nat.le_of_ble_eq_true rfl, yvc_ok (uX0_passDays Γ) (S := [2]) 40 _ _ _ _ ?_⟩
  simp only [lv_args, Value.category, yvc_s, s1i, s2i, s1l, s2l, sil, s1r, sir, siir, slir, srir, svr, sd1, sd2, lg, lput, ldel, isL_i, isL_r, isL_l, jmp, obj, obj1, fI, fR, arI, arL, arR, hput, f4_0, f4_1, f4_2, f4_3, lc_0, lc_1, rok_i, rok_b, rok_y, strF, fput_1, fput_2, csum_nil, csum_i, csum_l, csum_r, va_up_self, bx_uu, Int.reduceAdd, List.elem_nil, List.elem_cons, List.take_succ_cons, List.take_zero, List.drop_succ_cons, List.drop_zero, List.take_nil, List.drop_nil, List.reverse_cons, List.reverse_nil, List.nil_append, List.cons_append, List.append_nil, Option.toList_some, Option.toList_none, List.getElem?_cons_zero, List.getElem?_cons_succ, List.set_cons_zero, List.set_cons_succ, List.length_cons, List.length_nil, reduceIte, reduceCtorEq, and_true, true_and, and_self, or_true, true_or, false_and, and_false, not_true_eq_false, not_false_eq_true, true_implies, false_implies, implies_true, Nat.reduceAdd, Nat.reduceLT, Nat.reduceEqDiff, Nat.reduceLeDiff, Nat.reduceBEq, Nat.zero_add, Nat.lt_add_one, Bool.false_eq_true, Bool.or_false, Bool.or_true, Bool.or_self, Nat.zero_ne_one, Nat.one_ne_zero, ite_true, ite_false, ne_eq, Nat.reduceSub, Nat.succ_eq_add_one, Nat.zero_lt_succ, Nat.add_one_ne_zero, false_or, or_false, mX0_passDays_c, mX0_passDays_n, mX0_passDays_r, mX0_passDays_l, dX0_passDays_0, ic_0, dX0_passDays_1, dX0_passDays_2, dX0_passDays_3, dX0_passDays_4, tg_4_13, cnd2_ge, dX0_passDays_7, dX0_passDays_8, dX0_passDays_11, ic_1, dX0_passDays_14, tg_14_m12, dX0_passDays_17, jX0_passDays_0_83, st_aload_n, st_goto, st_iconst, st_if_icmp, st_iinc, st_iload_n, st_invokevirtual, st_istore_n, st_return]
  have hl := loop N 0 (by omega)
  rw [show daysC s 0 = s from rfl, hc.self] at hl
  exact hl
def gbit (g d : Int32) : Bool := !decide ((g >>> (d &&& 31)) &&& 1 = 0)
def sp_X0_wasGone (_ : Cx) : YSp := fun av σ K => match av with | [.ref a, .int d] => obj1 σ a 0 fun fs => fI fs 8 fun g => K (some (.int (bI (gbit g d)))) σ | _ => False
theorem mono_X0_wasGone {Γ : Cx} : Mono (sp_X0_wasGone Γ) := by
  intro av σ K K' hk h
  unfold sp_X0_wasGone at h ⊢
  split at h
  · exact obj1_mono (fun _ h => fI_mono (fun _ h => hk _ _ h) h) h
  · exact h.elim
theorem rv_X0_wasGone {Γ : Cx} : Recv (sp_X0_wasGone Γ) 1 0 := by
  intro av σ K h
  unfold sp_X0_wasGone at h
  split at h
  · obtain ⟨fs, h1, h2, -⟩ := obj1_recv h
    exact ⟨_, _, fs, rfl, rfl, h1, h2⟩
  · exact h.elim
theorem tg_12_4 : tgo 12 4 = some 16 := by decide
def mX0_wasGone : Mt := (⟨0, 0, 0, 0⟩, RX0, cX0_wasGone, 2, some .boolean, (0, 0), none)
theorem mX0_wasGone_c : mX0_wasGone.2.2.1 = cX0_wasGone := rfl
theorem mX0_wasGone_n : mX0_wasGone.2.2.2.1 = 2 := rfl
theorem mX0_wasGone_r : mX0_wasGone.2.2.2.2.1 = some .boolean := rfl
theorem mX0_wasGone_l : mX0_wasGone.2.2.2.2.2.2 = none := rfl
def jX0_wasGone (Γ : Cx) : List ((Nat × Nat) × Nat × Bool × YSp) := []
theorem uX0_wasGone (Γ : Cx) : TbOK Γ mX0_wasGone (fT fX0, cT kX0, kT (jX0_wasGone Γ)) := tb_ok fX0_ok kX0_ok (all_nil)
set_option maxRecDepth 20000 in
theorem ok_X0_wasGone (Γ : Cx) : Ok Γ yX0_wasGone mX0_wasGone (sp_X0_wasGone Γ) := by
  refine ok_intro (by decide +kernel) rfl rfl ?_
  intro av σ K h
  unfold sp_X0_wasGone at h
  split at h
  · next a d =>
    obtain ⟨fs, h1, h2, h⟩ := obj1_recv h
    obtain ⟨g, h3, h⟩ := fI_recv h
    refine ⟨Nat.le_of_ble_eq_true rfl, yvc_ok (uX0_wasGone Γ) (S := []) 40 _ _ _ _ ?_⟩
    simp only [lv_args, Value.category, h1, h2, h3, yvc_s, s1i, s2i, s1l, s2l, sil, s1r, sir, siir, slir, srir, svr, sd1, sd2, lg, lput, ldel, isL_i, isL_r, isL_l, jmp, obj, obj1, fI, fR, arI, arL, arR, hput, f4_0, f4_1, f4_2, f4_3, lc_0, lc_1, rok_i, rok_b, rok_y, strF, fput_1, fput_2, csum_nil, csum_i, csum_l, csum_r, va_up_self, bx_uu, Int.reduceAdd, List.elem_nil, List.elem_cons, List.take_succ_cons, List.take_zero, List.drop_succ_cons, List.drop_zero, List.take_nil, List.drop_nil, List.reverse_cons, List.reverse_nil, List.nil_append, List.cons_append, List.append_nil, Option.toList_some, Option.toList_none, List.getElem?_cons_zero, List.getElem?_cons_succ, List.set_cons_zero, List.set_cons_succ, List.length_cons, List.length_nil, reduceIte, reduceCtorEq, and_true, true_and, and_self, or_true, true_or, false_and, and_false, not_true_eq_false, not_false_eq_true, true_implies, false_implies, implies_true, Nat.reduceAdd, Nat.reduceLT, Nat.reduceEqDiff, Nat.reduceLeDiff, Nat.reduceBEq, Nat.zero_add, Nat.lt_add_one, Bool.false_eq_true, Bool.or_false, Bool.or_true, Bool.or_self, Nat.zero_ne_one, Nat.one_ne_zero, ite_true, ite_false, ne_eq, Nat.reduceSub, Nat.succ_eq_add_one, Nat.zero_lt_succ, Nat.add_one_ne_zero, false_or, or_false, mX0_wasGone_c, mX0_wasGone_n, mX0_wasGone_r, mX0_wasGone_l, dX0_wasGone_0, dX0_wasGone_1, fl_0_22_0, dX0_wasGone_4, dX0_wasGone_5, dX0_wasGone_6, ic_1, dX0_wasGone_7, dX0_wasGone_8, tg_8_7, cnd1_eq, dX0_wasGone_11, dX0_wasGone_12, tg_12_4, dX0_wasGone_15, ic_0, dX0_wasGone_16, st_aload_n, st_getfield, st_goto, st_iand, st_iconst, st_ifCond, st_iload_n, st_ireturn, st_ishr]
    refine ⟨fun c => ?_, fun c => ?_⟩
    · rw [show gbit g d = false by simp [gbit, c]] at h
      exact h
    · rw [show gbit g d = true by simp [gbit, c]] at h
      exact h
  · exact h.elim
def fgC (d : Int32) : Nat → Nat → CS → Int32 × CS
  | 0, _, s => (-4, s)
  | n + 1, i, s => if gbit (dayC s).2.2.2.2.2.2.2.2 d = true then (nI i, dayC s) else fgC d n (i + 1) (dayC s)
def sp_X0_firstGone (Γ : Cx) : YSp := fun av σ K => ∃ (A : CA) (s : CS) (d : Int32) (n : Nat), av = [.ref A.1, .int d, .int (nI n)] ∧ n < 100 ∧ WfC s ∧ Col Γ A s σ ∧ K (some (.int (fgC d n 1 s).1)) (cset Γ A (fgC d n 1 s).2 σ)
theorem rv_X0_firstGone {Γ : Cx} : Recv (sp_X0_firstGone Γ) 2 0 := by
  intro av σ K h
  obtain ⟨A, s, d, n, rfl, -, -, hc, -⟩ := h
  obtain ⟨fs, h1, h2⟩ := col_rv hc
  exact ⟨_, _, fs, rfl, rfl, h1, h2⟩
theorem gtN {j n : Nat} (h : j < n) (hn : n < 101) : nI j < nI n := nI_lt h (by omega)
theorem ngtN {j n : Nat} (h : j ≤ n) (hn : n < 101) : ¬ nI n < nI j := nI_nlt h (by omega)
theorem bw_581 : Cond.code yX0_wasGone cX0_wasGone 2 (some .boolean) ∈ BW := bw_i 581 (by decide +kernel) (by decide +kernel)
theorem no_X0_wasGone : NameOK yX0_wasGone 1 := by unfold NameOK; decide +kernel
theorem bw_578 : Cond.methodLink RX0 102 yX0_wasGone ∈ BW := bw_i 578 (by decide +kernel) (by decide +kernel)
theorem bw_579 : Cond.instanceMethod yX0_wasGone ∈ BW := bw_i 579 (by decide +kernel) (by decide +kernel)
theorem bw_580 : Cond.selects RX0 yX0_wasGone yX0_wasGone ∈ BW := bw_i 580 (by decide +kernel) (by decide +kernel)
theorem tg_4_23 : tgo 4 23 = some 27 := by decide
theorem tg_16_5 : tgo 16 5 = some 21 := by decide
theorem tg_24_m22 : tgo 24 (-22) = some 2 := by decide
def mX0_firstGone : Mt := (⟨4, 0, 0, 90⟩, RX0, cX0_firstGone, 4, some .int, (0, 0), none)
theorem mX0_firstGone_c : mX0_firstGone.2.2.1 = cX0_firstGone := rfl
theorem mX0_firstGone_n : mX0_firstGone.2.2.2.1 = 4 := rfl
theorem mX0_firstGone_r : mX0_firstGone.2.2.2.2.1 = some .int := rfl
theorem mX0_firstGone_l : mX0_firstGone.2.2.2.2.2.2 = none := rfl
def jX0_firstGone (Γ : Cx) : List ((Nat × Nat) × Nat × Bool × YSp) := [((0, 83), 1, false, sp_X0_passDay Γ), ((0, 102), 2, true, sp_X0_wasGone Γ)]
theorem jX0_firstGone_0_83 (Γ : Cx) : kT (jX0_firstGone Γ) 0 83 = some (1, false, sp_X0_passDay Γ) := rfl
theorem jX0_firstGone_0_102 (Γ : Cx) : kT (jX0_firstGone Γ) 0 102 = some (2, true, sp_X0_wasGone Γ) := rfl
theorem uX0_firstGone (Γ : Cx) : TbOK Γ mX0_firstGone (fT fX0, cT kX0, kT (jX0_firstGone Γ)) := tb_ok fX0_ok kX0_ok (all_cons ⟨call_V (n := 0) (T := TX0) (N := 9) (ok_X0_passDay Γ) (rv_X0_passDay (Γ := Γ)) rfl bw_517 bw_561 bw_515 bw_516 bw_44 no_X0_passDay ⟨⟨rfl, rfl⟩, ⟨by decide, by decide⟩, ⟨by decide, by decide⟩⟩, fun z => by cases z⟩ (all_cons ⟨call_V (n := 1) (T := TX0) (N := 9) (ok_X0_wasGone Γ) (rv_X0_wasGone (Γ := Γ)) rfl bw_581 bw_578 bw_579 bw_580 bw_44 no_X0_wasGone ⟨⟨rfl, rfl⟩, ⟨by decide, by decide⟩, ⟨by decide, by decide⟩⟩, fun _ => mono_X0_wasGone (Γ := Γ)⟩ (all_nil)))
set_option maxRecDepth 20000 in
theorem ok_X0_firstGone (Γ : Cx) : Ok Γ yX0_firstGone mX0_firstGone (sp_X0_firstGone Γ) := by
  refine ok_intro (by decide +kernel) rfl rfl ?_
  intro av σ K h
  obtain ⟨⟨a, aw, ak, ad⟩, s, d, N, rfl, hN, hw, hc, h⟩ := h
  have loop : ∀ n i : Nat, ∀ t : CS, WfC t → i + n = N + 1 → K (some (.int (fgC d n i t).1)) (cset Γ (a, aw, ak, ad) (fgC d n i t).2 σ) → YG Γ mX0_firstGone K 2 [(0, .ref a), (1, .int d), (2, .int (nI N)), (3, .int (nI i))] [] (cset Γ (a, aw, ak, ad) t σ) := by
    intro n
    induction n with
    | zero =>
      intro i t ht hi hk
      obtain rfl : i = N + 1 := by omega
      have c1 := gtN (show N < N + 1 by omega) (by omega)
      refine yvc1_ok (uX0_firstGone Γ) (S := [2]) 40 ?_
      simp only [yvc1, c1, yvc_s, s1i, s2i, s1l, s2l, sil, s1r, sir, siir, slir, srir, svr, sd1, sd2, lg, lput, ldel, isL_i, isL_r, isL_l, jmp, obj, obj1, fI, fR, arI, arL, arR, hput, f4_0, f4_1, f4_2, f4_3, lc_0, lc_1, rok_i, rok_b, rok_y, strF, fput_1, fput_2, csum_nil, csum_i, csum_l, csum_r, va_up_self, bx_uu, Int.reduceAdd, List.elem_nil, List.elem_cons, List.take_succ_cons, List.take_zero, List.drop_succ_cons, List.drop_zero, List.take_nil, List.drop_nil, List.reverse_cons, List.reverse_nil, List.nil_append, List.cons_append, List.append_nil, Option.toList_some, Option.toList_none, List.getElem?_cons_zero, List.getElem?_cons_succ, List.set_cons_zero, List.set_cons_succ, List.length_cons, List.length_nil, reduceIte, reduceCtorEq, and_true, true_and, and_self, or_true, true_or, false_and, and_false, not_true_eq_false, not_false_eq_true, true_implies, false_implies, implies_true, Nat.reduceAdd, Nat.reduceLT, Nat.reduceEqDiff, Nat.reduceLeDiff, Nat.reduceBEq, Nat.zero_add, Nat.lt_add_one, Bool.false_eq_true, Bool.or_false, Bool.or_true, Bool.or_self, Nat.zero_ne_one, Nat.one_ne_zero, ite_true, ite_false, ne_eq, Nat.reduceSub, Nat.succ_eq_add_one, Nat.zero_lt_succ, Nat.add_one_ne_zero, false_or, or_false, mX0_firstGone_c, mX0_firstGone_n, mX0_firstGone_r, mX0_firstGone_l, dX0_firstGone_0, ic_1, dX0_firstGone_1, dX0_firstGone_2, dX0_firstGone_3, dX0_firstGone_4, tg_4_23, cnd2_gt, dX0_firstGone_7, dX0_firstGone_8, dX0_firstGone_11, dX0_firstGone_12, dX0_firstGone_13, dX0_firstGone_16, tg_16_5, cnd1_eq, dX0_firstGone_19, dX0_firstGone_20, dX0_firstGone_21, dX0_firstGone_24, tg_24_m22, dX0_firstGone_27, bc_m4, dX0_firstGone_29, jX0_firstGone_0_83, jX0_firstGone_0_102, st_aload_n, st_bipush, st_goto, st_iconst, st_ifCond, st_if_icmp, st_iinc, st_iload_n, st_invokevirtual, st_ireturn, st_istore_n]
      exact hk
    | succ n ih =>
      intro i t ht hi hk
      have c1 := ngtN (show i ≤ N by omega) (by omega)
      have hw' := (dayC_wf ht).1
      have hc' := hc.set t
      have hc2 := hc.set (dayC t)
      rw [fgC] at hk
      refine yvc1_ok (uX0_firstGone Γ) (S := [2]) 40 ?_
      simp only [yvc1, c1, yvc_s, s1i, s2i, s1l, s2l, sil, s1r, sir, siir, slir, srir, svr, sd1, sd2, lg, lput, ldel, isL_i, isL_r, isL_l, jmp, obj, obj1, fI, fR, arI, arL, arR, hput, f4_0, f4_1, f4_2, f4_3, lc_0, lc_1, rok_i, rok_b, rok_y, strF, fput_1, fput_2, csum_nil, csum_i, csum_l, csum_r, va_up_self, bx_uu, Int.reduceAdd, List.elem_nil, List.elem_cons, List.take_succ_cons, List.take_zero, List.drop_succ_cons, List.drop_zero, List.take_nil, List.drop_nil, List.reverse_cons, List.reverse_nil, List.nil_append, List.cons_append, List.append_nil, Option.toList_some, Option.toList_none, List.getElem?_cons_zero, List.getElem?_cons_succ, List.set_cons_zero, List.set_cons_succ, List.length_cons, List.length_nil, reduceIte, reduceCtorEq, and_true, true_and, and_self, or_true, true_or, false_and, and_false, not_true_eq_false, not_false_eq_true, true_implies, false_implies, implies_true, Nat.reduceAdd, Nat.reduceLT, Nat.reduceEqDiff, Nat.reduceLeDiff, Nat.reduceBEq, Nat.zero_add, Nat.lt_add_one, Bool.false_eq_true, Bool.or_false, Bool.or_true, Bool.or_self, Nat.zero_ne_one, Nat.one_ne_zero, ite_true, ite_false, ne_eq, Nat.reduceSub, Nat.succ_eq_add_one, Nat.zero_lt_succ, Nat.add_one_ne_zero, false_or, or_false, mX0_firstGone_c, mX0_firstGone_n, mX0_firstGone_r, mX0_firstGone_l, dX0_firstGone_0, ic_1, dX0_firstGone_1, dX0_firstGone_2, dX0_firstGone_3, dX0_firstGone_4, tg_4_23, cnd2_gt, dX0_firstGone_7, dX0_firstGone_8, dX0_firstGone_11, dX0_firstGone_12, dX0_firstGone_13, dX0_firstGone_16, tg_16_5, cnd1_eq, dX0_firstGone_19, dX0_firstGone_20, dX0_firstGone_21, dX0_firstGone_24, tg_24_m22, dX0_firstGone_27, bc_m4, dX0_firstGone_29, jX0_firstGone_0_83, jX0_firstGone_0_102, st_aload_n, st_bipush, st_goto, st_iconst, st_ifCond, st_if_icmp, st_iinc, st_iload_n, st_invokevirtual, st_ireturn, st_istore_n]
      refine ⟨(a, aw, ak, ad), t, rfl, ht, hc', ?_⟩
      rw [cset_cset]
      generalize dayC t = s' at hc2 hw' hk ⊢
      obtain ⟨w, kp, kd, day, gone, draw, P, rule, gd⟩ := s'
      obtain ⟨⟨m1, m2, m3, m4⟩, e1, e2, e3, e4⟩ := hc2
      simp only [ColE, iA] at e1 e2 e3 e4 m1 m2 m3 m4 hk
      refine yvc_ok (uX0_firstGone Γ) (S := [2]) 40 _ _ _ _ ?_
      simp only [nI_1, sp_X0_wasGone, m1, e1, bI_eq0, Bool.not_eq_false, yvc_s, s1i, s2i, s1l, s2l, sil, s1r, sir, siir, slir, srir, svr, sd1, sd2, lg, lput, ldel, isL_i, isL_r, isL_l, jmp, obj, obj1, fI, fR, arI, arL, arR, hput, f4_0, f4_1, f4_2, f4_3, lc_0, lc_1, rok_i, rok_b, rok_y, strF, fput_1, fput_2, csum_nil, csum_i, csum_l, csum_r, va_up_self, bx_uu, Int.reduceAdd, List.elem_nil, List.elem_cons, List.take_succ_cons, List.take_zero, List.drop_succ_cons, List.drop_zero, List.take_nil, List.drop_nil, List.reverse_cons, List.reverse_nil, List.nil_append, List.cons_append, List.append_nil, Option.toList_some, Option.toList_none, List.getElem?_cons_zero, List.getElem?_cons_succ, List.set_cons_zero, List.set_cons_succ, List.length_cons, List.length_nil, reduceIte, reduceCtorEq, and_true, true_and, and_self, or_true, true_or, false_and, and_false, not_true_eq_false, not_false_eq_true, true_implies, false_implies, implies_true, Nat.reduceAdd, Nat.reduceLT, Nat.reduceEqDiff, Nat.reduceLeDiff, Nat.reduceBEq, Nat.zero_add, Nat.lt_add_one, Bool.false_eq_true, Bool.or_false, Bool.or_true, Bool.or_self, Nat.zero_ne_one, Nat.one_ne_zero, ite_true, ite_false, ne_eq, Nat.reduceSub, Nat.succ_eq_add_one, Nat.zero_lt_succ, Nat.add_one_ne_zero, false_or, or_false, mX0_firstGone_c, mX0_firstGone_n, mX0_firstGone_r, mX0_firstGone_l, dX0_firstGone_0, ic_1, dX0_firstGone_1, dX0_firstGone_2, dX0_firstGone_3, dX0_firstGone_4, tg_4_23, cnd2_gt, dX0_firstGone_7, dX0_firstGone_8, dX0_firstGone_11, dX0_firstGone_12, dX0_firstGone_13, dX0_firstGone_16, tg_16_5, cnd1_eq, dX0_firstGone_19, dX0_firstGone_20, dX0_firstGone_21, dX0_firstGone_24, tg_24_m22, dX0_firstGone_27, bc_m4, dX0_firstGone_29, jX0_firstGone_0_83, jX0_firstGone_0_102, st_aload_n, st_bipush, st_goto, st_iconst, st_ifCond, st_if_icmp, st_iinc, st_iload_n, st_invokevirtual, st_ireturn, st_istore_n]
      refine ⟨fun c => ?_, fun c => ?_⟩
      · rw [if_neg (by rw [c]; decide)] at hk
        exact ih (i + 1) _ hw' (by omega) hk
      · rw [if_pos c] at hk
        exact hk
  refine ⟨Nat.le_of_ble_eq_true rfl, yvc_ok (uX0_firstGone Γ) (S := [2]) 40 _ _ _ _ ?_⟩
  simp only [lv_args, Value.category, yvc_s, s1i, s2i, s1l, s2l, sil, s1r, sir, siir, slir, srir, svr, sd1, sd2, lg, lput, ldel, isL_i, isL_r, isL_l, jmp, obj, obj1, fI, fR, arI, arL, arR, hput, f4_0, f4_1, f4_2, f4_3, lc_0, lc_1, rok_i, rok_b, rok_y, strF, fput_1, fput_2, csum_nil, csum_i, csum_l, csum_r, va_up_self, bx_uu, Int.reduceAdd, List.elem_nil, List.elem_cons, List.take_succ_cons, List.take_zero, List.drop_succ_cons, List.drop_zero, List.take_nil, List.drop_nil, List.reverse_cons, List.reverse_nil, List.nil_append, List.cons_append, List.append_nil, Option.toList_some, Option.toList_none, List.getElem?_cons_zero, List.getElem?_cons_succ, List.set_cons_zero, List.set_cons_succ, List.length_cons, List.length_nil, reduceIte, reduceCtorEq, and_true, true_and, and_self, or_true, true_or, false_and, and_false, not_true_eq_false, not_false_eq_true, true_implies, false_implies, implies_true, Nat.reduceAdd, Nat.reduceLT, Nat.reduceEqDiff, Nat.reduceLeDiff, Nat.reduceBEq, Nat.zero_add, Nat.lt_add_one, Bool.false_eq_true, Bool.or_false, Bool.or_true, Bool.or_self, Nat.zero_ne_one, Nat.one_ne_zero, ite_true, ite_false, ne_eq, Nat.reduceSub, Nat.succ_eq_add_one, Nat.zero_lt_succ, Nat.add_one_ne_zero, false_or, or_false, mX0_firstGone_c, mX0_firstGone_n, mX0_firstGone_r, mX0_firstGone_l, dX0_firstGone_0, ic_1, dX0_firstGone_1, dX0_firstGone_2, dX0_firstGone_3, dX0_firstGone_4, tg_4_23, cnd2_gt, dX0_firstGone_7, dX0_firstGone_8, dX0_firstGone_11, dX0_firstGone_12, dX0_firstGone_13, dX0_firstGone_16, tg_16_5, cnd1_eq, dX0_firstGone_19, dX0_firstGone_20, dX0_firstGone_21, dX0_firstGone_24, tg_24_m22, dX0_firstGone_27, bc_m4, dX0_firstGone_29, jX0_firstGone_0_83, jX0_firstGone_0_102, st_aload_n, st_bipush, st_goto, st_iconst, st_ifCond, st_if_icmp, st_iinc, st_iload_n, st_invokevirtual, st_ireturn, st_istore_n]
  have hl := loop N 1 s hw (by omega) h
  rw [hc.self] at hl
  exact hl
