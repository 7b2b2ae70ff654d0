/-! ===== College: methods with loops, a day ===== -/
theorem ltP {j P : Nat} (h : j < P) (hP : P ≤ 5) : ¬ nI P ≤ nI j := nI_ge h (by omega)
theorem geP {P : Nat} : nI P ≤ nI P := Int32.le_refl _
def sp_X0_wantsOfAll (Γ : Cx) : YSp := fun av σ K => ∃ (A : CA) (s : CS), av = [.ref A.1] ∧ s.2.2.2.2.2.2.1 ≤ 5 ∧ Col Γ A s σ ∧ K (some (.int (wall s.1 s.2.2.2.2.2.2.1))) σ
theorem rv_X0_wantsOfAll {Γ : Cx} : Recv (sp_X0_wantsOfAll Γ) 0 0 := by
  intro av σ K h
  obtain ⟨A, s, rfl, -, hc, -⟩ := h
  obtain ⟨fs, h1, h2⟩ := col_rv hc
  exact ⟨_, _, fs, rfl, rfl, h1, h2⟩
theorem bw_285 : Cond.code yX0_wantsOf cX0_wantsOf 4 (some .int) ∈ BW := bw_i 285 (by decide +kernel) (by decide +kernel)
theorem no_X0_wantsOf : NameOK yX0_wantsOf 1 := by unfold NameOK; decide +kernel
theorem bw_475 : Cond.methodLink RX0 55 yX0_wantsOf ∈ BW := bw_i 475 (by decide +kernel) (by decide +kernel)
theorem bw_283 : Cond.instanceMethod yX0_wantsOf ∈ BW := bw_i 283 (by decide +kernel) (by decide +kernel)
theorem bw_284 : Cond.selects RX0 yX0_wantsOf yX0_wantsOf ∈ BW := bw_i 284 (by decide +kernel) (by decide +kernel)
theorem tg_9_17 : tgo 9 17 = some 26 := by decide
theorem tg_23_m19 : tgo 23 (-19) = some 4 := by decide
def mX0_wantsOfAll : Mt := (⟨2, 0, 0, 45⟩, RX0, cX0_wantsOfAll, 3, some .int, (0, 0), none)
theorem mX0_wantsOfAll_c : mX0_wantsOfAll.2.2.1 = cX0_wantsOfAll := rfl
theorem mX0_wantsOfAll_n : mX0_wantsOfAll.2.2.2.1 = 3 := rfl
theorem mX0_wantsOfAll_r : mX0_wantsOfAll.2.2.2.2.1 = some .int := rfl
theorem mX0_wantsOfAll_l : mX0_wantsOfAll.2.2.2.2.2.2 = none := rfl
def jX0_wantsOfAll (Γ : Cx) : List ((Nat × Nat) × Nat × Bool × YSp) := [((0, 55), 2, false, sp_X0_wantsOf Γ)]
theorem jX0_wantsOfAll_0_55 (Γ : Cx) : kT (jX0_wantsOfAll Γ) 0 55 = some (2, false, sp_X0_wantsOf Γ) := rfl
theorem uX0_wantsOfAll (Γ : Cx) : TbOK Γ mX0_wantsOfAll (fT fX0, cT kX0, kT (jX0_wantsOfAll Γ)) := tb_ok fX0_ok kX0_ok (all_cons ⟨call_V (n := 1) (T := TX0) (N := 9) (ok_X0_wantsOf Γ) (rv_X0_wantsOf (Γ := Γ)) rfl bw_285 bw_475 bw_283 bw_284 bw_44 no_X0_wantsOf ⟨⟨rfl, rfl⟩, ⟨by decide, by decide⟩, ⟨by decide, by decide⟩⟩, fun z => by cases z⟩ (all_nil))
set_option maxRecDepth 20000 in
theorem ok_X0_wantsOfAll (Γ : Cx) : Ok Γ yX0_wantsOfAll mX0_wantsOfAll (sp_X0_wantsOfAll Γ) := by
  refine ok_intro (by decide +kernel) rfl rfl ?_
  intro av σ K h
  obtain ⟨⟨a, aw, ak, ad⟩, ⟨w, kp, kd, day, gone, draw, P, rule, gd⟩, rfl, hP, hc, h⟩ := h
  have hc0 := hc
  obtain ⟨⟨m1, m2, m3, m4⟩, e1, e2, e3, e4⟩ := hc
  simp only [ColE, iA] at e1 e2 e3 e4 m1 m2 m3 m4 hP h
  have loop : ∀ n j : Nat, j + n = P → YG Γ mX0_wantsOfAll K 4 [(0, .ref a), (1, .int (wall w j)), (2, .int (nI j))] [] σ := by
    intro n
    induction n with
    | zero =>
      intro j hj
      obtain rfl : j = P := by omega
      refine yvc1_ok (uX0_wantsOfAll Γ) (S := [4]) 40 ?_
      simp only [yvc1, geP, m1, e1, yvc_s, s1i, s2i, s1l, s2l, sil, s1r, sir, siir, slir, srir, svr, sd1, sd2, lg, lput, ldel, isL_i, isL_r, isL_l, jmp, obj, obj1, fI, fR, arI, arL, arR, hput, f4_0, f4_1, f4_2, f4_3, lc_0, lc_1, rok_i, rok_b, rok_y, strF, fput_1, fput_2, csum_nil, csum_i, csum_l, csum_r, va_up_self, bx_uu, Int.reduceAdd, List.elem_nil, List.elem_cons, List.take_succ_cons, List.take_zero, List.drop_succ_cons, List.drop_zero, List.take_nil, List.drop_nil, List.reverse_cons, List.reverse_nil, List.nil_append, List.cons_append, List.append_nil, Option.toList_some, Option.toList_none, List.getElem?_cons_zero, List.getElem?_cons_succ, List.set_cons_zero, List.set_cons_succ, List.length_cons, List.length_nil, reduceIte, reduceCtorEq, and_true, true_and, and_self, or_true, true_or, false_and, and_false, not_true_eq_false, not_false_eq_true, true_implies, false_implies, implies_true, Nat.reduceAdd, Nat.reduceLT, Nat.reduceEqDiff, Nat.reduceLeDiff, Nat.reduceBEq, Nat.zero_add, Nat.lt_add_one, Bool.false_eq_true, Bool.or_false, Bool.or_true, Bool.or_self, Nat.zero_ne_one, Nat.one_ne_zero, ite_true, ite_false, ne_eq, Nat.reduceSub, Nat.succ_eq_add_one, Nat.zero_lt_succ, Nat.add_one_ne_zero, false_or, or_false, mX0_wantsOfAll_c, mX0_wantsOfAll_n, mX0_wantsOfAll_r, mX0_wantsOfAll_l, dX0_wantsOfAll_0, ic_0, dX0_wantsOfAll_1, dX0_wantsOfAll_2, dX0_wantsOfAll_3, dX0_wantsOfAll_4, dX0_wantsOfAll_5, dX0_wantsOfAll_6, fl_0_15_0, dX0_wantsOfAll_9, tg_9_17, cnd2_ge, dX0_wantsOfAll_12, dX0_wantsOfAll_13, dX0_wantsOfAll_14, dX0_wantsOfAll_15, dX0_wantsOfAll_18, dX0_wantsOfAll_19, dX0_wantsOfAll_20, ic_1, dX0_wantsOfAll_23, tg_23_m19, dX0_wantsOfAll_26, dX0_wantsOfAll_27, jX0_wantsOfAll_0_55, st_aload_n, st_getfield, st_goto, st_iadd, st_iconst, st_if_icmp, st_iinc, st_iload_n, st_invokevirtual, st_ireturn, st_istore_n]
      exact h
    | succ n ih =>
      intro j hj
      have c1 := ltP (show j < P by omega) hP
      refine yvc1_ok (uX0_wantsOfAll Γ) (S := [4]) 40 ?_
      simp only [yvc1, c1, m1, e1, yvc_s, s1i, s2i, s1l, s2l, sil, s1r, sir, siir, slir, srir, svr, sd1, sd2, lg, lput, ldel, isL_i, isL_r, isL_l, jmp, obj, obj1, fI, fR, arI, arL, arR, hput, f4_0, f4_1, f4_2, f4_3, lc_0, lc_1, rok_i, rok_b, rok_y, strF, fput_1, fput_2, csum_nil, csum_i, csum_l, csum_r, va_up_self, bx_uu, Int.reduceAdd, List.elem_nil, List.elem_cons, List.take_succ_cons, List.take_zero, List.drop_succ_cons, List.drop_zero, List.take_nil, List.drop_nil, List.reverse_cons, List.reverse_nil, List.nil_append, List.cons_append, List.append_nil, Option.toList_some, Option.toList_none, List.getElem?_cons_zero, List.getElem?_cons_succ, List.set_cons_zero, List.set_cons_succ, List.length_cons, List.length_nil, reduceIte, reduceCtorEq, and_true, true_and, and_self, or_true, true_or, false_and, and_false, not_true_eq_false, not_false_eq_true, true_implies, false_implies, implies_true, Nat.reduceAdd, Nat.reduceLT, Nat.reduceEqDiff, Nat.reduceLeDiff, Nat.reduceBEq, Nat.zero_add, Nat.lt_add_one, Bool.false_eq_true, Bool.or_false, Bool.or_true, Bool.or_self, Nat.zero_ne_one, Nat.one_ne_zero, ite_true, ite_false, ne_eq, Nat.reduceSub, Nat.succ_eq_add_one, Nat.zero_lt_succ, Nat.add_one_ne_zero, false_or, or_false, mX0_wantsOfAll_c, mX0_wantsOfAll_n, mX0_wantsOfAll_r, mX0_wantsOfAll_l, dX0_wantsOfAll_0, ic_0, dX0_wantsOfAll_1, dX0_wantsOfAll_2, dX0_wantsOfAll_3, dX0_wantsOfAll_4, dX0_wantsOfAll_5, dX0_wantsOfAll_6, fl_0_15_0, dX0_wantsOfAll_9, tg_9_17, cnd2_ge, dX0_wantsOfAll_12, dX0_wantsOfAll_13, dX0_wantsOfAll_14, dX0_wantsOfAll_15, dX0_wantsOfAll_18, dX0_wantsOfAll_19, dX0_wantsOfAll_20, ic_1, dX0_wantsOfAll_23, tg_23_m19, dX0_wantsOfAll_26, dX0_wantsOfAll_27, jX0_wantsOfAll_0_55, st_aload_n, st_getfield, st_goto, st_iadd, st_iconst, st_if_icmp, st_iinc, st_iload_n, st_invokevirtual, st_ireturn, st_istore_n]
      refine ⟨(a, aw, ak, ad), _, j, rfl, by omega, hc0, ?_⟩
      refine yvc_ok (uX0_wantsOfAll Γ) (S := [4]) 40 _ _ _ _ ?_
      simp only [nI_1, yvc_s, s1i, s2i, s1l, s2l, sil, s1r, sir, siir, slir, srir, svr, sd1, sd2, lg, lput, ldel, isL_i, isL_r, isL_l, jmp, obj, obj1, fI, fR, arI, arL, arR, hput, f4_0, f4_1, f4_2, f4_3, lc_0, lc_1, rok_i, rok_b, rok_y, strF, fput_1, fput_2, csum_nil, csum_i, csum_l, csum_r, va_up_self, bx_uu, Int.reduceAdd, List.elem_nil, List.elem_cons, List.take_succ_cons, List.take_zero, List.drop_succ_cons, List.drop_zero, List.take_nil, List.drop_nil, List.reverse_cons, List.reverse_nil, List.nil_append, List.cons_append, List.append_nil, Option.toList_some, Option.toList_none, List.getElem?_cons_zero, List.getElem?_cons_succ, List.set_cons_zero, List.set_cons_succ, List.length_cons, List.length_nil, reduceIte, reduceCtorEq, and_true, true_and, and_self, or_true, true_or, false_and, and_false, not_true_eq_false, not_false_eq_true, true_implies, false_implies, implies_true, Nat.reduceAdd, Nat.reduceLT, Nat.reduceEqDiff, Nat.reduceLeDiff, Nat.reduceBEq, Nat.zero_add, Nat.lt_add_one, Bool.false_eq_true, Bool.or_false, Bool.or_true, Bool.or_self, Nat.zero_ne_one, Nat.one_ne_zero, ite_true, ite_false, ne_eq, Nat.reduceSub, Nat.succ_eq_add_one, Nat.zero_lt_succ, Nat.add_one_ne_zero, false_or, or_false, mX0_wantsOfAll_c, mX0_wantsOfAll_n, mX0_wantsOfAll_r, mX0_wantsOfAll_l, dX0_wantsOfAll_0, ic_0, dX0_wantsOfAll_1, dX0_wantsOfAll_2, dX0_wantsOfAll_3, dX0_wantsOfAll_4, dX0_wantsOfAll_5, dX0_wantsOfAll_6, fl_0_15_0, dX0_wantsOfAll_9, tg_9_17, cnd2_ge, dX0_wantsOfAll_12, dX0_wantsOfAll_13, dX0_wantsOfAll_14, dX0_wantsOfAll_15, dX0_wantsOfAll_18, dX0_wantsOfAll_19, dX0_wantsOfAll_20, ic_1, dX0_wantsOfAll_23, tg_23_m19, dX0_wantsOfAll_26, dX0_wantsOfAll_27, jX0_wantsOfAll_0_55, st_aload_n, st_getfield, st_goto, st_iadd, st_iconst, st_if_icmp, st_iinc, st_iload_n, st_invokevirtual, st_ireturn, st_istore_n]
      exact ih (j + 1) (by omega)
  refine ⟨Nat.le_of_ble_eq_true rfl, yvc_ok (uX0_wantsOfAll Γ) (S := [4]) 40 _ _ _ _ ?_⟩
  simp only [lv_args, Value.category, yvc_s, s1i, s2i, s1l, s2l, sil, s1r, sir, siir, slir, srir, svr, sd1, sd2, lg, lput, ldel, isL_i, isL_r, isL_l, jmp, obj, obj1, fI, fR, arI, arL, arR, hput, f4_0, f4_1, f4_2, f4_3, lc_0, lc_1, rok_i, rok_b, rok_y, strF, fput_1, fput_2, csum_nil, csum_i, csum_l, csum_r, va_up_self, bx_uu, Int.reduceAdd, List.elem_nil, List.elem_cons, List.take_succ_cons, List.take_zero, List.drop_succ_cons, List.drop_zero, List.take_nil, List.drop_nil, List.reverse_cons, List.reverse_nil, List.nil_append, List.cons_append, List.append_nil, Option.toList_some, Option.toList_none, List.getElem?_cons_zero, List.getElem?_cons_succ, List.set_cons_zero, List.set_cons_succ, List.length_cons, List.length_nil, reduceIte, reduceCtorEq, and_true, true_and, and_self, or_true, true_or, false_and, and_false, not_true_eq_false, not_false_eq_true, true_implies, false_implies, implies_true, Nat.reduceAdd, Nat.reduceLT, Nat.reduceEqDiff, Nat.reduceLeDiff, Nat.reduceBEq, Nat.zero_add, Nat.lt_add_one, Bool.false_eq_true, Bool.or_false, Bool.or_true, Bool.or_self, Nat.zero_ne_one, Nat.one_ne_zero, ite_true, ite_false, ne_eq, Nat.reduceSub, Nat.succ_eq_add_one, Nat.zero_lt_succ, Nat.add_one_ne_zero, false_or, or_false, mX0_wantsOfAll_c, mX0_wantsOfAll_n, mX0_wantsOfAll_r, mX0_wantsOfAll_l, dX0_wantsOfAll_0, ic_0, dX0_wantsOfAll_1, dX0_wantsOfAll_2, dX0_wantsOfAll_3, dX0_wantsOfAll_4, dX0_wantsOfAll_5, dX0_wantsOfAll_6, fl_0_15_0, dX0_wantsOfAll_9, tg_9_17, cnd2_ge, dX0_wantsOfAll_12, dX0_wantsOfAll_13, dX0_wantsOfAll_14, dX0_wantsOfAll_15, dX0_wantsOfAll_18, dX0_wantsOfAll_19, dX0_wantsOfAll_20, ic_1, dX0_wantsOfAll_23, tg_23_m19, dX0_wantsOfAll_26, dX0_wantsOfAll_27, jX0_wantsOfAll_0_55, st_aload_n, st_getfield, st_goto, st_iadd, st_iconst, st_if_icmp, st_iinc, st_iload_n, st_invokevirtual, st_ireturn, st_istore_n]
  exact loop P 0 (by omega)
def sp_X0_keysOf (Γ : Cx) : YSp := fun av σ K => ∃ (A : CA) (s : CS) (p : Int32), av = [.ref A.1, .int p] ∧ Col Γ A s σ ∧ K (some (.int (kset s.2.1 p 4))) σ
theorem rv_X0_keysOf {Γ : Cx} : Recv (sp_X0_keysOf Γ) 1 0 := by
  intro av σ K h
  obtain ⟨A, s, p, rfl, hc, -⟩ := h
  obtain ⟨fs, h1, h2⟩ := col_rv hc
  exact ⟨_, _, fs, rfl, rfl, h1, h2⟩
theorem tg_6_25 : tgo 6 25 = some 31 := by decide
theorem tg_16_9 : tgo 16 9 = some 25 := by decide
theorem tg_28_m24 : tgo 28 (-24) = some 4 := by decide
def mX0_keysOf : Mt := (⟨0, 0, 0, 0⟩, RX0, cX0_keysOf, 4, some .int, (0, 0), none)
theorem mX0_keysOf_c : mX0_keysOf.2.2.1 = cX0_keysOf := rfl
theorem mX0_keysOf_n : mX0_keysOf.2.2.2.1 = 4 := rfl
theorem mX0_keysOf_r : mX0_keysOf.2.2.2.2.1 = some .int := rfl
theorem mX0_keysOf_l : mX0_keysOf.2.2.2.2.2.2 = none := rfl
def jX0_keysOf (Γ : Cx) : List ((Nat × Nat) × Nat × Bool × YSp) := []
theorem uX0_keysOf (Γ : Cx) : TbOK Γ mX0_keysOf (fT fX0, cT kX0, kT (jX0_keysOf Γ)) := tb_ok fX0_ok kX0_ok (all_nil)
set_option maxRecDepth 20000 in
theorem ok_X0_keysOf (Γ : Cx) : Ok Γ yX0_keysOf mX0_keysOf (sp_X0_keysOf Γ) := by
  refine ok_intro (by decide +kernel) rfl rfl ?_
  intro av σ K h
  obtain ⟨⟨a, aw, ak, ad⟩, ⟨w, kp, kd, day, gone, draw, P, rule, gd⟩, p, rfl, hc, h⟩ := h
  obtain ⟨⟨m1, m2, m3, m4⟩, e1, e2, e3, e4⟩ := hc
  simp only [ColE, iA] at e1 e2 e3 e4 m1 m2 m3 m4 h
  have loop : ∀ n j : Nat, j + n = 4 → YG Γ mX0_keysOf K 4 [(0, .ref a), (1, .int p), (2, .int (kset kp p j)), (3, .int (nI j))] [] σ := by
    intro n
    induction n with
    | zero =>
      intro j hj
      obtain rfl : j = 4 := by omega
      refine yvc1_ok (uX0_keysOf Γ) (S := [4]) 40 ?_
      simp only [yvc1, ge4, yvc_s, s1i, s2i, s1l, s2l, sil, s1r, sir, siir, slir, srir, svr, sd1, sd2, lg, lput, ldel, isL_i, isL_r, isL_l, jmp, obj, obj1, fI, fR, arI, arL, arR, hput, f4_0, f4_1, f4_2, f4_3, lc_0, lc_1, rok_i, rok_b, rok_y, strF, fput_1, fput_2, csum_nil, csum_i, csum_l, csum_r, va_up_self, bx_uu, Int.reduceAdd, List.elem_nil, List.elem_cons, List.take_succ_cons, List.take_zero, List.drop_succ_cons, List.drop_zero, List.take_nil, List.drop_nil, List.reverse_cons, List.reverse_nil, List.nil_append, List.cons_append, List.append_nil, Option.toList_some, Option.toList_none, List.getElem?_cons_zero, List.getElem?_cons_succ, List.set_cons_zero, List.set_cons_succ, List.length_cons, List.length_nil, reduceIte, reduceCtorEq, and_true, true_and, and_self, or_true, true_or, false_and, and_false, not_true_eq_false, not_false_eq_true, true_implies, false_implies, implies_true, Nat.reduceAdd, Nat.reduceLT, Nat.reduceEqDiff, Nat.reduceLeDiff, Nat.reduceBEq, Nat.zero_add, Nat.lt_add_one, Bool.false_eq_true, Bool.or_false, Bool.or_true, Bool.or_self, Nat.zero_ne_one, Nat.one_ne_zero, ite_true, ite_false, ne_eq, Nat.reduceSub, Nat.succ_eq_add_one, Nat.zero_lt_succ, Nat.add_one_ne_zero, false_or, or_false, mX0_keysOf_c, mX0_keysOf_n, mX0_keysOf_r, mX0_keysOf_l, dX0_keysOf_0, ic_0, dX0_keysOf_1, dX0_keysOf_2, dX0_keysOf_3, dX0_keysOf_4, dX0_keysOf_5, ic_4, dX0_keysOf_6, tg_6_25, cnd2_ge, dX0_keysOf_9, dX0_keysOf_10, fl_0_59_0, dX0_keysOf_13, dX0_keysOf_14, dX0_keysOf_15, dX0_keysOf_16, tg_16_9, cnd2_ne, dX0_keysOf_19, dX0_keysOf_20, ic_1, dX0_keysOf_21, dX0_keysOf_22, dX0_keysOf_23, dX0_keysOf_24, dX0_keysOf_25, dX0_keysOf_28, tg_28_m24, dX0_keysOf_31, dX0_keysOf_32, st_aload_n, st_getfield, st_goto, st_iaload, st_iconst, st_if_icmp, st_iinc, st_iload_n, st_ior, st_ireturn, st_ishl, st_istore_n]
      exact h
    | succ n ih =>
      intro j hj
      obtain ⟨c1, c2, c3⟩ := lt4 (show j < 4 by omega)
      have hj1 := ih (j + 1) (by omega)
      refine yvc1_ok (uX0_keysOf Γ) (S := [4]) 40 ?_
      simp only [yvc1, c1, c2, c3, m1, m3, e1, e3, nI_1, yvc_s, s1i, s2i, s1l, s2l, sil, s1r, sir, siir, slir, srir, svr, sd1, sd2, lg, lput, ldel, isL_i, isL_r, isL_l, jmp, obj, obj1, fI, fR, arI, arL, arR, hput, f4_0, f4_1, f4_2, f4_3, lc_0, lc_1, rok_i, rok_b, rok_y, strF, fput_1, fput_2, csum_nil, csum_i, csum_l, csum_r, va_up_self, bx_uu, Int.reduceAdd, List.elem_nil, List.elem_cons, List.take_succ_cons, List.take_zero, List.drop_succ_cons, List.drop_zero, List.take_nil, List.drop_nil, List.reverse_cons, List.reverse_nil, List.nil_append, List.cons_append, List.append_nil, Option.toList_some, Option.toList_none, List.getElem?_cons_zero, List.getElem?_cons_succ, List.set_cons_zero, List.set_cons_succ, List.length_cons, List.length_nil, reduceIte, reduceCtorEq, and_true, true_and, and_self, or_true, true_or, false_and, and_false, not_true_eq_false, not_false_eq_true, true_implies, false_implies, implies_true, Nat.reduceAdd, Nat.reduceLT, Nat.reduceEqDiff, Nat.reduceLeDiff, Nat.reduceBEq, Nat.zero_add, Nat.lt_add_one, Bool.false_eq_true, Bool.or_false, Bool.or_true, Bool.or_self, Nat.zero_ne_one, Nat.one_ne_zero, ite_true, ite_false, ne_eq, Nat.reduceSub, Nat.succ_eq_add_one, Nat.zero_lt_succ, Nat.add_one_ne_zero, false_or, or_false, mX0_keysOf_c, mX0_keysOf_n, mX0_keysOf_r, mX0_keysOf_l, dX0_keysOf_0, ic_0, dX0_keysOf_1, dX0_keysOf_2, dX0_keysOf_3, dX0_keysOf_4, dX0_keysOf_5, ic_4, dX0_keysOf_6, tg_6_25, cnd2_ge, dX0_keysOf_9, dX0_keysOf_10, fl_0_59_0, dX0_keysOf_13, dX0_keysOf_14, dX0_keysOf_15, dX0_keysOf_16, tg_16_9, cnd2_ne, dX0_keysOf_19, dX0_keysOf_20, ic_1, dX0_keysOf_21, dX0_keysOf_22, dX0_keysOf_23, dX0_keysOf_24, dX0_keysOf_25, dX0_keysOf_28, tg_28_m24, dX0_keysOf_31, dX0_keysOf_32, st_aload_n, st_getfield, st_goto, st_iaload, st_iconst, st_if_icmp, st_iinc, st_iload_n, st_ior, st_ireturn, st_ishl, st_istore_n]
      refine ⟨fun c => ?_, fun c => ?_⟩
      · rw [kset, if_neg c] at hj1
        exact hj1
      · rw [kset, if_pos (Classical.not_not.mp c)] at hj1
        exact hj1
  refine ⟨Nat.le_of_ble_eq_true rfl, yvc_ok (uX0_keysOf Γ) (S := [4]) 40 _ _ _ _ ?_⟩
  simp only [lv_args, Value.category, yvc_s, s1i, s2i, s1l, s2l, sil, s1r, sir, siir, slir, srir, svr, sd1, sd2, lg, lput, ldel, isL_i, isL_r, isL_l, jmp, obj, obj1, fI, fR, arI, arL, arR, hput, f4_0, f4_1, f4_2, f4_3, lc_0, lc_1, rok_i, rok_b, rok_y, strF, fput_1, fput_2, csum_nil, csum_i, csum_l, csum_r, va_up_self, bx_uu, Int.reduceAdd, List.elem_nil, List.elem_cons, List.take_succ_cons, List.take_zero, List.drop_succ_cons, List.drop_zero, List.take_nil, List.drop_nil, List.reverse_cons, List.reverse_nil, List.nil_append, List.cons_append, List.append_nil, Option.toList_some, Option.toList_none, List.getElem?_cons_zero, List.getElem?_cons_succ, List.set_cons_zero, List.set_cons_succ, List.length_cons, List.length_nil, reduceIte, reduceCtorEq, and_true, true_and, and_self, or_true, true_or, false_and, and_false, not_true_eq_false, not_false_eq_true, true_implies, false_implies, implies_true, Nat.reduceAdd, Nat.reduceLT, Nat.reduceEqDiff, Nat.reduceLeDiff, Nat.reduceBEq, Nat.zero_add, Nat.lt_add_one, Bool.false_eq_true, Bool.or_false, Bool.or_true, Bool.or_self, Nat.zero_ne_one, Nat.one_ne_zero, ite_true, ite_false, ne_eq, Nat.reduceSub, Nat.succ_eq_add_one, Nat.zero_lt_succ, Nat.add_one_ne_zero, false_or, or_false, mX0_keysOf_c, mX0_keysOf_n, mX0_keysOf_r, mX0_keysOf_l, dX0_keysOf_0, ic_0, dX0_keysOf_1, dX0_keysOf_2, dX0_keysOf_3, dX0_keysOf_4, dX0_keysOf_5, ic_4, dX0_keysOf_6, tg_6_25, cnd2_ge, dX0_keysOf_9, dX0_keysOf_10, fl_0_59_0, dX0_keysOf_13, dX0_keysOf_14, dX0_keysOf_15, dX0_keysOf_16, tg_16_9, cnd2_ne, dX0_keysOf_19, dX0_keysOf_20, ic_1, dX0_keysOf_21, dX0_keysOf_22, dX0_keysOf_23, dX0_keysOf_24, dX0_keysOf_25, dX0_keysOf_28, tg_28_m24, dX0_keysOf_31, dX0_keysOf_32, st_aload_n, st_getfield, st_goto, st_iaload, st_iconst, st_if_icmp, st_iinc, st_iload_n, st_ior, st_ireturn, st_ishl, st_istore_n]
  exact loop 4 0 rfl
def sp_X0_nails (Γ : Cx) : YSp := fun av σ K => ∃ (A : CA) (s : CS), av = [.ref A.1] ∧ Col Γ A s σ ∧ K (some (.int (kset s.2.1 (-4) 4))) σ
theorem rv_X0_nails {Γ : Cx} : Recv (sp_X0_nails Γ) 0 0 := by
  intro av σ K h
  obtain ⟨A, s, rfl, hc, -⟩ := h
  obtain ⟨fs, h1, h2⟩ := col_rv hc
  exact ⟨_, _, fs, rfl, rfl, h1, h2⟩
theorem bw_281 : Cond.code yX0_keysOf cX0_keysOf 4 (some .int) ∈ BW := bw_i 281 (by decide +kernel) (by decide +kernel)
theorem no_X0_keysOf : NameOK yX0_keysOf 1 := by unfold NameOK; decide +kernel
theorem bw_299 : Cond.methodLink RX0 62 yX0_keysOf ∈ BW := bw_i 299 (by decide +kernel) (by decide +kernel)
theorem bw_279 : Cond.instanceMethod yX0_keysOf ∈ BW := bw_i 279 (by decide +kernel) (by decide +kernel)
theorem bw_280 : Cond.selects RX0 yX0_keysOf yX0_keysOf ∈ BW := bw_i 280 (by decide +kernel) (by decide +kernel)
theorem bc_m4 : (Int8.ofInt (-4)).toInt32 = (-4) := by decide
def mX0_nails : Mt := (⟨1, 0, 0, 23⟩, RX0, cX0_nails, 1, some .int, (0, 0), none)
theorem mX0_nails_c : mX0_nails.2.2.1 = cX0_nails := rfl
theorem mX0_nails_n : mX0_nails.2.2.2.1 = 1 := rfl
theorem mX0_nails_r : mX0_nails.2.2.2.2.1 = some .int := rfl
theorem mX0_nails_l : mX0_nails.2.2.2.2.2.2 = none := rfl
def jX0_nails (Γ : Cx) : List ((Nat × Nat) × Nat × Bool × YSp) := [((0, 62), 2, false, sp_X0_keysOf Γ)]
theorem jX0_nails_0_62 (Γ : Cx) : kT (jX0_nails Γ) 0 62 = some (2, false, sp_X0_keysOf Γ) := rfl
theorem uX0_nails (Γ : Cx) : TbOK Γ mX0_nails (fT fX0, cT kX0, kT (jX0_nails Γ)) := tb_ok fX0_ok kX0_ok (all_cons ⟨call_V (n := 1) (T := TX0) (N := 9) (ok_X0_keysOf Γ) (rv_X0_keysOf (Γ := Γ)) rfl bw_281 bw_299 bw_279 bw_280 bw_44 no_X0_keysOf ⟨⟨rfl, rfl⟩, ⟨by decide, by decide⟩, ⟨by decide, by decide⟩⟩, fun z => by cases z⟩ (all_nil))
set_option maxRecDepth 20000 in
theorem ok_X0_nails (Γ : Cx) : Ok Γ yX0_nails mX0_nails (sp_X0_nails Γ) := by
  refine ok_intro (by decide +kernel) rfl rfl ?_
  intro av σ K h
  obtain ⟨A, s, rfl, hc, h⟩ := h
  refine ⟨Nat.le_of_ble_eq_true rfl, yvc_ok (uX0_nails Γ) (S := []) 40 _ _ _ _ ?_⟩
  simp only [lv_args, Value.category, yvc_s, s1i, s2i, s1l, s2l, sil, s1r, sir, siir, slir, srir, svr, sd1, sd2, lg, lput, ldel, isL_i, isL_r, isL_l, jmp, obj, obj1, fI, fR, arI, arL, arR, hput, f4_0, f4_1, f4_2, f4_3, lc_0, lc_1, rok_i, rok_b, rok_y, strF, fput_1, fput_2, csum_nil, csum_i, csum_l, csum_r, va_up_self, bx_uu, Int.reduceAdd, List.elem_nil, List.elem_cons, List.take_succ_cons, List.take_zero, List.drop_succ_cons, List.drop_zero, List.take_nil, List.drop_nil, List.reverse_cons, List.reverse_nil, List.nil_append, List.cons_append, List.append_nil, Option.toList_some, Option.toList_none, List.getElem?_cons_zero, List.getElem?_cons_succ, List.set_cons_zero, List.set_cons_succ, List.length_cons, List.length_nil, reduceIte, reduceCtorEq, and_true, true_and, and_self, or_true, true_or, false_and, and_false, not_true_eq_false, not_false_eq_true, true_implies, false_implies, implies_true, Nat.reduceAdd, Nat.reduceLT, Nat.reduceEqDiff, Nat.reduceLeDiff, Nat.reduceBEq, Nat.zero_add, Nat.lt_add_one, Bool.false_eq_true, Bool.or_false, Bool.or_true, Bool.or_self, Nat.zero_ne_one, Nat.one_ne_zero, ite_true, ite_false, ne_eq, Nat.reduceSub, Nat.succ_eq_add_one, Nat.zero_lt_succ, Nat.add_one_ne_zero, false_or, or_false, mX0_nails_c, mX0_nails_n, mX0_nails_r, mX0_nails_l, dX0_nails_0, dX0_nails_1, bc_m4, dX0_nails_3, dX0_nails_6, jX0_nails_0_62, st_aload_n, st_bipush, st_invokevirtual, st_ireturn]
  refine ⟨A, s, _, rfl, hc, ?_⟩
  refine yvc_ok (uX0_nails Γ) (S := []) 40 _ _ _ _ ?_
  simp only [yvc_s, s1i, s2i, s1l, s2l, sil, s1r, sir, siir, slir, srir, svr, sd1, sd2, lg, lput, ldel, isL_i, isL_r, isL_l, jmp, obj, obj1, fI, fR, arI, arL, arR, hput, f4_0, f4_1, f4_2, f4_3, lc_0, lc_1, rok_i, rok_b, rok_y, strF, fput_1, fput_2, csum_nil, csum_i, csum_l, csum_r, va_up_self, bx_uu, Int.reduceAdd, List.elem_nil, List.elem_cons, List.take_succ_cons, List.take_zero, List.drop_succ_cons, List.drop_zero, List.take_nil, List.drop_nil, List.reverse_cons, List.reverse_nil, List.nil_append, List.cons_append, List.append_nil, Option.toList_some, Option.toList_none, List.getElem?_cons_zero, List.getElem?_cons_succ, List.set_cons_zero, List.set_cons_succ, List.length_cons, List.length_nil, reduceIte, reduceCtorEq, and_true, true_and, and_self, or_true, true_or, false_and, and_false, not_true_eq_false, not_false_eq_true, true_implies, false_implies, implies_true, Nat.reduceAdd, Nat.reduceLT, Nat.reduceEqDiff, Nat.reduceLeDiff, Nat.reduceBEq, Nat.zero_add, Nat.lt_add_one, Bool.false_eq_true, Bool.or_false, Bool.or_true, Bool.or_self, Nat.zero_ne_one, Nat.one_ne_zero, ite_true, ite_false, ne_eq, Nat.reduceSub, Nat.succ_eq_add_one, Nat.zero_lt_succ, Nat.add_one_ne_zero, false_or, or_false, mX0_nails_c, mX0_nails_n, mX0_nails_r, mX0_nails_l, dX0_nails_0, dX0_nails_1, bc_m4, dX0_nails_3, dX0_nails_6, jX0_nails_0_62, st_aload_n, st_bipush, st_invokevirtual, st_ireturn]
  exact h
def sp_X0_keeperAsSet (Γ : Cx) : YSp := fun av σ K => match av with | [.ref a, .int d] => obj1 σ a 0 fun fs => fR fs 1 fun ak => arI Γ σ ak fun n kp => vp_in d n ∧ K (some (.int (kas (kp d.toNatClampNeg)))) σ | _ => False
theorem mono_X0_keeperAsSet {Γ : Cx} : Mono (sp_X0_keeperAsSet Γ) := by
  intro av σ K K' hk h
  unfold sp_X0_keeperAsSet at h ⊢
  split at h
  · exact obj1_mono (fun _ h => fR_mono (fun _ h => arI_mono (fun _ _ h => ⟨h.1, hk _ _ h.2⟩) h) h) h
  · exact h.elim
theorem rv_X0_keeperAsSet {Γ : Cx} : Recv (sp_X0_keeperAsSet Γ) 1 0 := by
  intro av σ K h
  unfold sp_X0_keeperAsSet at h
  split at h
  · obtain ⟨fs, h1, h2, -⟩ := obj1_recv h
    exact ⟨_, _, fs, rfl, rfl, h1, h2⟩
  · exact h.elim
theorem tg_8_7 : tgo 8 7 = some 15 := by decide
theorem tg_12_11 : tgo 12 11 = some 23 := by decide
def mX0_keeperAsSet : Mt := (⟨0, 0, 0, 0⟩, RX0, cX0_keeperAsSet, 2, some .int, (0, 0), none)
theorem mX0_keeperAsSet_c : mX0_keeperAsSet.2.2.1 = cX0_keeperAsSet := rfl
theorem mX0_keeperAsSet_n : mX0_keeperAsSet.2.2.2.1 = 2 := rfl
theorem mX0_keeperAsSet_r : mX0_keeperAsSet.2.2.2.2.1 = some .int := rfl
theorem mX0_keeperAsSet_l : mX0_keeperAsSet.2.2.2.2.2.2 = none := rfl
def jX0_keeperAsSet (Γ : Cx) : List ((Nat × Nat) × Nat × Bool × YSp) := []
theorem uX0_keeperAsSet (Γ : Cx) : TbOK Γ mX0_keeperAsSet (fT fX0, cT kX0, kT (jX0_keeperAsSet Γ)) := tb_ok fX0_ok kX0_ok (all_nil)
set_option maxRecDepth 20000 in
theorem ok_X0_keeperAsSet (Γ : Cx) : Ok Γ yX0_keeperAsSet mX0_keeperAsSet (sp_X0_keeperAsSet Γ) := by
  refine ok_intro (by decide +kernel) rfl rfl ?_
  intro av σ K h
  unfold sp_X0_keeperAsSet at h
  split at h
  · next a d =>
    obtain ⟨fs, h1, h2, h⟩ := obj1_recv h
    obtain ⟨ak, h3, h⟩ := fR_recv h
    obtain ⟨n, kp, h4, h5, h6, h⟩ := arI_recv h
    refine ⟨Nat.le_of_ble_eq_true rfl, yvc_ok (uX0_keeperAsSet Γ) (S := []) 40 _ _ _ _ ?_⟩
    simp only [lv_args, Value.category, h1, h2, h3, h4, h5, h6, yvc_s, s1i, s2i, s1l, s2l, sil, s1r, sir, siir, slir, srir, svr, sd1, sd2, lg, lput, ldel, isL_i, isL_r, isL_l, jmp, obj, obj1, fI, fR, arI, arL, arR, hput, f4_0, f4_1, f4_2, f4_3, lc_0, lc_1, rok_i, rok_b, rok_y, strF, fput_1, fput_2, csum_nil, csum_i, csum_l, csum_r, va_up_self, bx_uu, Int.reduceAdd, List.elem_nil, List.elem_cons, List.take_succ_cons, List.take_zero, List.drop_succ_cons, List.drop_zero, List.take_nil, List.drop_nil, List.reverse_cons, List.reverse_nil, List.nil_append, List.cons_append, List.append_nil, Option.toList_some, Option.toList_none, List.getElem?_cons_zero, List.getElem?_cons_succ, List.set_cons_zero, List.set_cons_succ, List.length_cons, List.length_nil, reduceIte, reduceCtorEq, and_true, true_and, and_self, or_true, true_or, false_and, and_false, not_true_eq_false, not_false_eq_true, true_implies, false_implies, implies_true, Nat.reduceAdd, Nat.reduceLT, Nat.reduceEqDiff, Nat.reduceLeDiff, Nat.reduceBEq, Nat.zero_add, Nat.lt_add_one, Bool.false_eq_true, Bool.or_false, Bool.or_true, Bool.or_self, Nat.zero_ne_one, Nat.one_ne_zero, ite_true, ite_false, ne_eq, Nat.reduceSub, Nat.succ_eq_add_one, Nat.zero_lt_succ, Nat.add_one_ne_zero, false_or, or_false, mX0_keeperAsSet_c, mX0_keeperAsSet_n, mX0_keeperAsSet_r, mX0_keeperAsSet_l, dX0_keeperAsSet_0, dX0_keeperAsSet_1, fl_0_59_0, dX0_keeperAsSet_4, dX0_keeperAsSet_5, dX0_keeperAsSet_6, bc_m4, dX0_keeperAsSet_8, tg_8_7, cnd2_ne, dX0_keeperAsSet_11, ic_0, dX0_keeperAsSet_12, tg_12_11, dX0_keeperAsSet_15, ic_1, dX0_keeperAsSet_16, dX0_keeperAsSet_17, dX0_keeperAsSet_20, dX0_keeperAsSet_21, dX0_keeperAsSet_22, dX0_keeperAsSet_23, st_aload_n, st_bipush, st_getfield, st_goto, st_iaload, st_iconst, st_if_icmp, st_iload_n, st_ireturn, st_ishl]
    refine ⟨fun c => ?_, fun c => ?_⟩
    · rw [kas, if_neg c] at h
      exact h
    · rw [kas, if_pos (Classical.not_not.mp c)] at h
      exact h
  · exact h.elim
def sp_X0_keepersOfAny (Γ : Cx) : YSp := fun av σ K => ∃ (A : CA) (s : CS), av = [.ref A.1] ∧ Col Γ A s σ ∧ K (some (.int (kany s.2.1 4))) σ
theorem rv_X0_keepersOfAny {Γ : Cx} : Recv (sp_X0_keepersOfAny Γ) 0 0 := by
  intro av σ K h
  obtain ⟨A, s, rfl, hc, -⟩ := h
  obtain ⟨fs, h1, h2⟩ := col_rv hc
  exact ⟨_, _, fs, rfl, rfl, h1, h2⟩
theorem bw_483 : Cond.code yX0_keeperAsSet cX0_keeperAsSet 2 (some .int) ∈ BW := bw_i 483 (by decide +kernel) (by decide +kernel)
theorem no_X0_keeperAsSet : NameOK yX0_keeperAsSet 1 := by unfold NameOK; decide +kernel
theorem bw_480 : Cond.methodLink RX0 65 yX0_keeperAsSet ∈ BW := bw_i 480 (by decide +kernel) (by decide +kernel)
theorem bw_481 : Cond.instanceMethod yX0_keeperAsSet ∈ BW := bw_i 481 (by decide +kernel) (by decide +kernel)
theorem bw_482 : Cond.selects RX0 yX0_keeperAsSet yX0_keeperAsSet ∈ BW := bw_i 482 (by decide +kernel) (by decide +kernel)
theorem tg_6_17 : tgo 6 17 = some 23 := by decide
theorem tg_20_m16 : tgo 20 (-16) = some 4 := by decide
def mX0_keepersOfAny : Mt := (⟨1, 0, 0, 21⟩, RX0, cX0_keepersOfAny, 3, some .int, (0, 0), none)
theorem mX0_keepersOfAny_c : mX0_keepersOfAny.2.2.1 = cX0_keepersOfAny := rfl
theorem mX0_keepersOfAny_n : mX0_keepersOfAny.2.2.2.1 = 3 := rfl
theorem mX0_keepersOfAny_r : mX0_keepersOfAny.2.2.2.2.1 = some .int := rfl
theorem mX0_keepersOfAny_l : mX0_keepersOfAny.2.2.2.2.2.2 = none := rfl
def jX0_keepersOfAny (Γ : Cx) : List ((Nat × Nat) × Nat × Bool × YSp) := [((0, 65), 2, true, sp_X0_keeperAsSet Γ)]
theorem jX0_keepersOfAny_0_65 (Γ : Cx) : kT (jX0_keepersOfAny Γ) 0 65 = some (2, true, sp_X0_keeperAsSet Γ) := rfl
theorem uX0_keepersOfAny (Γ : Cx) : TbOK Γ mX0_keepersOfAny (fT fX0, cT kX0, kT (jX0_keepersOfAny Γ)) := tb_ok fX0_ok kX0_ok (all_cons ⟨call_V (n := 1) (T := TX0) (N := 9) (ok_X0_keeperAsSet Γ) (rv_X0_keeperAsSet (Γ := Γ)) rfl bw_483 bw_480 bw_481 bw_482 bw_44 no_X0_keeperAsSet ⟨⟨rfl, rfl⟩, ⟨by decide, by decide⟩, ⟨by decide, by decide⟩⟩, fun _ => mono_X0_keeperAsSet (Γ := Γ)⟩ (all_nil))
set_option maxRecDepth 20000 in
theorem ok_X0_keepersOfAny (Γ : Cx) : Ok Γ yX0_keepersOfAny mX0_keepersOfAny (sp_X0_keepersOfAny Γ) := by
  refine ok_intro (by decide +kernel) rfl rfl ?_
  intro av σ K h
  obtain ⟨⟨a, aw, ak, ad⟩, ⟨w, kp, kd, day, gone, draw, P, rule, gd⟩, rfl, hc, h⟩ := h
  obtain ⟨⟨m1, m2, m3, m4⟩, e1, e2, e3, e4⟩ := hc
  simp only [ColE, iA] at e1 e2 e3 e4 m1 m2 m3 m4 h
  have loop : ∀ n j : Nat, j + n = 4 → YG Γ mX0_keepersOfAny K 4 [(0, .ref a), (1, .int (kany kp j)), (2, .int (nI j))] [] σ := by
    intro n
    induction n with
    | zero =>
      intro j hj
      obtain rfl : j = 4 := by omega
      refine yvc1_ok (uX0_keepersOfAny Γ) (S := [4]) 40 ?_
      simp only [yvc1, ge4, yvc_s, s1i, s2i, s1l, s2l, sil, s1r, sir, siir, slir, srir, svr, sd1, sd2, lg, lput, ldel, isL_i, isL_r, isL_l, jmp, obj, obj1, fI, fR, arI, arL, arR, hput, f4_0, f4_1, f4_2, f4_3, lc_0, lc_1, rok_i, rok_b, rok_y, strF, fput_1, fput_2, csum_nil, csum_i, csum_l, csum_r, va_up_self, bx_uu, Int.reduceAdd, List.elem_nil, List.elem_cons, List.take_succ_cons, List.take_zero, List.drop_succ_cons, List.drop_zero, List.take_nil, List.drop_nil, List.reverse_cons, List.reverse_nil, List.nil_append, List.cons_append, List.append_nil, Option.toList_some, Option.toList_none, List.getElem?_cons_zero, List.getElem?_cons_succ, List.set_cons_zero, List.set_cons_succ, List.length_cons, List.length_nil, reduceIte, reduceCtorEq, and_true, true_and, and_self, or_true, true_or, false_and, and_false, not_true_eq_false, not_false_eq_true, true_implies, false_implies, implies_true, Nat.reduceAdd, Nat.reduceLT, Nat.reduceEqDiff, Nat.reduceLeDiff, Nat.reduceBEq, Nat.zero_add, Nat.lt_add_one, Bool.false_eq_true, Bool.or_false, Bool.or_true, Bool.or_self, Nat.zero_ne_one, Nat.one_ne_zero, ite_true, ite_false, ne_eq, Nat.reduceSub, Nat.succ_eq_add_one, Nat.zero_lt_succ, Nat.add_one_ne_zero, false_or, or_false, mX0_keepersOfAny_c, mX0_keepersOfAny_n, mX0_keepersOfAny_r, mX0_keepersOfAny_l, dX0_keepersOfAny_0, ic_0, dX0_keepersOfAny_1, dX0_keepersOfAny_2, dX0_keepersOfAny_3, dX0_keepersOfAny_4, dX0_keepersOfAny_5, ic_4, dX0_keepersOfAny_6, tg_6_17, cnd2_ge, dX0_keepersOfAny_9, dX0_keepersOfAny_10, dX0_keepersOfAny_11, dX0_keepersOfAny_12, dX0_keepersOfAny_15, dX0_keepersOfAny_16, dX0_keepersOfAny_17, ic_1, dX0_keepersOfAny_20, tg_20_m16, dX0_keepersOfAny_23, dX0_keepersOfAny_24, jX0_keepersOfAny_0_65, st_aload_n, st_goto, st_iconst, st_if_icmp, st_iinc, st_iload_n, st_invokevirtual, st_ior, st_ireturn, st_istore_n]
      exact h
    | succ n ih =>
      intro j hj
      obtain ⟨c1, c2, c3⟩ := lt4 (show j < 4 by omega)
      have hj1 := ih (j + 1) (by omega)
      refine yvc1_ok (uX0_keepersOfAny Γ) (S := [4]) 40 ?_
      simp only [yvc1, c1, c2, c3, m1, m3, e1, e3, sp_X0_keeperAsSet, nI_1, yvc_s, s1i, s2i, s1l, s2l, sil, s1r, sir, siir, slir, srir, svr, sd1, sd2, lg, lput, ldel, isL_i, isL_r, isL_l, jmp, obj, obj1, fI, fR, arI, arL, arR, hput, f4_0, f4_1, f4_2, f4_3, lc_0, lc_1, rok_i, rok_b, rok_y, strF, fput_1, fput_2, csum_nil, csum_i, csum_l, csum_r, va_up_self, bx_uu, Int.reduceAdd, List.elem_nil, List.elem_cons, List.take_succ_cons, List.take_zero, List.drop_succ_cons, List.drop_zero, List.take_nil, List.drop_nil, List.reverse_cons, List.reverse_nil, List.nil_append, List.cons_append, List.append_nil, Option.toList_some, Option.toList_none, List.getElem?_cons_zero, List.getElem?_cons_succ, List.set_cons_zero, List.set_cons_succ, List.length_cons, List.length_nil, reduceIte, reduceCtorEq, and_true, true_and, and_self, or_true, true_or, false_and, and_false, not_true_eq_false, not_false_eq_true, true_implies, false_implies, implies_true, Nat.reduceAdd, Nat.reduceLT, Nat.reduceEqDiff, Nat.reduceLeDiff, Nat.reduceBEq, Nat.zero_add, Nat.lt_add_one, Bool.false_eq_true, Bool.or_false, Bool.or_true, Bool.or_self, Nat.zero_ne_one, Nat.one_ne_zero, ite_true, ite_false, ne_eq, Nat.reduceSub, Nat.succ_eq_add_one, Nat.zero_lt_succ, Nat.add_one_ne_zero, false_or, or_false, mX0_keepersOfAny_c, mX0_keepersOfAny_n, mX0_keepersOfAny_r, mX0_keepersOfAny_l, dX0_keepersOfAny_0, ic_0, dX0_keepersOfAny_1, dX0_keepersOfAny_2, dX0_keepersOfAny_3, dX0_keepersOfAny_4, dX0_keepersOfAny_5, ic_4, dX0_keepersOfAny_6, tg_6_17, cnd2_ge, dX0_keepersOfAny_9, dX0_keepersOfAny_10, dX0_keepersOfAny_11, dX0_keepersOfAny_12, dX0_keepersOfAny_15, dX0_keepersOfAny_16, dX0_keepersOfAny_17, ic_1, dX0_keepersOfAny_20, tg_20_m16, dX0_keepersOfAny_23, dX0_keepersOfAny_24, jX0_keepersOfAny_0_65, st_aload_n, st_goto, st_iconst, st_if_icmp, st_iinc, st_iload_n, st_invokevirtual, st_ior, st_ireturn, st_istore_n]
      exact hj1
  refine ⟨Nat.le_of_ble_eq_true rfl, yvc_ok (uX0_keepersOfAny Γ) (S := [4]) 40 _ _ _ _ ?_⟩
  simp only [lv_args, Value.category, yvc_s, s1i, s2i, s1l, s2l, sil, s1r, sir, siir, slir, srir, svr, sd1, sd2, lg, lput, ldel, isL_i, isL_r, isL_l, jmp, obj, obj1, fI, fR, arI, arL, arR, hput, f4_0, f4_1, f4_2, f4_3, lc_0, lc_1, rok_i, rok_b, rok_y, strF, fput_1, fput_2, csum_nil, csum_i, csum_l, csum_r, va_up_self, bx_uu, Int.reduceAdd, List.elem_nil, List.elem_cons, List.take_succ_cons, List.take_zero, List.drop_succ_cons, List.drop_zero, List.take_nil, List.drop_nil, List.reverse_cons, List.reverse_nil, List.nil_append, List.cons_append, List.append_nil, Option.toList_some, Option.toList_none, List.getElem?_cons_zero, List.getElem?_cons_succ, List.set_cons_zero, List.set_cons_succ, List.length_cons, List.length_nil, reduceIte, reduceCtorEq, and_true, true_and, and_self, or_true, true_or, false_and, and_false, not_true_eq_false, not_false_eq_true, true_implies, false_implies, implies_true, Nat.reduceAdd, Nat.reduceLT, Nat.reduceEqDiff, Nat.reduceLeDiff, Nat.reduceBEq, Nat.zero_add, Nat.lt_add_one, Bool.false_eq_true, Bool.or_false, Bool.or_true, Bool.or_self, Nat.zero_ne_one, Nat.one_ne_zero, ite_true, ite_false, ne_eq, Nat.reduceSub, Nat.succ_eq_add_one, Nat.zero_lt_succ, Nat.add_one_ne_zero, false_or, or_false, mX0_keepersOfAny_c, mX0_keepersOfAny_n, mX0_keepersOfAny_r, mX0_keepersOfAny_l, dX0_keepersOfAny_0, ic_0, dX0_keepersOfAny_1, dX0_keepersOfAny_2, dX0_keepersOfAny_3, dX0_keepersOfAny_4, dX0_keepersOfAny_5, ic_4, dX0_keepersOfAny_6, tg_6_17, cnd2_ge, dX0_keepersOfAny_9, dX0_keepersOfAny_10, dX0_keepersOfAny_11, dX0_keepersOfAny_12, dX0_keepersOfAny_15, dX0_keepersOfAny_16, dX0_keepersOfAny_17, ic_1, dX0_keepersOfAny_20, tg_20_m16, dX0_keepersOfAny_23, dX0_keepersOfAny_24, jX0_keepersOfAny_0_65, st_aload_n, st_goto, st_iconst, st_if_icmp, st_iinc, st_iload_n, st_invokevirtual, st_ior, st_ireturn, st_istore_n]
  exact loop 4 0 rfl
def sp_X0_least (Γ : Cx) : YSp := fun av σ K => ∃ (A : CA) (s : CS) (d : Nat), av = [.ref A.1, .int (nI d)] ∧ d < 4 ∧ s.2.2.2.2.2.2.1 ≤ 5 ∧ Col Γ A s σ ∧ K (some (.int (lst s.1 (nI d) s.2.2.2.2.2.2.1).1)) σ
theorem rv_X0_least {Γ : Cx} : Recv (sp_X0_least Γ) 1 0 := by
  intro av σ K h
  obtain ⟨A, s, d, rfl, -, -, hc, -⟩ := h
  obtain ⟨fs, h1, h2⟩ := col_rv hc
  exact ⟨_, _, fs, rfl, rfl, h1, h2⟩
theorem bc_21 : (Int8.ofInt 21).toInt32 = 21 := by decide
theorem tg_15_31 : tgo 15 31 = some 46 := by decide
theorem tg_26_14 : tgo 26 14 = some 40 := by decide
theorem tg_43_m34 : tgo 43 (-34) = some 9 := by decide
def mX0_least : Mt := (⟨1, 0, 0, 22⟩, RX0, cX0_least, 5, some .int, (0, 0), none)
theorem mX0_least_c : mX0_least.2.2.1 = cX0_least := rfl
theorem mX0_least_n : mX0_least.2.2.2.1 = 5 := rfl
theorem mX0_least_r : mX0_least.2.2.2.2.1 = some .int := rfl
theorem mX0_least_l : mX0_least.2.2.2.2.2.2 = none := rfl
def jX0_least (Γ : Cx) : List ((Nat × Nat) × Nat × Bool × YSp) := [((0, 46), 3, true, sp_X0_wantOf Γ)]
theorem jX0_least_0_46 (Γ : Cx) : kT (jX0_least Γ) 0 46 = some (3, true, sp_X0_wantOf Γ) := rfl
theorem uX0_least (Γ : Cx) : TbOK Γ mX0_least (fT fX0, cT kX0, kT (jX0_least Γ)) := tb_ok fX0_ok kX0_ok (all_cons ⟨call_V (n := 2) (T := TX0) (N := 9) (ok_X0_wantOf Γ) (rv_X0_wantOf (Γ := Γ)) rfl bw_273 bw_286 bw_271 bw_272 bw_44 no_X0_wantOf ⟨⟨rfl, rfl⟩, ⟨by decide, by decide⟩, ⟨by decide, by decide⟩⟩, fun _ => mono_X0_wantOf (Γ := Γ)⟩ (all_nil))
set_option maxRecDepth 20000 in
theorem ok_X0_least (Γ : Cx) : Ok Γ yX0_least mX0_least (sp_X0_least Γ) := by
  refine ok_intro (by decide +kernel) rfl rfl ?_
  intro av σ K h
  obtain ⟨⟨a, aw, ak, ad⟩, ⟨w, kp, kd, day, gone, draw, P, rule, gd⟩, d, rfl, hd, hP, hc, h⟩ := h
  obtain ⟨⟨m1, m2, m3, m4⟩, e1, e2, e3, e4⟩ := hc
  simp only [ColE, iA] at e1 e2 e3 e4 m1 m2 m3 m4 h hP
  have loop : ∀ n j : Nat, j + n = P → YG Γ mX0_least K 9 [(0, .ref a), (1, .int (nI d)), (2, .int (lst w (nI d) j).1), (3, .int (lst w (nI d) j).2), (4, .int (nI j))] [] σ := by
    intro n
    induction n with
    | zero =>
      intro j hj
      obtain rfl : j = P := by omega
      refine yvc1_ok (uX0_least Γ) (S := [9]) 40 ?_
      simp only [yvc1, geP, m1, e1, yvc_s, s1i, s2i, s1l, s2l, sil, s1r, sir, siir, slir, srir, svr, sd1, sd2, lg, lput, ldel, isL_i, isL_r, isL_l, jmp, obj, obj1, fI, fR, arI, arL, arR, hput, f4_0, f4_1, f4_2, f4_3, lc_0, lc_1, rok_i, rok_b, rok_y, strF, fput_1, fput_2, csum_nil, csum_i, csum_l, csum_r, va_up_self, bx_uu, Int.reduceAdd, List.elem_nil, List.elem_cons, List.take_succ_cons, List.take_zero, List.drop_succ_cons, List.drop_zero, List.take_nil, List.drop_nil, List.reverse_cons, List.reverse_nil, List.nil_append, List.cons_append, List.append_nil, Option.toList_some, Option.toList_none, List.getElem?_cons_zero, List.getElem?_cons_succ, List.set_cons_zero, List.set_cons_succ, List.length_cons, List.length_nil, reduceIte, reduceCtorEq, and_true, true_and, and_self, or_true, true_or, false_and, and_false, not_true_eq_false, not_false_eq_true, true_implies, false_implies, implies_true, Nat.reduceAdd, Nat.reduceLT, Nat.reduceEqDiff, Nat.reduceLeDiff, Nat.reduceBEq, Nat.zero_add, Nat.lt_add_one, Bool.false_eq_true, Bool.or_false, Bool.or_true, Bool.or_self, Nat.zero_ne_one, Nat.one_ne_zero, ite_true, ite_false, ne_eq, Nat.reduceSub, Nat.succ_eq_add_one, Nat.zero_lt_succ, Nat.add_one_ne_zero, false_or, or_false, mX0_least_c, mX0_least_n, mX0_least_r, mX0_least_l, dX0_least_0, bc_m4, dX0_least_2, dX0_least_3, bc_21, dX0_least_5, dX0_least_6, ic_0, dX0_least_7, dX0_least_9, dX0_least_11, dX0_least_12, fl_0_15_0, dX0_least_15, tg_15_31, cnd2_ge, dX0_least_18, dX0_least_19, dX0_least_21, dX0_least_22, dX0_least_25, dX0_least_26, tg_26_14, dX0_least_29, dX0_least_30, dX0_least_32, dX0_least_33, dX0_least_36, dX0_least_37, dX0_least_39, dX0_least_40, ic_1, dX0_least_43, tg_43_m34, dX0_least_46, dX0_least_47, jX0_least_0_46, st_aload_n, st_bipush, st_getfield, st_goto, st_iconst, st_if_icmp, st_iinc, st_iload, st_iload_n, st_invokevirtual, st_ireturn, st_istore, st_istore_n]
      exact h
    | succ n ih =>
      intro j hj
      have c1 := ltP (show j < P by omega) hP
      have c2 := ix_in (show j < 5 by omega) hd
      have hj1 := ih (j + 1) (by omega)
      refine yvc1_ok (uX0_least Γ) (S := [9]) 60 ?_
      simp only [yvc1, c1, c2, m1, m2, e1, e2, sp_X0_wantOf, nI_1, yvc_s, s1i, s2i, s1l, s2l, sil, s1r, sir, siir, slir, srir, svr, sd1, sd2, lg, lput, ldel, isL_i, isL_r, isL_l, jmp, obj, obj1, fI, fR, arI, arL, arR, hput, f4_0, f4_1, f4_2, f4_3, lc_0, lc_1, rok_i, rok_b, rok_y, strF, fput_1, fput_2, csum_nil, csum_i, csum_l, csum_r, va_up_self, bx_uu, Int.reduceAdd, List.elem_nil, List.elem_cons, List.take_succ_cons, List.take_zero, List.drop_succ_cons, List.drop_zero, List.take_nil, List.drop_nil, List.reverse_cons, List.reverse_nil, List.nil_append, List.cons_append, List.append_nil, Option.toList_some, Option.toList_none, List.getElem?_cons_zero, List.getElem?_cons_succ, List.set_cons_zero, List.set_cons_succ, List.length_cons, List.length_nil, reduceIte, reduceCtorEq, and_true, true_and, and_self, or_true, true_or, false_and, and_false, not_true_eq_false, not_false_eq_true, true_implies, false_implies, implies_true, Nat.reduceAdd, Nat.reduceLT, Nat.reduceEqDiff, Nat.reduceLeDiff, Nat.reduceBEq, Nat.zero_add, Nat.lt_add_one, Bool.false_eq_true, Bool.or_false, Bool.or_true, Bool.or_self, Nat.zero_ne_one, Nat.one_ne_zero, ite_true, ite_false, ne_eq, Nat.reduceSub, Nat.succ_eq_add_one, Nat.zero_lt_succ, Nat.add_one_ne_zero, false_or, or_false, mX0_least_c, mX0_least_n, mX0_least_r, mX0_least_l, dX0_least_0, bc_m4, dX0_least_2, dX0_least_3, bc_21, dX0_least_5, dX0_least_6, ic_0, dX0_least_7, dX0_least_9, dX0_least_11, dX0_least_12, fl_0_15_0, dX0_least_15, tg_15_31, cnd2_ge, dX0_least_18, dX0_least_19, dX0_least_21, dX0_least_22, dX0_least_25, dX0_least_26, tg_26_14, dX0_least_29, dX0_least_30, dX0_least_32, dX0_least_33, dX0_least_36, dX0_least_37, dX0_least_39, dX0_least_40, ic_1, dX0_least_43, tg_43_m34, dX0_least_46, dX0_least_47, jX0_least_0_46, st_aload_n, st_bipush, st_getfield, st_goto, st_iconst, st_if_icmp, st_iinc, st_iload, st_iload_n, st_invokevirtual, st_ireturn, st_istore, st_istore_n]
      refine ⟨fun c => ?_, fun c => ?_⟩
      · rw [lst, if_neg (i_nlt.mpr c)] at hj1
        exact hj1
      · rw [lst, if_pos (i_nle.mp c)] at hj1
        exact hj1
  refine ⟨Nat.le_of_ble_eq_true rfl, yvc_ok (uX0_least Γ) (S := [9]) 40 _ _ _ _ ?_⟩
  simp only [lv_args, Value.category, yvc_s, s1i, s2i, s1l, s2l, sil, s1r, sir, siir, slir, srir, svr, sd1, sd2, lg, lput, ldel, isL_i, isL_r, isL_l, jmp, obj, obj1, fI, fR, arI, arL, arR, hput, f4_0, f4_1, f4_2, f4_3, lc_0, lc_1, rok_i, rok_b, rok_y, strF, fput_1, fput_2, csum_nil, csum_i, csum_l, csum_r, va_up_self, bx_uu, Int.reduceAdd, List.elem_nil, List.elem_cons, List.take_succ_cons, List.take_zero, List.drop_succ_cons, List.drop_zero, List.take_nil, List.drop_nil, List.reverse_cons, List.reverse_nil, List.nil_append, List.cons_append, List.append_nil, Option.toList_some, Option.toList_none, List.getElem?_cons_zero, List.getElem?_cons_succ, List.set_cons_zero, List.set_cons_succ, List.length_cons, List.length_nil, reduceIte, reduceCtorEq, and_true, true_and, and_self, or_true, true_or, false_and, and_false, not_true_eq_false, not_false_eq_true, true_implies, false_implies, implies_true, Nat.reduceAdd, Nat.reduceLT, Nat.reduceEqDiff, Nat.reduceLeDiff, Nat.reduceBEq, Nat.zero_add, Nat.lt_add_one, Bool.false_eq_true, Bool.or_false, Bool.or_true, Bool.or_self, Nat.zero_ne_one, Nat.one_ne_zero, ite_true, ite_false, ne_eq, Nat.reduceSub, Nat.succ_eq_add_one, Nat.zero_lt_succ, Nat.add_one_ne_zero, false_or, or_false, mX0_least_c, mX0_least_n, mX0_least_r, mX0_least_l, dX0_least_0, bc_m4, dX0_least_2, dX0_least_3, bc_21, dX0_least_5, dX0_least_6, ic_0, dX0_least_7, dX0_least_9, dX0_least_11, dX0_least_12, fl_0_15_0, dX0_least_15, tg_15_31, cnd2_ge, dX0_least_18, dX0_least_19, dX0_least_21, dX0_least_22, dX0_least_25, dX0_least_26, tg_26_14, dX0_least_29, dX0_least_30, dX0_least_32, dX0_least_33, dX0_least_36, dX0_least_37, dX0_least_39, dX0_least_40, ic_1, dX0_least_43, tg_43_m34, dX0_least_46, dX0_least_47, jX0_least_0_46, st_aload_n, st_bipush, st_getfield, st_goto, st_iconst, st_if_icmp, st_iinc, st_iload, st_iload_n, st_invokevirtual, st_ireturn, st_istore, st_istore_n]
  exact loop P 0 (by omega)
def sp_X0_curiosity (Γ : Cx) : YSp := fun av σ K => ∃ (A : CA) (s : CS) (p : Int32), av = [.ref A.1, .int p] ∧ Col Γ A s σ ∧ K (some (.int (bcE (kset s.2.1 p 4)))) σ
theorem rv_X0_curiosity {Γ : Cx} : Recv (sp_X0_curiosity Γ) 1 0 := by
  intro av σ K h
  obtain ⟨A, s, p, rfl, hc, -⟩ := h
  obtain ⟨fs, h1, h2⟩ := col_rv hc
  exact ⟨_, _, fs, rfl, rfl, h1, h2⟩
theorem bw_302 : Cond.code yJ6_bitCount_0f7a4 cJ6_bitCount_0f7a4 1 (some .int) ∈ BW := bw_i 302 (by decide +kernel) (by decide +kernel)
theorem bw_50 : Cond.initialized RJ6 ∈ BW := bw_i 50 (by decide +kernel) (by decide +kernel)
theorem no_J6_bitCount_0f7a4 : NameOK yJ6_bitCount_0f7a4 1 := by unfold NameOK; decide +kernel
theorem bw_300 : Cond.methodLink RX0 75 yJ6_bitCount_0f7a4 ∈ BW := bw_i 300 (by decide +kernel) (by decide +kernel)
theorem bw_301 : Cond.static yJ6_bitCount_0f7a4 ∈ BW := bw_i 301 (by decide +kernel) (by decide +kernel)
def mX0_curiosity : Mt := (⟨1, 0, 0, 23⟩, RX0, cX0_curiosity, 2, some .int, (0, 0), none)
theorem mX0_curiosity_c : mX0_curiosity.2.2.1 = cX0_curiosity := rfl
theorem mX0_curiosity_n : mX0_curiosity.2.2.2.1 = 2 := rfl
theorem mX0_curiosity_r : mX0_curiosity.2.2.2.2.1 = some .int := rfl
theorem mX0_curiosity_l : mX0_curiosity.2.2.2.2.2.2 = none := rfl
def jX0_curiosity (Γ : Cx) : List ((Nat × Nat) × Nat × Bool × YSp) := [((0, 62), 2, false, sp_X0_keysOf Γ), ((1, 75), 1, true, sp_J6_bitCount_0f7a4 Γ)]
theorem jX0_curiosity_0_62 (Γ : Cx) : kT (jX0_curiosity Γ) 0 62 = some (2, false, sp_X0_keysOf Γ) := rfl
theorem jX0_curiosity_1_75 (Γ : Cx) : kT (jX0_curiosity Γ) 1 75 = some (1, true, sp_J6_bitCount_0f7a4 Γ) := rfl
theorem uX0_curiosity (Γ : Cx) : TbOK Γ mX0_curiosity (fT fX0, cT kX0, kT (jX0_curiosity Γ)) := tb_ok fX0_ok kX0_ok (all_cons ⟨call_V (n := 1) (T := TX0) (N := 9) (ok_X0_keysOf Γ) (rv_X0_keysOf (Γ := Γ)) rfl bw_281 bw_299 bw_279 bw_280 bw_44 no_X0_keysOf ⟨⟨rfl, rfl⟩, ⟨by decide, by decide⟩, ⟨by decide, by decide⟩⟩, fun z => by cases z⟩ (all_cons ⟨call_S (n := 1) (ok_J6_bitCount_0f7a4 Γ) (rv_J6_bitCount_0f7a4 (Γ := Γ)) bw_302 bw_300 bw_301 bw_50 no_J6_bitCount_0f7a4 ⟨⟨rfl, rfl⟩, ⟨by decide, by decide⟩, ⟨by decide, by decide⟩⟩, fun _ => mono_J6_bitCount_0f7a4 (Γ := Γ)⟩ (all_nil)))
set_option maxRecDepth 20000 in
theorem ok_X0_curiosity (Γ : Cx) : Ok Γ yX0_curiosity mX0_curiosity (sp_X0_curiosity Γ) := by
  refine ok_intro (by decide +kernel) rfl rfl ?_
  intro av σ K h
  obtain ⟨A, s, p, rfl, hc, h⟩ := h
  refine ⟨Nat.le_of_ble_eq_true rfl, yvc_ok (uX0_curiosity Γ) (S := []) 40 _ _ _ _ ?_⟩
  simp only [lv_args, Value.category, yvc_s, s1i, s2i, s1l, s2l, sil, s1r, sir, siir, slir, srir, svr, sd1, sd2, lg, lput, ldel, isL_i, isL_r, isL_l, jmp, obj, obj1, fI, fR, arI, arL, arR, hput, f4_0, f4_1, f4_2, f4_3, lc_0, lc_1, rok_i, rok_b, rok_y, strF, fput_1, fput_2, csum_nil, csum_i, csum_l, csum_r, va_up_self, bx_uu, Int.reduceAdd, List.elem_nil, List.elem_cons, List.take_succ_cons, List.take_zero, List.drop_succ_cons, List.drop_zero, List.take_nil, List.drop_nil, List.reverse_cons, List.reverse_nil, List.nil_append, List.cons_append, List.append_nil, Option.toList_some, Option.toList_none, List.getElem?_cons_zero, List.getElem?_cons_succ, List.set_cons_zero, List.set_cons_succ, List.length_cons, List.length_nil, reduceIte, reduceCtorEq, and_true, true_and, and_self, or_true, true_or, false_and, and_false, not_true_eq_false, not_false_eq_true, true_implies, false_implies, implies_true, Nat.reduceAdd, Nat.reduceLT, Nat.reduceEqDiff, Nat.reduceLeDiff, Nat.reduceBEq, Nat.zero_add, Nat.lt_add_one, Bool.false_eq_true, Bool.or_false, Bool.or_true, Bool.or_self, Nat.zero_ne_one, Nat.one_ne_zero, ite_true, ite_false, ne_eq, Nat.reduceSub, Nat.succ_eq_add_one, Nat.zero_lt_succ, Nat.add_one_ne_zero, false_or, or_false, mX0_curiosity_c, mX0_curiosity_n, mX0_curiosity_r, mX0_curiosity_l, dX0_curiosity_0, dX0_curiosity_1, dX0_curiosity_2, dX0_curiosity_5, dX0_curiosity_8, jX0_curiosity_0_62, jX0_curiosity_1_75, st_aload_n, st_iload_n, st_invokestatic, st_invokevirtual, st_ireturn]
  refine ⟨A, s, _, rfl, hc, ?_⟩
  refine yvc_ok (uX0_curiosity Γ) (S := []) 40 _ _ _ _ ?_
  simp only [sp_J6_bitCount_0f7a4, yvc_s, s1i, s2i, s1l, s2l, sil, s1r, sir, siir, slir, srir, svr, sd1, sd2, lg, lput, ldel, isL_i, isL_r, isL_l, jmp, obj, obj1, fI, fR, arI, arL, arR, hput, f4_0, f4_1, f4_2, f4_3, lc_0, lc_1, rok_i, rok_b, rok_y, strF, fput_1, fput_2, csum_nil, csum_i, csum_l, csum_r, va_up_self, bx_uu, Int.reduceAdd, List.elem_nil, List.elem_cons, List.take_succ_cons, List.take_zero, List.drop_succ_cons, List.drop_zero, List.take_nil, List.drop_nil, List.reverse_cons, List.reverse_nil, List.nil_append, List.cons_append, List.append_nil, Option.toList_some, Option.toList_none, List.getElem?_cons_zero, List.getElem?_cons_succ, List.set_cons_zero, List.set_cons_succ, List.length_cons, List.length_nil, reduceIte, reduceCtorEq, and_true, true_and, and_self, or_true, true_or, false_and, and_false, not_true_eq_false, not_false_eq_true, true_implies, false_implies, implies_true, Nat.reduceAdd, Nat.reduceLT, Nat.reduceEqDiff, Nat.reduceLeDiff, Nat.reduceBEq, Nat.zero_add, Nat.lt_add_one, Bool.false_eq_true, Bool.or_false, Bool.or_true, Bool.or_self, Nat.zero_ne_one, Nat.one_ne_zero, ite_true, ite_false, ne_eq, Nat.reduceSub, Nat.succ_eq_add_one, Nat.zero_lt_succ, Nat.add_one_ne_zero, false_or, or_false, mX0_curiosity_c, mX0_curiosity_n, mX0_curiosity_r, mX0_curiosity_l, dX0_curiosity_0, dX0_curiosity_1, dX0_curiosity_2, dX0_curiosity_5, dX0_curiosity_8, jX0_curiosity_0_62, jX0_curiosity_1_75, st_aload_n, st_iload_n, st_invokestatic, st_invokevirtual, st_ireturn]
  exact h
def sp_X0_warmth (_ : Cx) : YSp := fun av σ K => match av with | [.ref a] => obj1 σ a 0 fun fs => fI fs 2 fun day => K (some (.int (warm day))) σ | _ => False
theorem mono_X0_warmth {Γ : Cx} : Mono (sp_X0_warmth Γ) := by
  intro av σ K K' hk h
  unfold sp_X0_warmth at h ⊢
  split at h
  · exact obj1_mono (fun _ h => fI_mono (fun _ h => hk _ _ h) h) h
  · exact h.elim
theorem rv_X0_warmth {Γ : Cx} : Recv (sp_X0_warmth Γ) 0 0 := by
  intro av σ K h
  unfold sp_X0_warmth at h
  split at h
  · obtain ⟨fs, h1, h2, -⟩ := obj1_recv h
    exact ⟨_, _, fs, rfl, rfl, h1, h2⟩
  · exact h.elim
theorem tg_6_7 : tgo 6 7 = some 13 := by decide
theorem tg_10_4 : tgo 10 4 = some 14 := by decide
def mX0_warmth : Mt := (⟨0, 0, 0, 0⟩, RX0, cX0_warmth, 1, some .int, (0, 0), none)
theorem mX0_warmth_c : mX0_warmth.2.2.1 = cX0_warmth := rfl
theorem mX0_warmth_n : mX0_warmth.2.2.2.1 = 1 := rfl
theorem mX0_warmth_r : mX0_warmth.2.2.2.2.1 = some .int := rfl
theorem mX0_warmth_l : mX0_warmth.2.2.2.2.2.2 = none := rfl
def jX0_warmth (Γ : Cx) : List ((Nat × Nat) × Nat × Bool × YSp) := []
theorem uX0_warmth (Γ : Cx) : TbOK Γ mX0_warmth (fT fX0, cT kX0, kT (jX0_warmth Γ)) := tb_ok fX0_ok kX0_ok (all_nil)
theorem i2ne0 : ¬ (2 : Int32) = 0 := by decide
theorem i4ne0 : ¬ (4 : Int32) = 0 := by decide
set_option maxRecDepth 20000 in
theorem ok_X0_warmth (Γ : Cx) : Ok Γ yX0_warmth mX0_warmth (sp_X0_warmth Γ) := by
  refine ok_intro (by decide +kernel) rfl rfl ?_
  intro av σ K h
  unfold sp_X0_warmth at h
  split at h
  · next a =>
    obtain ⟨fs, h1, h2, h⟩ := obj1_recv h
    obtain ⟨day, h3, h⟩ := fI_recv h
    refine ⟨Nat.le_of_ble_eq_true rfl, yvc_ok (uX0_warmth Γ) (S := []) 40 _ _ _ _ ?_⟩
    simp only [lv_args, Value.category, h1, h2, h3, i2ne0, yvc_s, s1i, s2i, s1l, s2l, sil, s1r, sir, siir, slir, srir, svr, sd1, sd2, lg, lput, ldel, isL_i, isL_r, isL_l, jmp, obj, obj1, fI, fR, arI, arL, arR, hput, f4_0, f4_1, f4_2, f4_3, lc_0, lc_1, rok_i, rok_b, rok_y, strF, fput_1, fput_2, csum_nil, csum_i, csum_l, csum_r, va_up_self, bx_uu, Int.reduceAdd, List.elem_nil, List.elem_cons, List.take_succ_cons, List.take_zero, List.drop_succ_cons, List.drop_zero, List.take_nil, List.drop_nil, List.reverse_cons, List.reverse_nil, List.nil_append, List.cons_append, List.append_nil, Option.toList_some, Option.toList_none, List.getElem?_cons_zero, List.getElem?_cons_succ, List.set_cons_zero, List.set_cons_succ, List.length_cons, List.length_nil, reduceIte, reduceCtorEq, and_true, true_and, and_self, or_true, true_or, false_and, and_false, not_true_eq_false, not_false_eq_true, true_implies, false_implies, implies_true, Nat.reduceAdd, Nat.reduceLT, Nat.reduceEqDiff, Nat.reduceLeDiff, Nat.reduceBEq, Nat.zero_add, Nat.lt_add_one, Bool.false_eq_true, Bool.or_false, Bool.or_true, Bool.or_self, Nat.zero_ne_one, Nat.one_ne_zero, ite_true, ite_false, ne_eq, Nat.reduceSub, Nat.succ_eq_add_one, Nat.zero_lt_succ, Nat.add_one_ne_zero, false_or, or_false, mX0_warmth_c, mX0_warmth_n, mX0_warmth_r, mX0_warmth_l, dX0_warmth_0, dX0_warmth_1, fl_0_80_0, dX0_warmth_4, ic_2, dX0_warmth_5, dX0_warmth_6, tg_6_7, cnd1_ne, dX0_warmth_9, ic_1, dX0_warmth_10, tg_10_4, dX0_warmth_13, ic_0, dX0_warmth_14, st_aload_n, st_getfield, st_goto, st_iconst, st_ifCond, st_irem, st_ireturn]
    refine ⟨fun c => ?_, fun c => ?_⟩
    · rw [warm, if_neg c] at h
      exact h
    · rw [warm, if_pos (Classical.not_not.mp c)] at h
      exact h
  · exact h.elim
