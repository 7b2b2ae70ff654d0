/-! ===== YawnKeysModel: rows, a day ===== -/
theorem cpN_0 (f g : Nat → Int32) : cpN 0 f g = g := by
  funext k
  unfold cpN va_cpy
  rw [if_neg (by omega)]
theorem cpN_s (f g : Nat → Int32) (n : Nat) : upd (cpN n f g) n (f n) = cpN (n + 1) f g := by
  funext k
  unfold cpN va_cpy
  by_cases e : k = n
  · subst e
    rw [pk_us, if_pos (by omega)]
    congr 1
    omega
  · rw [pk_un e]
    by_cases c : k < n
    · rw [if_pos (by omega), if_pos (by omega)]
    · rw [if_neg (by omega), if_neg (by omega)]
theorem lt27 {j : Nat} (h : j < 27) : (¬ (27 : Int32) ≤ nI j) ∧ vp_in (nI j) 27 ∧ (nI j).toNatClampNeg = j := ⟨nI_ge h (by decide), vp_in_nI h (by decide), nI_clamp (by omega)⟩
theorem ge27 : (27 : Int32) ≤ nI 27 := by decide
def asd (s : MS) : MS := (s.1, updA s.2.1 4 (cpN 27 (s.2.1 3) (s.2.1 4)), s.2.2)
def tkb (s : MS) : MS := (s.1, updA s.2.1 3 (cpN 27 (s.2.1 4) (s.2.1 3)), s.2.2)
def sp_X7_aside (Γ : Cx) : YSp := mq Γ [] (fun _ => True) (fun s s' r => s' = asd s ∧ r = none)
theorem rv_X7_aside {Γ : Cx} : Recv (sp_X7_aside Γ) 0 7 := by
  intro av σ K h
  obtain ⟨q, fs, h1, h2, h3⟩ := rv_mq h
  exact ⟨q, _, fs, h1, rfl, h2, h3⟩
theorem bc_27 : (Int8.ofInt 27).toInt32 = 27 := by decide
theorem tg_5_21 : tgo 5 21 = some 26 := by decide
theorem tg_23_m21 : tgo 23 (-21) = some 2 := by decide
def mX7_aside : Mt := (⟨0, 0, 0, 0⟩, RX7, cX7_aside, 2, none, (0, 0), none)
theorem mX7_aside_c : mX7_aside.2.2.1 = cX7_aside := rfl
theorem mX7_aside_n : mX7_aside.2.2.2.1 = 2 := rfl
theorem mX7_aside_r : mX7_aside.2.2.2.2.1 = none := rfl
theorem mX7_aside_l : mX7_aside.2.2.2.2.2.2 = none := rfl
def jX7_aside (Γ : Cx) : List ((Nat × Nat) × Nat × Bool × YSp) := []
theorem uX7_aside (Γ : Cx) : TbOK Γ mX7_aside (fT fX7, cT kX7, kT (jX7_aside Γ)) := tb_ok fX7_ok kX7_ok (all_nil)
set_option maxRecDepth 20000 in
theorem ok_X7_aside (Γ : Cx) : Ok Γ yX7_aside mX7_aside (sp_X7_aside Γ) := by
  refine ok_intro (by decide +kernel) rfl rfl ?_
  intro av σ K h
  obtain ⟨lab, ⟨a, ad⟩, ⟨sc, ar, it⟩, rfl, hM, -, h⟩ := h
  simp only at h hM
  have loop : ∀ n j : Nat, j + n = 27 → ∀ σ1, frm (fL lab 30) σ σ1 → Mod Γ lab (a, ad) (sc, updA ar 4 (cpN j (ar 3) (ar 4)), it) σ1 → YG Γ mX7_aside K 2 [(0, .ref a), (1, .int (nI j))] [] σ1 := by
    intro n
    induction n with
    | zero =>
      intro j hj σ1 hf hM1
      obtain rfl : j = 27 := by omega
      refine yvc1_ok (uX7_aside Γ) (S := [2]) 40 ?_
      simp only [yvc1, ge27, yvc_s, s1i, s2i, s1l, s2l, sil, s1r, sir, siir, slir, srir, svr, sd1, sd2, lg, lput, ldel, isL_i, isL_r, isL_l, jmp, obj, obj1, fI, fR, arI, arL, arR, hput, f4_0, f4_1, f4_2, f4_3, lc_0, lc_1, rok_i, rok_b, rok_y, strF, fput_1, fput_2, csum_nil, csum_i, csum_l, csum_r, va_up_self, bx_uu, Int.reduceAdd, List.elem_nil, List.elem_cons, List.take_succ_cons, List.take_zero, List.drop_succ_cons, List.drop_zero, List.take_nil, List.drop_nil, List.reverse_cons, List.reverse_nil, List.nil_append, List.cons_append, List.append_nil, Option.toList_some, Option.toList_none, List.getElem?_cons_zero, List.getElem?_cons_succ, List.set_cons_zero, List.set_cons_succ, List.length_cons, List.length_nil, reduceIte, reduceCtorEq, and_true, true_and, and_self, or_true, true_or, false_and, and_false, not_true_eq_false, not_false_eq_true, true_implies, false_implies, implies_true, Nat.reduceAdd, Nat.reduceLT, Nat.reduceEqDiff, Nat.reduceLeDiff, Nat.reduceBEq, Nat.zero_add, Nat.lt_add_one, Bool.false_eq_true, Bool.or_false, Bool.or_true, Bool.or_self, Nat.zero_ne_one, Nat.one_ne_zero, ite_true, ite_false, ne_eq, Nat.reduceSub, Nat.succ_eq_add_one, Nat.zero_lt_succ, Nat.add_one_ne_zero, false_or, or_false, mX7_aside_c, mX7_aside_n, mX7_aside_r, mX7_aside_l, dX7_aside_0, ic_0, dX7_aside_1, dX7_aside_2, dX7_aside_3, bc_27, dX7_aside_5, tg_5_21, cnd2_ge, dX7_aside_8, dX7_aside_9, fl_7_20_7, dX7_aside_12, dX7_aside_13, dX7_aside_14, fl_7_17_7, dX7_aside_17, dX7_aside_18, dX7_aside_19, dX7_aside_20, ic_1, dX7_aside_23, tg_23_m21, dX7_aside_26, st_aload_n, st_bipush, st_getfield, st_goto, st_iaload, st_iastore, st_iconst, st_if_icmp, st_iinc, st_iload_n, st_istore_n, st_return]
      exact h σ1 _ _ ⟨rfl, rfl⟩ hf hM1
    | succ n ih =>
      intro j hj σ1 hf hM1
      obtain ⟨c1, c2, c3⟩ := lt27 (show j < 27 by omega)
      have hM2 := hM1.putA (k := 4) rfl (upd (cpN j (ar 3) (ar 4)) j (ar 3 j))
      simp only [updA_updA, cpN_s] at hM2
      have hj1 := ih (j + 1) (by omega) _ (hf.tr (hM1.frA (k := 4) rfl)) hM2
      obtain ⟨⟨m1, -⟩, e1, -⟩ := id hM1
      obtain ⟨m3, e3⟩ := hM1.arr 3 rfl
      obtain ⟨m4, e4⟩ := hM1.arr 4 rfl
      rw [← cpN_s] at hj1
      simp only [ME, iA, lenM, hput, updA_at, updA_ne (show (3 : Nat) ≠ 4 by decide)] at m1 e1 m3 e3 m4 e4 hj1
      refine yvc1_ok (uX7_aside Γ) (S := [2]) 40 ?_
      simp only [yvc1, c1, c2, c3, m1, e1, m3, e3, m4, e4, nI_1, yvc_s, s1i, s2i, s1l, s2l, sil, s1r, sir, siir, slir, srir, svr, sd1, sd2, lg, lput, ldel, isL_i, isL_r, isL_l, jmp, obj, obj1, fI, fR, arI, arL, arR, hput, f4_0, f4_1, f4_2, f4_3, lc_0, lc_1, rok_i, rok_b, rok_y, strF, fput_1, fput_2, csum_nil, csum_i, csum_l, csum_r, va_up_self, bx_uu, Int.reduceAdd, List.elem_nil, List.elem_cons, List.take_succ_cons, List.take_zero, List.drop_succ_cons, List.drop_zero, List.take_nil, List.drop_nil, List.reverse_cons, List.reverse_nil, List.nil_append, List.cons_append, List.append_nil, Option.toList_some, Option.toList_none, List.getElem?_cons_zero, List.getElem?_cons_succ, List.set_cons_zero, List.set_cons_succ, List.length_cons, List.length_nil, reduceIte, reduceCtorEq, and_true, true_and, and_self, or_true, true_or, false_and, and_false, not_true_eq_false, not_false_eq_true, true_implies, false_implies, implies_true, Nat.reduceAdd, Nat.reduceLT, Nat.reduceEqDiff, Nat.reduceLeDiff, Nat.reduceBEq, Nat.zero_add, Nat.lt_add_one, Bool.false_eq_true, Bool.or_false, Bool.or_true, Bool.or_self, Nat.zero_ne_one, Nat.one_ne_zero, ite_true, ite_false, ne_eq, Nat.reduceSub, Nat.succ_eq_add_one, Nat.zero_lt_succ, Nat.add_one_ne_zero, false_or, or_false, mX7_aside_c, mX7_aside_n, mX7_aside_r, mX7_aside_l, dX7_aside_0, ic_0, dX7_aside_1, dX7_aside_2, dX7_aside_3, bc_27, dX7_aside_5, tg_5_21, cnd2_ge, dX7_aside_8, dX7_aside_9, fl_7_20_7, dX7_aside_12, dX7_aside_13, dX7_aside_14, fl_7_17_7, dX7_aside_17, dX7_aside_18, dX7_aside_19, dX7_aside_20, ic_1, dX7_aside_23, tg_23_m21, dX7_aside_26, st_aload_n, st_bipush, st_getfield, st_goto, st_iaload, st_iastore, st_iconst, st_if_icmp, st_iinc, st_iload_n, st_istore_n, st_return]
      exact hj1
  have h0 := loop 27 0 rfl σ frm.rf (by rw [cpN_0, updA_self]; exact hM)
  refine ⟨Nat.le_of_ble_eq_true rfl, yvc_ok (uX7_aside Γ) (S := [2]) 40 _ _ _ _ ?_⟩
  simp only [lv_args, Value.category, yvc_s, s1i, s2i, s1l, s2l, sil, s1r, sir, siir, slir, srir, svr, sd1, sd2, lg, lput, ldel, isL_i, isL_r, isL_l, jmp, obj, obj1, fI, fR, arI, arL, arR, hput, f4_0, f4_1, f4_2, f4_3, lc_0, lc_1, rok_i, rok_b, rok_y, strF, fput_1, fput_2, csum_nil, csum_i, csum_l, csum_r, va_up_self, bx_uu, Int.reduceAdd, List.elem_nil, List.elem_cons, List.take_succ_cons, List.take_zero, List.drop_succ_cons, List.drop_zero, List.take_nil, List.drop_nil, List.reverse_cons, List.reverse_nil, List.nil_append, List.cons_append, List.append_nil, Option.toList_some, Option.toList_none, List.getElem?_cons_zero, List.getElem?_cons_succ, List.set_cons_zero, List.set_cons_succ, List.length_cons, List.length_nil, reduceIte, reduceCtorEq, and_true, true_and, and_self, or_true, true_or, false_and, and_false, not_true_eq_false, not_false_eq_true, true_implies, false_implies, implies_true, Nat.reduceAdd, Nat.reduceLT, Nat.reduceEqDiff, Nat.reduceLeDiff, Nat.reduceBEq, Nat.zero_add, Nat.lt_add_one, Bool.false_eq_true, Bool.or_false, Bool.or_true, Bool.or_self, Nat.zero_ne_one, Nat.one_ne_zero, ite_true, ite_false, ne_eq, Nat.reduceSub, Nat.succ_eq_add_one, Nat.zero_lt_succ, Nat.add_one_ne_zero, false_or, or_false, mX7_aside_c, mX7_aside_n, mX7_aside_r, mX7_aside_l, dX7_aside_0, ic_0, dX7_aside_1, dX7_aside_2, dX7_aside_3, bc_27, dX7_aside_5, tg_5_21, cnd2_ge, dX7_aside_8, dX7_aside_9, fl_7_20_7, dX7_aside_12, dX7_aside_13, dX7_aside_14, fl_7_17_7, dX7_aside_17, dX7_aside_18, dX7_aside_19, dX7_aside_20, ic_1, dX7_aside_23, tg_23_m21, dX7_aside_26, st_aload_n, st_bipush, st_getfield, st_goto, st_iaload, st_iastore, st_iconst, st_if_icmp, st_iinc, st_iload_n, st_istore_n, st_return]
  exact h0
def sp_X7_take (Γ : Cx) : YSp := mq Γ [] (fun _ => True) (fun s s' r => s' = tkb s ∧ r = none)
theorem rv_X7_take {Γ : Cx} : Recv (sp_X7_take Γ) 0 7 := by
  intro av σ K h
  obtain ⟨q, fs, h1, h2, h3⟩ := rv_mq h
  exact ⟨q, _, fs, h1, rfl, h2, h3⟩
def mX7_take : Mt := (⟨0, 0, 0, 0⟩, RX7, cX7_take, 2, none, (0, 0), none)
theorem mX7_take_c : mX7_take.2.2.1 = cX7_take := rfl
theorem mX7_take_n : mX7_take.2.2.2.1 = 2 := rfl
theorem mX7_take_r : mX7_take.2.2.2.2.1 = none := rfl
theorem mX7_take_l : mX7_take.2.2.2.2.2.2 = none := rfl
def jX7_take (Γ : Cx) : List ((Nat × Nat) × Nat × Bool × YSp) := []
theorem uX7_take (Γ : Cx) : TbOK Γ mX7_take (fT fX7, cT kX7, kT (jX7_take Γ)) := tb_ok fX7_ok kX7_ok (all_nil)
set_option maxRecDepth 20000 in
theorem ok_X7_take (Γ : Cx) : Ok Γ yX7_take mX7_take (sp_X7_take Γ) := by
  refine ok_intro (by decide +kernel) rfl rfl ?_
  intro av σ K h
  obtain ⟨lab, ⟨a, ad⟩, ⟨sc, ar, it⟩, rfl, hM, -, h⟩ := h
  simp only at h hM
  have loop : ∀ n j : Nat, j + n = 27 → ∀ σ1, frm (fL lab 30) σ σ1 → Mod Γ lab (a, ad) (sc, updA ar 3 (cpN j (ar 4) (ar 3)), it) σ1 → YG Γ mX7_take K 2 [(0, .ref a), (1, .int (nI j))] [] σ1 := by
    intro n
    induction n with
    | zero =>
      intro j hj σ1 hf hM1
      obtain rfl : j = 27 := by omega
      refine yvc1_ok (uX7_take Γ) (S := [2]) 40 ?_
      simp only [yvc1, ge27, yvc_s, s1i, s2i, s1l, s2l, sil, s1r, sir, siir, slir, srir, svr, sd1, sd2, lg, lput, ldel, isL_i, isL_r, isL_l, jmp, obj, obj1, fI, fR, arI, arL, arR, hput, f4_0, f4_1, f4_2, f4_3, lc_0, lc_1, rok_i, rok_b, rok_y, strF, fput_1, fput_2, csum_nil, csum_i, csum_l, csum_r, va_up_self, bx_uu, Int.reduceAdd, List.elem_nil, List.elem_cons, List.take_succ_cons, List.take_zero, List.drop_succ_cons, List.drop_zero, List.take_nil, List.drop_nil, List.reverse_cons, List.reverse_nil, List.nil_append, List.cons_append, List.append_nil, Option.toList_some, Option.toList_none, List.getElem?_cons_zero, List.getElem?_cons_succ, List.set_cons_zero, List.set_cons_succ, List.length_cons, List.length_nil, reduceIte, reduceCtorEq, and_true, true_and, and_self, or_true, true_or, false_and, and_false, not_true_eq_false, not_false_eq_true, true_implies, false_implies, implies_true, Nat.reduceAdd, Nat.reduceLT, Nat.reduceEqDiff, Nat.reduceLeDiff, Nat.reduceBEq, Nat.zero_add, Nat.lt_add_one, Bool.false_eq_true, Bool.or_false, Bool.or_true, Bool.or_self, Nat.zero_ne_one, Nat.one_ne_zero, ite_true, ite_false, ne_eq, Nat.reduceSub, Nat.succ_eq_add_one, Nat.zero_lt_succ, Nat.add_one_ne_zero, false_or, or_false, mX7_take_c, mX7_take_n, mX7_take_r, mX7_take_l, dX7_take_0, ic_0, dX7_take_1, dX7_take_2, dX7_take_3, bc_27, dX7_take_5, tg_5_21, cnd2_ge, dX7_take_8, dX7_take_9, fl_7_17_7, dX7_take_12, dX7_take_13, dX7_take_14, fl_7_20_7, dX7_take_17, dX7_take_18, dX7_take_19, dX7_take_20, ic_1, dX7_take_23, tg_23_m21, dX7_take_26, st_aload_n, st_bipush, st_getfield, st_goto, st_iaload, st_iastore, st_iconst, st_if_icmp, st_iinc, st_iload_n, st_istore_n, st_return]
      exact h σ1 _ _ ⟨rfl, rfl⟩ hf hM1
    | succ n ih =>
      intro j hj σ1 hf hM1
      obtain ⟨c1, c2, c3⟩ := lt27 (show j < 27 by omega)
      have hM2 := hM1.putA (k := 3) rfl (upd (cpN j (ar 4) (ar 3)) j (ar 4 j))
      simp only [updA_updA, cpN_s] at hM2
      have hj1 := ih (j + 1) (by omega) _ (hf.tr (hM1.frA (k := 3) rfl)) hM2
      obtain ⟨⟨m1, -⟩, e1, -⟩ := id hM1
      obtain ⟨m3, e3⟩ := hM1.arr 3 rfl
      obtain ⟨m4, e4⟩ := hM1.arr 4 rfl
      rw [← cpN_s] at hj1
      simp only [ME, iA, lenM, hput, updA_at, updA_ne (show (4 : Nat) ≠ 3 by decide)] at m1 e1 m3 e3 m4 e4 hj1
      refine yvc1_ok (uX7_take Γ) (S := [2]) 40 ?_
      simp only [yvc1, c1, c2, c3, m1, e1, m3, e3, m4, e4, nI_1, yvc_s, s1i, s2i, s1l, s2l, sil, s1r, sir, siir, slir, srir, svr, sd1, sd2, lg, lput, ldel, isL_i, isL_r, isL_l, jmp, obj, obj1, fI, fR, arI, arL, arR, hput, f4_0, f4_1, f4_2, f4_3, lc_0, lc_1, rok_i, rok_b, rok_y, strF, fput_1, fput_2, csum_nil, csum_i, csum_l, csum_r, va_up_self, bx_uu, Int.reduceAdd, List.elem_nil, List.elem_cons, List.take_succ_cons, List.take_zero, List.drop_succ_cons, List.drop_zero, List.take_nil, List.drop_nil, List.reverse_cons, List.reverse_nil, List.nil_append, List.cons_append, List.append_nil, Option.toList_some, Option.toList_none, List.getElem?_cons_zero, List.getElem?_cons_succ, List.set_cons_zero, List.set_cons_succ, List.length_cons, List.length_nil, reduceIte, reduceCtorEq, and_true, true_and, and_self, or_true, true_or, false_and, and_false, not_true_eq_false, not_false_eq_true, true_implies, false_implies, implies_true, Nat.reduceAdd, Nat.reduceLT, Nat.reduceEqDiff, Nat.reduceLeDiff, Nat.reduceBEq, Nat.zero_add, Nat.lt_add_one, Bool.false_eq_true, Bool.or_false, Bool.or_true, Bool.or_self, Nat.zero_ne_one, Nat.one_ne_zero, ite_true, ite_false, ne_eq, Nat.reduceSub, Nat.succ_eq_add_one, Nat.zero_lt_succ, Nat.add_one_ne_zero, false_or, or_false, mX7_take_c, mX7_take_n, mX7_take_r, mX7_take_l, dX7_take_0, ic_0, dX7_take_1, dX7_take_2, dX7_take_3, bc_27, dX7_take_5, tg_5_21, cnd2_ge, dX7_take_8, dX7_take_9, fl_7_17_7, dX7_take_12, dX7_take_13, dX7_take_14, fl_7_20_7, dX7_take_17, dX7_take_18, dX7_take_19, dX7_take_20, ic_1, dX7_take_23, tg_23_m21, dX7_take_26, st_aload_n, st_bipush, st_getfield, st_goto, st_iaload, st_iastore, st_iconst, st_if_icmp, st_iinc, st_iload_n, st_istore_n, st_return]
      exact hj1
  have h0 := loop 27 0 rfl σ frm.rf (by rw [cpN_0, updA_self]; exact hM)
  refine ⟨Nat.le_of_ble_eq_true rfl, yvc_ok (uX7_take Γ) (S := [2]) 40 _ _ _ _ ?_⟩
  simp only [lv_args, Value.category, yvc_s, s1i, s2i, s1l, s2l, sil, s1r, sir, siir, slir, srir, svr, sd1, sd2, lg, lput, ldel, isL_i, isL_r, isL_l, jmp, obj, obj1, fI, fR, arI, arL, arR, hput, f4_0, f4_1, f4_2, f4_3, lc_0, lc_1, rok_i, rok_b, rok_y, strF, fput_1, fput_2, csum_nil, csum_i, csum_l, csum_r, va_up_self, bx_uu, Int.reduceAdd, List.elem_nil, List.elem_cons, List.take_succ_cons, List.take_zero, List.drop_succ_cons, List.drop_zero, List.take_nil, List.drop_nil, List.reverse_cons, List.reverse_nil, List.nil_append, List.cons_append, List.append_nil, Option.toList_some, Option.toList_none, List.getElem?_cons_zero, List.getElem?_cons_succ, List.set_cons_zero, List.set_cons_succ, List.length_cons, List.length_nil, reduceIte, reduceCtorEq, and_true, true_and, and_self, or_true, true_or, false_and, and_false, not_true_eq_false, not_false_eq_true, true_implies, false_implies, implies_true, Nat.reduceAdd, Nat.reduceLT, Nat.reduceEqDiff, Nat.reduceLeDiff, Nat.reduceBEq, Nat.zero_add, Nat.lt_add_one, Bool.false_eq_true, Bool.or_false, Bool.or_true, Bool.or_self, Nat.zero_ne_one, Nat.one_ne_zero, ite_true, ite_false, ne_eq, Nat.reduceSub, Nat.succ_eq_add_one, Nat.zero_lt_succ, Nat.add_one_ne_zero, false_or, or_false, mX7_take_c, mX7_take_n, mX7_take_r, mX7_take_l, dX7_take_0, ic_0, dX7_take_1, dX7_take_2, dX7_take_3, bc_27, dX7_take_5, tg_5_21, cnd2_ge, dX7_take_8, dX7_take_9, fl_7_17_7, dX7_take_12, dX7_take_13, dX7_take_14, fl_7_20_7, dX7_take_17, dX7_take_18, dX7_take_19, dX7_take_20, ic_1, dX7_take_23, tg_23_m21, dX7_take_26, st_aload_n, st_bipush, st_getfield, st_goto, st_iaload, st_iastore, st_iconst, st_if_icmp, st_iinc, st_iload_n, st_istore_n, st_return]
  exact h0
