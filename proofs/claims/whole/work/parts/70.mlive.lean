/-! ===== YawnKeysModel: undo, give, talk, days, drift ===== -/
theorem recC_row {P : Nat} {row : Nat → Int32} {c : CS} {m : MC} (hP : P ≤ 5) (h : RowM P row m) : RowM P row (mom (recC c m)) := h.mom (fun k hk => cpN_in (by omega)) (fun d hd => cpN_in hd) rfl
theorem recC_ci {c : CS} {m : MC} (hP : c.2.2.2.2.2.2.1 ≤ 5) (h : MI c.2.2.2.2.2.2.1 m) : CI (recC c m) := by
  obtain ⟨h1, h2, D, hD, h3, h4⟩ := h
  refine ⟨D, hD, ⟨hP, fun d hd => ?_⟩, fun k hk => ?_, h3, h4⟩
  · show cpN 4 m.2.1 c.2.1 d = -4 ∨ ∃ q, q < c.2.2.2.2.2.2.1 ∧ cpN 4 m.2.1 c.2.1 d = nI q
    rw [cpN_in hd]; exact h1 d hd
  · have hk : k < 4 * c.2.2.2.2.2.2.1 := hk
    show ∃ n, n ≤ 20 ∧ cpN 20 m.1 c.1 k = nI n
    rw [cpN_in (by omega)]; exact h2 k hk
def sp_X7_undo (Γ : Cx) : YSp := fun av σ K => mo Γ [] (fn x_undo) av σ K
theorem rv_X7_undo {Γ : Cx} : Recv (sp_X7_undo Γ) 0 7 := by
  intro av σ K h
  obtain ⟨q, fs, h1, h2, h3⟩ := rv_mo h
  exact ⟨q, _, fs, h1, rfl, h2, h3⟩
theorem tg_25_29 : tgo 25 29 = some 54 := by decide
theorem tg_51_m29 : tgo 51 (-29) = some 22 := by decide
def mX7_undo : Mt := (⟨0, 0, 0, 0⟩, RX7, cX7_undo, 2, some .int, (0, 0), none)
theorem mX7_undo_c : mX7_undo.2.2.1 = cX7_undo := rfl
theorem mX7_undo_n : mX7_undo.2.2.2.1 = 2 := rfl
theorem mX7_undo_r : mX7_undo.2.2.2.2.1 = some .int := rfl
theorem mX7_undo_l : mX7_undo.2.2.2.2.2.2 = none := rfl
def jX7_undo (Γ : Cx) : List ((Nat × Nat) × Nat × Bool × YSp) := []
theorem uX7_undo (Γ : Cx) : TbOK Γ mX7_undo (fT fX7, cT kX7, kT (jX7_undo Γ)) := tb_ok fX7_ok kX7_ok (all_nil)
set_option maxRecDepth 20000 in
theorem ok_X7_undo (Γ : Cx) : Ok Γ yX7_undo mX7_undo (sp_X7_undo Γ) := by
  refine ok_intro (by decide +kernel) rfl rfl ?_
  intro av σ K h
  obtain ⟨lab, ⟨a, ad⟩, ⟨sc, ar, it⟩, ψ, ψ', r, rfl, hM, hR, hrel, h⟩ := h
  try simp only at h
  obtain ⟨⟨m1, -⟩, e1, -⟩ := id hM
  obtain ⟨⟨p1, p2, p3, p4, pI, p5, p6, p7⟩, hImg, h16, hT, hSh⟩ := id hR
  have hP := pI.P5
  simp only at p1 p2 p3 p4 p5 p6 p7 hImg h16 hT hSh
  simp only [ME] at m1 e1
  obtain ⟨hq1, hq2⟩ := fn_r hrel
  rw [hq1, hq2] at h
  clear hq1 hq2 hrel ψ' r
  unfold x_undo at h
  rw [p3] at e1
  refine ⟨Nat.le_of_ble_eq_true rfl, yvc_ok (uX7_undo Γ) (S := [22]) 60 _ _ _ _ ?_⟩
  simp only [lv_args, Value.category, m1, e1, ne0_8 p4, yvc_s, s1i, s2i, s1l, s2l, sil, s1r, sir, siir, slir, srir, svr, sd1, sd2, lg, lput, ldel, isL_i, isL_r, isL_l, jmp, obj, obj1, fI, fR, arI, arL, arR, hput, f4_0, f4_1, f4_2, f4_3, lc_0, lc_1, rok_i, rok_b, rok_y, strF, fput_1, fput_2, csum_nil, csum_i, csum_l, csum_r, va_up_self, bx_uu, Int.reduceAdd, List.elem_nil, List.elem_cons, List.take_succ_cons, List.take_zero, List.drop_succ_cons, List.drop_zero, List.take_nil, List.drop_nil, List.reverse_cons, List.reverse_nil, List.nil_append, List.cons_append, List.append_nil, Option.toList_some, Option.toList_none, List.getElem?_cons_zero, List.getElem?_cons_succ, List.set_cons_zero, List.set_cons_succ, List.length_cons, List.length_nil, reduceIte, reduceCtorEq, and_true, true_and, and_self, or_true, true_or, false_and, and_false, not_true_eq_false, not_false_eq_true, true_implies, false_implies, implies_true, Nat.reduceAdd, Nat.reduceLT, Nat.reduceEqDiff, Nat.reduceLeDiff, Nat.reduceBEq, Nat.zero_add, Nat.lt_add_one, Bool.false_eq_true, Bool.or_false, Bool.or_true, Bool.or_self, Nat.zero_ne_one, Nat.one_ne_zero, ite_true, ite_false, ne_eq, Nat.reduceSub, Nat.succ_eq_add_one, Nat.zero_lt_succ, Nat.add_one_ne_zero, false_or, or_false, mX7_undo_c, mX7_undo_n, mX7_undo_r, mX7_undo_l, dX7_undo_0, dX7_undo_1, fl_7_104_7, dX7_undo_4, tg_4_6, cnd1_ne, dX7_undo_7, bc_m4, dX7_undo_9, dX7_undo_10, dX7_undo_11, dX7_undo_12, dX7_undo_15, ic_1, dX7_undo_16, dX7_undo_17, dX7_undo_20, ic_0, dX7_undo_21, dX7_undo_22, dX7_undo_23, bc_27, dX7_undo_25, tg_25_29, cnd2_ge, dX7_undo_28, dX7_undo_29, fl_7_17_7, dX7_undo_32, dX7_undo_33, dX7_undo_34, fl_7_23_7, dX7_undo_37, dX7_undo_39, dX7_undo_40, dX7_undo_43, dX7_undo_44, dX7_undo_45, dX7_undo_46, dX7_undo_47, dX7_undo_48, dX7_undo_51, tg_51_m29, dX7_undo_54, dX7_undo_55, dX7_undo_58, st_aload_n, st_bipush, st_dup, st_getfield, st_goto, st_iadd, st_iaload, st_iastore, st_iconst, st_ifCond, st_if_icmp, st_iinc, st_iload_n, st_imul, st_ireturn, st_istore_n, st_isub, st_putfield]
  refine ⟨fun c => ?_, fun c => ?_⟩
  · rw [if_neg c] at h
    generalize hu : ψ.2.2.1.2 - 1 = u at h
    have hn : ψ.2.2.1.2 = u + 1 := by omega
    have hu8 : u < 8 := by omega
    have hp7 := p7 u (by omega)
    rw [hn, nI_pred]
    have hM1 := hM.putO (upd sc 6 (nI u))
    have loop : ∀ n j : Nat, j + n = 27 → ∀ σ1, frm (fL lab 30) σ σ1 → Mod Γ lab (a, ad) (upd sc 6 (nI u), updA ar 3 (cpN j (fun k => ar 5 (27 * u + k)) (ar 3)), it) σ1 → YG Γ mX7_undo K 22 [(0, .ref a), (1, .int (nI j))] [] σ1 := by
      intro n
      induction n with
      | zero =>
        intro j hj σ1 hf1 hM1
        obtain rfl : j = 27 := by omega
        have hk := h σ1 _ (hR.upN (s' := (upd sc 6 (nI u), updA ar 3 (cpN 27 (fun k => ar 5 (27 * u + k)) (ar 3)), it)) (c := recC ψ.1 (ψ.2.2.1.1 u)) (pa := (ψ.2.2.1.1, u)) rfl rfl rfl rfl rfl rfl rfl rfl rfl rfl (by
          refine ⟨p1, p2, rfl, (show u ≤ 8 by omega), recC_ci hP hp7.1, p5, ?_, fun i hi => p7 i (by simp only at hi; omega)⟩
          simp only [updA_at]
          exact (recC_row hP hp7.2).row hP (fun k hk => cpN_in hk))) hf1 hM1
        obtain ⟨⟨m1, -⟩, e1, -⟩ := id hM1
        simp only [ME, pk_us] at m1 e1
        refine yvc1_ok (uX7_undo Γ) (S := [22]) 40 ?_
        simp only [yvc1, ge27, m1, e1, yvc_s, s1i, s2i, s1l, s2l, sil, s1r, sir, siir, slir, srir, svr, sd1, sd2, lg, lput, ldel, isL_i, isL_r, isL_l, jmp, obj, obj1, fI, fR, arI, arL, arR, hput, f4_0, f4_1, f4_2, f4_3, lc_0, lc_1, rok_i, rok_b, rok_y, strF, fput_1, fput_2, csum_nil, csum_i, csum_l, csum_r, va_up_self, bx_uu, Int.reduceAdd, List.elem_nil, List.elem_cons, List.take_succ_cons, List.take_zero, List.drop_succ_cons, List.drop_zero, List.take_nil, List.drop_nil, List.reverse_cons, List.reverse_nil, List.nil_append, List.cons_append, List.append_nil, Option.toList_some, Option.toList_none, List.getElem?_cons_zero, List.getElem?_cons_succ, List.set_cons_zero, List.set_cons_succ, List.length_cons, List.length_nil, reduceIte, reduceCtorEq, and_true, true_and, and_self, or_true, true_or, false_and, and_false, not_true_eq_false, not_false_eq_true, true_implies, false_implies, implies_true, Nat.reduceAdd, Nat.reduceLT, Nat.reduceEqDiff, Nat.reduceLeDiff, Nat.reduceBEq, Nat.zero_add, Nat.lt_add_one, Bool.false_eq_true, Bool.or_false, Bool.or_true, Bool.or_self, Nat.zero_ne_one, Nat.one_ne_zero, ite_true, ite_false, ne_eq, Nat.reduceSub, Nat.succ_eq_add_one, Nat.zero_lt_succ, Nat.add_one_ne_zero, false_or, or_false, mX7_undo_c, mX7_undo_n, mX7_undo_r, mX7_undo_l, dX7_undo_0, dX7_undo_1, fl_7_104_7, dX7_undo_4, tg_4_6, cnd1_ne, dX7_undo_7, bc_m4, dX7_undo_9, dX7_undo_10, dX7_undo_11, dX7_undo_12, dX7_undo_15, ic_1, dX7_undo_16, dX7_undo_17, dX7_undo_20, ic_0, dX7_undo_21, dX7_undo_22, dX7_undo_23, bc_27, dX7_undo_25, tg_25_29, cnd2_ge, dX7_undo_28, dX7_undo_29, fl_7_17_7, dX7_undo_32, dX7_undo_33, dX7_undo_34, fl_7_23_7, dX7_undo_37, dX7_undo_39, dX7_undo_40, dX7_undo_43, dX7_undo_44, dX7_undo_45, dX7_undo_46, dX7_undo_47, dX7_undo_48, dX7_undo_51, tg_51_m29, dX7_undo_54, dX7_undo_55, dX7_undo_58, st_aload_n, st_bipush, st_dup, st_getfield, st_goto, st_iadd, st_iaload, st_iastore, st_iconst, st_ifCond, st_if_icmp, st_iinc, st_iload_n, st_imul, st_ireturn, st_istore_n, st_isub, st_putfield]
        exact hk
      | succ n ih =>
        intro j hj σ1 hf1 hM1
        obtain ⟨c1, c2, c3⟩ := lt27 (show j < 27 by omega)
        obtain ⟨i1, i2⟩ := ix27 hu8 (show j < 27 by omega)
        have hM3 := hM1.putA (k := 3) rfl (cpN (j + 1) (fun k => ar 5 (27 * u + k)) (ar 3))
        simp only [updA_updA] at hM3
        have hj1 := ih (j + 1) (by omega) _ (hf1.tr (hM1.frA (k := 3) rfl)) hM3
        obtain ⟨⟨m1, -⟩, e1, -⟩ := id hM1
        obtain ⟨m3, e3⟩ := hM1.arr 3 rfl
        obtain ⟨m5, e5⟩ := hM1.arr 5 rfl
        rw [← cpN_s] at hj1
        simp only [ME, hput, iA, lenM, pk_us, updA_at, updA_ne (show (5 : Nat) ≠ 3 by decide)] at m1 e1 m3 e3 m5 e5 hj1
        refine yvc1_ok (uX7_undo Γ) (S := [22]) 40 ?_
        simp only [yvc1, c1, c2, c3, i1, i2, m1, e1, m3, e3, m5, e5, nI_1, yvc_s, s1i, s2i, s1l, s2l, sil, s1r, sir, siir, slir, srir, svr, sd1, sd2, lg, lput, ldel, isL_i, isL_r, isL_l, jmp, obj, obj1, fI, fR, arI, arL, arR, hput, f4_0, f4_1, f4_2, f4_3, lc_0, lc_1, rok_i, rok_b, rok_y, strF, fput_1, fput_2, csum_nil, csum_i, csum_l, csum_r, va_up_self, bx_uu, Int.reduceAdd, List.elem_nil, List.elem_cons, List.take_succ_cons, List.take_zero, List.drop_succ_cons, List.drop_zero, List.take_nil, List.drop_nil, List.reverse_cons, List.reverse_nil, List.nil_append, List.cons_append, List.append_nil, Option.toList_some, Option.toList_none, List.getElem?_cons_zero, List.getElem?_cons_succ, List.set_cons_zero, List.set_cons_succ, List.length_cons, List.length_nil, reduceIte, reduceCtorEq, and_true, true_and, and_self, or_true, true_or, false_and, and_false, not_true_eq_false, not_false_eq_true, true_implies, false_implies, implies_true, Nat.reduceAdd, Nat.reduceLT, Nat.reduceEqDiff, Nat.reduceLeDiff, Nat.reduceBEq, Nat.zero_add, Nat.lt_add_one, Bool.false_eq_true, Bool.or_false, Bool.or_true, Bool.or_self, Nat.zero_ne_one, Nat.one_ne_zero, ite_true, ite_false, ne_eq, Nat.reduceSub, Nat.succ_eq_add_one, Nat.zero_lt_succ, Nat.add_one_ne_zero, false_or, or_false, mX7_undo_c, mX7_undo_n, mX7_undo_r, mX7_undo_l, dX7_undo_0, dX7_undo_1, fl_7_104_7, dX7_undo_4, tg_4_6, cnd1_ne, dX7_undo_7, bc_m4, dX7_undo_9, dX7_undo_10, dX7_undo_11, dX7_undo_12, dX7_undo_15, ic_1, dX7_undo_16, dX7_undo_17, dX7_undo_20, ic_0, dX7_undo_21, dX7_undo_22, dX7_undo_23, bc_27, dX7_undo_25, tg_25_29, cnd2_ge, dX7_undo_28, dX7_undo_29, fl_7_17_7, dX7_undo_32, dX7_undo_33, dX7_undo_34, fl_7_23_7, dX7_undo_37, dX7_undo_39, dX7_undo_40, dX7_undo_43, dX7_undo_44, dX7_undo_45, dX7_undo_46, dX7_undo_47, dX7_undo_48, dX7_undo_51, tg_51_m29, dX7_undo_54, dX7_undo_55, dX7_undo_58, st_aload_n, st_bipush, st_dup, st_getfield, st_goto, st_iadd, st_iaload, st_iastore, st_iconst, st_ifCond, st_if_icmp, st_iinc, st_iload_n, st_imul, st_ireturn, st_istore_n, st_isub, st_putfield]
        exact hj1
    have hl := loop 27 0 rfl _ hM.frO (by rw [cpN_0, updA_self]; exact hM1)
    simp only [ME, hput] at hl
    exact hl
  · have c := Classical.not_not.mp c
    rw [if_pos c] at h
    exact h _ _ hR frm.rf hM
def sp_X7_give (Γ : Cx) : YSp := fun av σ K => ∃ (x : Int32) (y : Int32), mo Γ [.int x, .int y] (fn (x_give x y)) av σ K
theorem rv_X7_give {Γ : Cx} : Recv (sp_X7_give Γ) 2 7 := by
  intro av σ K h
  obtain ⟨x, y, h⟩ := h
  obtain ⟨q, fs, h1, h2, h3⟩ := rv_mo h
  exact ⟨q, _, fs, h1, rfl, h2, h3⟩
theorem bw_912 : Cond.code yX7_note cX7_note 2 none ∈ BW := bw_i 912 (by decide +kernel) (by decide +kernel)
theorem no_X7_note : NameOK yX7_note 0 := by unfold NameOK; decide +kernel
theorem bw_909 : Cond.methodLink RX7 183 yX7_note ∈ BW := bw_i 909 (by decide +kernel) (by decide +kernel)
theorem bw_911 : Cond.instanceMethod yX7_note ∈ BW := bw_i 911 (by decide +kernel) (by decide +kernel)
theorem bw_29 : Cond.selects RX7 yX7_note yX7_note ∈ BW := bw_i 29 (by decide +kernel) (by decide +kernel)
theorem tg_4_17 : tgo 4 17 = some 21 := by decide
theorem tg_10_13 : tgo 10 13 = some 23 := by decide
theorem tg_18_5 : tgo 18 5 = some 23 := by decide
theorem tg_35_6 : tgo 35 6 = some 41 := by decide
def mX7_give : Mt := (⟨2, 0, 0, 46⟩, RX7, cX7_give, 4, some .int, (0, 0), none)
theorem mX7_give_c : mX7_give.2.2.1 = cX7_give := rfl
theorem mX7_give_n : mX7_give.2.2.2.1 = 4 := rfl
theorem mX7_give_r : mX7_give.2.2.2.2.1 = some .int := rfl
theorem mX7_give_l : mX7_give.2.2.2.2.2.2 = none := rfl
def jX7_give (Γ : Cx) : List ((Nat × Nat) × Nat × Bool × YSp) := [((1, 111), 1, true, sp_X7_isDoor Γ), ((0, 107), 2, true, sp_X7_isOne Γ), ((0, 183), 1, false, sp_X7_note Γ)]
theorem jX7_give_1_111 (Γ : Cx) : kT (jX7_give Γ) 1 111 = some (1, true, sp_X7_isDoor Γ) := rfl
theorem jX7_give_0_107 (Γ : Cx) : kT (jX7_give Γ) 0 107 = some (2, true, sp_X7_isOne Γ) := rfl
theorem jX7_give_0_183 (Γ : Cx) : kT (jX7_give Γ) 0 183 = some (1, false, sp_X7_note Γ) := rfl
theorem uX7_give (Γ : Cx) : TbOK Γ mX7_give (fT fX7, cT kX7, kT (jX7_give Γ)) := tb_ok fX7_ok kX7_ok (all_cons ⟨call_S (n := 1) (ok_X7_isDoor Γ) (rv_X7_isDoor (Γ := Γ)) bw_813 bw_811 bw_812 bw_49 no_X7_isDoor ⟨⟨rfl, rfl⟩, ⟨by decide, by decide⟩, ⟨by decide, by decide⟩⟩, fun _ => mono_X7_isDoor (Γ := Γ)⟩ (all_cons ⟨call_V (n := 1) (T := TX7) (N := 26) (ok_X7_isOne Γ) (rv_X7_isOne (Γ := Γ)) rfl bw_810 bw_807 bw_809 bw_14 bw_49 no_X7_isOne ⟨⟨rfl, rfl⟩, ⟨by decide, by decide⟩, ⟨by decide, by decide⟩⟩, fun _ => mono_X7_isOne (Γ := Γ)⟩ (all_cons ⟨call_V (n := 0) (T := TX7) (N := 26) (ok_X7_note Γ) (rv_X7_note (Γ := Γ)) rfl bw_912 bw_909 bw_911 bw_29 bw_49 no_X7_note ⟨⟨rfl, rfl⟩, ⟨by decide, by decide⟩, ⟨by decide, by decide⟩⟩, fun z => by cases z⟩ (all_nil))))
set_option maxRecDepth 20000 in
theorem ok_X7_give (Γ : Cx) : Ok Γ yX7_give mX7_give (sp_X7_give Γ) := by
  refine ok_intro (by decide +kernel) rfl rfl ?_
  intro av σ K h
  obtain ⟨x, y, h⟩ := h
  obtain ⟨lab, ⟨a, ad⟩, ⟨sc, ar, it⟩, ψ, ψ', r, rfl, hM, hR, hrel, h⟩ := h
  try simp only at h
  obtain ⟨⟨m1, -⟩, e1, -⟩ := id hM
  obtain ⟨⟨p1, p2, p3, p4, pI, p5, p6, p7⟩, hImg, h16, hT, hSh⟩ := id hR
  have hP := pI.P5
  simp only at p1 p2 p3 p4 p5 p6 p7 hImg h16 hT hSh
  simp only [ME] at m1 e1
  obtain ⟨hq1, hq2⟩ := fn_r hrel
  rw [hq1, hq2] at h
  clear hq1 hq2 hrel ψ' r
  unfold x_give at h
  obtain ⟨m3, e3⟩ := hM.arr 3 rfl
  simp only [iA, lenM] at m3 e3
  have go : inr x 0 3 = true → (y = -4 ∨ inr y 0 (nI ψ.1.2.2.2.2.2.2.1 - 1) = true) → YG Γ mX7_give K 23 [(0, .ref a), (1, .int x), (2, .int y)] [] σ := by
    intro c1 c2
    rw [if_pos ⟨c1, c2⟩] at h
    obtain ⟨q, hq, rfl⟩ := door_n c1
    obtain ⟨i1, i2⟩ := ix20 hq
    obtain ⟨-, j1, j2⟩ := lt4 hq
    rw [j2] at h
    have hkp : ar 3 (20 + q) = ψ.1.2.1 q := p6.2.1 q hq
    refine yvc_ok (uX7_give Γ) (S := [41]) 60 _ _ _ _ ?_
    simp only [m1, e1, m3, e3, i1, i2, hkp, yvc_s, s1i, s2i, s1l, s2l, sil, s1r, sir, siir, slir, srir, svr, sd1, sd2, lg, lput, ldel, isL_i, isL_r, isL_l, jmp, obj, obj1, fI, fR, arI, arL, arR, hput, f4_0, f4_1, f4_2, f4_3, lc_0, lc_1, rok_i, rok_b, rok_y, strF, fput_1, fput_2, csum_nil, csum_i, csum_l, csum_r, va_up_self, bx_uu, Int.reduceAdd, List.elem_nil, List.elem_cons, List.take_succ_cons, List.take_zero, List.drop_succ_cons, List.drop_zero, List.take_nil, List.drop_nil, List.reverse_cons, List.reverse_nil, List.nil_append, List.cons_append, List.append_nil, Option.toList_some, Option.toList_none, List.getElem?_cons_zero, List.getElem?_cons_succ, List.set_cons_zero, List.set_cons_succ, List.length_cons, List.length_nil, reduceIte, reduceCtorEq, and_true, true_and, and_self, or_true, true_or, false_and, and_false, not_true_eq_false, not_false_eq_true, true_implies, false_implies, implies_true, Nat.reduceAdd, Nat.reduceLT, Nat.reduceEqDiff, Nat.reduceLeDiff, Nat.reduceBEq, Nat.zero_add, Nat.lt_add_one, Bool.false_eq_true, Bool.or_false, Bool.or_true, Bool.or_self, Nat.zero_ne_one, Nat.one_ne_zero, ite_true, ite_false, ne_eq, Nat.reduceSub, Nat.succ_eq_add_one, Nat.zero_lt_succ, Nat.add_one_ne_zero, false_or, or_false, mX7_give_c, mX7_give_n, mX7_give_r, mX7_give_l, dX7_give_0, dX7_give_1, dX7_give_4, tg_4_17, cnd1_eq, dX7_give_7, dX7_give_8, bc_m4, dX7_give_10, tg_10_13, cnd2_eq, dX7_give_13, dX7_give_14, dX7_give_15, dX7_give_18, tg_18_5, cnd1_ne, dX7_give_21, ic_m1, dX7_give_22, dX7_give_23, dX7_give_24, fl_7_17_7, dX7_give_27, bc_20, dX7_give_29, dX7_give_30, dX7_give_31, dX7_give_32, dX7_give_33, dX7_give_34, dX7_give_35, tg_35_6, cnd2_ne, dX7_give_38, bc_m2, dX7_give_40, dX7_give_41, dX7_give_42, dX7_give_45, dX7_give_46, dX7_give_49, dX7_give_51, dX7_give_52, dX7_give_53, dX7_give_54, dX7_give_55, dX7_give_56, jX7_give_1_111, jX7_give_0_107, jX7_give_0_183, st_aload_n, st_bipush, st_getfield, st_iadd, st_iaload, st_iastore, st_iconst, st_ifCond, st_if_icmp, st_iload_n, st_invokestatic, st_invokevirtual, st_ireturn, st_istore_n]
    refine ⟨fun z => ?_, fun z => ?_⟩
    · rw [if_neg z] at h
      refine yvc_ok (uX7_give Γ) (S := []) 60 _ _ _ _ ?_
      simp only [yvc_s, s1i, s2i, s1l, s2l, sil, s1r, sir, siir, slir, srir, svr, sd1, sd2, lg, lput, ldel, isL_i, isL_r, isL_l, jmp, obj, obj1, fI, fR, arI, arL, arR, hput, f4_0, f4_1, f4_2, f4_3, lc_0, lc_1, rok_i, rok_b, rok_y, strF, fput_1, fput_2, csum_nil, csum_i, csum_l, csum_r, va_up_self, bx_uu, Int.reduceAdd, List.elem_nil, List.elem_cons, List.take_succ_cons, List.take_zero, List.drop_succ_cons, List.drop_zero, List.take_nil, List.drop_nil, List.reverse_cons, List.reverse_nil, List.nil_append, List.cons_append, List.append_nil, Option.toList_some, Option.toList_none, List.getElem?_cons_zero, List.getElem?_cons_succ, List.set_cons_zero, List.set_cons_succ, List.length_cons, List.length_nil, reduceIte, reduceCtorEq, and_true, true_and, and_self, or_true, true_or, false_and, and_false, not_true_eq_false, not_false_eq_true, true_implies, false_implies, implies_true, Nat.reduceAdd, Nat.reduceLT, Nat.reduceEqDiff, Nat.reduceLeDiff, Nat.reduceBEq, Nat.zero_add, Nat.lt_add_one, Bool.false_eq_true, Bool.or_false, Bool.or_true, Bool.or_self, Nat.zero_ne_one, Nat.one_ne_zero, ite_true, ite_false, ne_eq, Nat.reduceSub, Nat.succ_eq_add_one, Nat.zero_lt_succ, Nat.add_one_ne_zero, false_or, or_false, mX7_give_c, mX7_give_n, mX7_give_r, mX7_give_l, dX7_give_0, dX7_give_1, dX7_give_4, tg_4_17, cnd1_eq, dX7_give_7, dX7_give_8, bc_m4, dX7_give_10, tg_10_13, cnd2_eq, dX7_give_13, dX7_give_14, dX7_give_15, dX7_give_18, tg_18_5, cnd1_ne, dX7_give_21, ic_m1, dX7_give_22, dX7_give_23, dX7_give_24, fl_7_17_7, dX7_give_27, bc_20, dX7_give_29, dX7_give_30, dX7_give_31, dX7_give_32, dX7_give_33, dX7_give_34, dX7_give_35, tg_35_6, cnd2_ne, dX7_give_38, bc_m2, dX7_give_40, dX7_give_41, dX7_give_42, dX7_give_45, dX7_give_46, dX7_give_49, dX7_give_51, dX7_give_52, dX7_give_53, dX7_give_54, dX7_give_55, dX7_give_56, jX7_give_1_111, jX7_give_0_107, jX7_give_0_183, st_aload_n, st_bipush, st_getfield, st_iadd, st_iaload, st_iastore, st_iconst, st_ifCond, st_if_icmp, st_iload_n, st_invokestatic, st_invokevirtual, st_ireturn, st_istore_n]
      refine ⟨ψ, lab, (a, ad), (sc, ar, it), rfl, hM, hR, ?_⟩
      rintro σ1 ⟨sc1, ar1, it1⟩ r ⟨hR1, rfl⟩ hf1 hM1
      obtain ⟨⟨m1, -⟩, e1, -⟩ := id hM1
      obtain ⟨m3, e3⟩ := hM1.arr 3 rfl
      obtain ⟨⟨q1, q2, q3, q4, qI, q5, q6, q7⟩, -⟩ := id hR1
      have hk := h _ _ (hR1.upR (c := (ψ.1.1, upd ψ.1.2.1 q y, ψ.1.2.2)) (f := upd (ar1 3) (20 + q) y) (by
        obtain ⟨D, hD, hw, hr⟩ := pI
        refine ⟨D, hD, ⟨hw.1, fun d hd => ?_⟩, hr⟩
        show upd ψ.1.2.1 q y d = -4 ∨ ∃ p, p < ψ.1.2.2.2.2.2.2.1 ∧ upd ψ.1.2.1 q y d = nI p
        by_cases e : d = q
        · subst e
          rw [pk_us]
          rcases c2 with c2 | c2
          · exact Or.inl c2
          · exact Or.inr (has_n hP c2)
        · rw [pk_un e]; exact hw.2 d hd) (q6.k hP hq y) (fun _ _ => rfl) rfl rfl) (hf1.tr (hM1.frA (k := 3) rfl)) (hM1.putA (k := 3) rfl (upd (ar1 3) (20 + q) y))
      simp only [ME, hput, iA, lenM] at m1 e1 m3 e3 hk
      refine yvc_ok (uX7_give Γ) (S := []) 60 _ _ _ _ ?_
      simp only [m1, e1, m3, e3, i1, i2, yvc_s, s1i, s2i, s1l, s2l, sil, s1r, sir, siir, slir, srir, svr, sd1, sd2, lg, lput, ldel, isL_i, isL_r, isL_l, jmp, obj, obj1, fI, fR, arI, arL, arR, hput, f4_0, f4_1, f4_2, f4_3, lc_0, lc_1, rok_i, rok_b, rok_y, strF, fput_1, fput_2, csum_nil, csum_i, csum_l, csum_r, va_up_self, bx_uu, Int.reduceAdd, List.elem_nil, List.elem_cons, List.take_succ_cons, List.take_zero, List.drop_succ_cons, List.drop_zero, List.take_nil, List.drop_nil, List.reverse_cons, List.reverse_nil, List.nil_append, List.cons_append, List.append_nil, Option.toList_some, Option.toList_none, List.getElem?_cons_zero, List.getElem?_cons_succ, List.set_cons_zero, List.set_cons_succ, List.length_cons, List.length_nil, reduceIte, reduceCtorEq, and_true, true_and, and_self, or_true, true_or, false_and, and_false, not_true_eq_false, not_false_eq_true, true_implies, false_implies, implies_true, Nat.reduceAdd, Nat.reduceLT, Nat.reduceEqDiff, Nat.reduceLeDiff, Nat.reduceBEq, Nat.zero_add, Nat.lt_add_one, Bool.false_eq_true, Bool.or_false, Bool.or_true, Bool.or_self, Nat.zero_ne_one, Nat.one_ne_zero, ite_true, ite_false, ne_eq, Nat.reduceSub, Nat.succ_eq_add_one, Nat.zero_lt_succ, Nat.add_one_ne_zero, false_or, or_false, mX7_give_c, mX7_give_n, mX7_give_r, mX7_give_l, dX7_give_0, dX7_give_1, dX7_give_4, tg_4_17, cnd1_eq, dX7_give_7, dX7_give_8, bc_m4, dX7_give_10, tg_10_13, cnd2_eq, dX7_give_13, dX7_give_14, dX7_give_15, dX7_give_18, tg_18_5, cnd1_ne, dX7_give_21, ic_m1, dX7_give_22, dX7_give_23, dX7_give_24, fl_7_17_7, dX7_give_27, bc_20, dX7_give_29, dX7_give_30, dX7_give_31, dX7_give_32, dX7_give_33, dX7_give_34, dX7_give_35, tg_35_6, cnd2_ne, dX7_give_38, bc_m2, dX7_give_40, dX7_give_41, dX7_give_42, dX7_give_45, dX7_give_46, dX7_give_49, dX7_give_51, dX7_give_52, dX7_give_53, dX7_give_54, dX7_give_55, dX7_give_56, jX7_give_1_111, jX7_give_0_107, jX7_give_0_183, st_aload_n, st_bipush, st_getfield, st_iadd, st_iaload, st_iastore, st_iconst, st_ifCond, st_if_icmp, st_iload_n, st_invokestatic, st_invokevirtual, st_ireturn, st_istore_n]
      exact hk
    · rw [if_pos (Classical.not_not.mp z)] at h
      exact h _ _ hR frm.rf hM
  have no : ¬ (inr x 0 3 = true ∧ (y = -4 ∨ inr y 0 (nI ψ.1.2.2.2.2.2.2.1 - 1) = true)) → K (some (.int (-1))) σ := by
    intro z
    rw [if_neg z] at h
    exact h _ _ hR frm.rf hM
  rw [p1] at e1
  refine ⟨Nat.le_of_ble_eq_true rfl, yvc_ok (uX7_give Γ) (S := [23]) 60 _ _ _ _ ?_⟩
  simp only [lv_args, Value.category, m1, e1, sp_X7_isDoor, sp_X6_isDoor, sp_X7_isOne, bI_eq0, Bool.not_eq_false, yvc_s, s1i, s2i, s1l, s2l, sil, s1r, sir, siir, slir, srir, svr, sd1, sd2, lg, lput, ldel, isL_i, isL_r, isL_l, jmp, obj, obj1, fI, fR, arI, arL, arR, hput, f4_0, f4_1, f4_2, f4_3, lc_0, lc_1, rok_i, rok_b, rok_y, strF, fput_1, fput_2, csum_nil, csum_i, csum_l, csum_r, va_up_self, bx_uu, Int.reduceAdd, List.elem_nil, List.elem_cons, List.take_succ_cons, List.take_zero, List.drop_succ_cons, List.drop_zero, List.take_nil, List.drop_nil, List.reverse_cons, List.reverse_nil, List.nil_append, List.cons_append, List.append_nil, Option.toList_some, Option.toList_none, List.getElem?_cons_zero, List.getElem?_cons_succ, List.set_cons_zero, List.set_cons_succ, List.length_cons, List.length_nil, reduceIte, reduceCtorEq, and_true, true_and, and_self, or_true, true_or, false_and, and_false, not_true_eq_false, not_false_eq_true, true_implies, false_implies, implies_true, Nat.reduceAdd, Nat.reduceLT, Nat.reduceEqDiff, Nat.reduceLeDiff, Nat.reduceBEq, Nat.zero_add, Nat.lt_add_one, Bool.false_eq_true, Bool.or_false, Bool.or_true, Bool.or_self, Nat.zero_ne_one, Nat.one_ne_zero, ite_true, ite_false, ne_eq, Nat.reduceSub, Nat.succ_eq_add_one, Nat.zero_lt_succ, Nat.add_one_ne_zero, false_or, or_false, mX7_give_c, mX7_give_n, mX7_give_r, mX7_give_l, dX7_give_0, dX7_give_1, dX7_give_4, tg_4_17, cnd1_eq, dX7_give_7, dX7_give_8, bc_m4, dX7_give_10, tg_10_13, cnd2_eq, dX7_give_13, dX7_give_14, dX7_give_15, dX7_give_18, tg_18_5, cnd1_ne, dX7_give_21, ic_m1, dX7_give_22, dX7_give_23, dX7_give_24, fl_7_17_7, dX7_give_27, bc_20, dX7_give_29, dX7_give_30, dX7_give_31, dX7_give_32, dX7_give_33, dX7_give_34, dX7_give_35, tg_35_6, cnd2_ne, dX7_give_38, bc_m2, dX7_give_40, dX7_give_41, dX7_give_42, dX7_give_45, dX7_give_46, dX7_give_49, dX7_give_51, dX7_give_52, dX7_give_53, dX7_give_54, dX7_give_55, dX7_give_56, jX7_give_1_111, jX7_give_0_107, jX7_give_0_183, st_aload_n, st_bipush, st_getfield, st_iadd, st_iaload, st_iastore, st_iconst, st_ifCond, st_if_icmp, st_iload_n, st_invokestatic, st_invokevirtual, st_ireturn, st_istore_n]
  refine ⟨fun c => no (fun z => by rw [z.1] at c; cases c), fun c => ⟨fun d => go c (Or.inl d), fun d => ⟨fun e => go c (Or.inr e), fun e => no (fun z => z.2.elim d e)⟩⟩⟩
def sp_X7_talk (Γ : Cx) : YSp := fun av σ K => ∃ (x : Int32) (y : Int32) (z : Int32), mo Γ [.int x, .int y, .int z] (fn (x_talk x y z)) av σ K
theorem rv_X7_talk {Γ : Cx} : Recv (sp_X7_talk Γ) 3 7 := by
  intro av σ K h
  obtain ⟨x, y, z, h⟩ := h
  obtain ⟨q, fs, h1, h2, h3⟩ := rv_mo h
  exact ⟨q, _, fs, h1, rfl, h2, h3⟩
theorem bw_928 : Cond.code yX7_take cX7_take 2 none ∈ BW := bw_i 928 (by decide +kernel) (by decide +kernel)
theorem no_X7_take : NameOK yX7_take 0 := by unfold NameOK; decide +kernel
theorem bw_925 : Cond.methodLink RX7 186 yX7_take ∈ BW := bw_i 925 (by decide +kernel) (by decide +kernel)
theorem bw_927 : Cond.instanceMethod yX7_take ∈ BW := bw_i 927 (by decide +kernel) (by decide +kernel)
theorem bw_33 : Cond.selects RX7 yX7_take yX7_take ∈ BW := bw_i 33 (by decide +kernel) (by decide +kernel)
theorem tg_5_22 : tgo 5 22 = some 27 := by decide
theorem tg_12_15 : tgo 12 15 = some 27 := by decide
def mX7_talk : Mt := (⟨2, 0, 0, 46⟩, RX7, cX7_talk, 4, some .int, (0, 0), none)
theorem mX7_talk_c : mX7_talk.2.2.1 = cX7_talk := rfl
theorem mX7_talk_n : mX7_talk.2.2.2.1 = 4 := rfl
theorem mX7_talk_r : mX7_talk.2.2.2.2.1 = some .int := rfl
theorem mX7_talk_l : mX7_talk.2.2.2.2.2.2 = none := rfl
def jX7_talk (Γ : Cx) : List ((Nat × Nat) × Nat × Bool × YSp) := [((0, 107), 2, true, sp_X7_isOne Γ), ((1, 111), 1, true, sp_X7_isDoor Γ), ((1, 63), 3, true, sp_X7_lies Γ), ((0, 183), 1, false, sp_X7_note Γ), ((0, 122), 1, false, sp_X7_aside Γ), ((0, 89), 4, false, sp_X7_talkTo Γ), ((0, 186), 1, false, sp_X7_take Γ)]
theorem jX7_talk_0_107 (Γ : Cx) : kT (jX7_talk Γ) 0 107 = some (2, true, sp_X7_isOne Γ) := rfl
theorem jX7_talk_1_111 (Γ : Cx) : kT (jX7_talk Γ) 1 111 = some (1, true, sp_X7_isDoor Γ) := rfl
theorem jX7_talk_1_63 (Γ : Cx) : kT (jX7_talk Γ) 1 63 = some (3, true, sp_X7_lies Γ) := rfl
theorem jX7_talk_0_183 (Γ : Cx) : kT (jX7_talk Γ) 0 183 = some (1, false, sp_X7_note Γ) := rfl
theorem jX7_talk_0_122 (Γ : Cx) : kT (jX7_talk Γ) 0 122 = some (1, false, sp_X7_aside Γ) := rfl
theorem jX7_talk_0_89 (Γ : Cx) : kT (jX7_talk Γ) 0 89 = some (4, false, sp_X7_talkTo Γ) := rfl
theorem jX7_talk_0_186 (Γ : Cx) : kT (jX7_talk Γ) 0 186 = some (1, false, sp_X7_take Γ) := rfl
theorem uX7_talk (Γ : Cx) : TbOK Γ mX7_talk (fT fX7, cT kX7, kT (jX7_talk Γ)) := tb_ok fX7_ok kX7_ok (all_cons ⟨call_V (n := 1) (T := TX7) (N := 26) (ok_X7_isOne Γ) (rv_X7_isOne (Γ := Γ)) rfl bw_810 bw_807 bw_809 bw_14 bw_49 no_X7_isOne ⟨⟨rfl, rfl⟩, ⟨by decide, by decide⟩, ⟨by decide, by decide⟩⟩, fun _ => mono_X7_isOne (Γ := Γ)⟩ (all_cons ⟨call_S (n := 1) (ok_X7_isDoor Γ) (rv_X7_isDoor (Γ := Γ)) bw_813 bw_811 bw_812 bw_49 no_X7_isDoor ⟨⟨rfl, rfl⟩, ⟨by decide, by decide⟩, ⟨by decide, by decide⟩⟩, fun _ => mono_X7_isDoor (Γ := Γ)⟩ (all_cons ⟨call_S (n := 3) (ok_X7_lies Γ) (rv_X7_lies (Γ := Γ)) bw_797 bw_795 bw_796 bw_49 no_X7_lies ⟨⟨rfl, rfl⟩, ⟨by decide, by decide⟩, ⟨by decide, by decide⟩⟩, fun _ => mono_X7_lies (Γ := Γ)⟩ (all_cons ⟨call_V (n := 0) (T := TX7) (N := 26) (ok_X7_note Γ) (rv_X7_note (Γ := Γ)) rfl bw_912 bw_909 bw_911 bw_29 bw_49 no_X7_note ⟨⟨rfl, rfl⟩, ⟨by decide, by decide⟩, ⟨by decide, by decide⟩⟩, fun z => by cases z⟩ (all_cons ⟨call_V (n := 0) (T := TX7) (N := 26) (ok_X7_aside Γ) (rv_X7_aside (Γ := Γ)) rfl bw_835 bw_832 bw_834 bw_17 bw_49 no_X7_aside ⟨⟨rfl, rfl⟩, ⟨by decide, by decide⟩, ⟨by decide, by decide⟩⟩, fun z => by cases z⟩ (all_cons ⟨call_V (n := 3) (T := TX7) (N := 26) (ok_X7_talkTo Γ) (rv_X7_talkTo (Γ := Γ)) rfl bw_920 bw_917 bw_919 bw_31 bw_49 no_X7_talkTo ⟨⟨rfl, rfl⟩, ⟨by decide, by decide⟩, ⟨by decide, by decide⟩⟩, fun z => by cases z⟩ (all_cons ⟨call_V (n := 0) (T := TX7) (N := 26) (ok_X7_take Γ) (rv_X7_take (Γ := Γ)) rfl bw_928 bw_925 bw_927 bw_33 bw_49 no_X7_take ⟨⟨rfl, rfl⟩, ⟨by decide, by decide⟩, ⟨by decide, by decide⟩⟩, fun z => by cases z⟩ (all_nil))))))))
set_option maxRecDepth 20000 in
theorem ok_X7_talk (Γ : Cx) : Ok Γ yX7_talk mX7_talk (sp_X7_talk Γ) := by
  refine ok_intro (by decide +kernel) rfl rfl ?_
  intro av σ K h
  obtain ⟨x, y, z, h⟩ := h
  obtain ⟨lab, ⟨a, ad⟩, ⟨sc, ar, it⟩, ψ, ψ', r, rfl, hM, hR, hrel, h⟩ := h
  try simp only at h
  obtain ⟨⟨m1, -⟩, e1, -⟩ := id hM
  obtain ⟨⟨p1, p2, p3, p4, pI, p5, p6, p7⟩, hImg, h16, hT, hSh⟩ := id hR
  have hP := pI.P5
  simp only at p1 p2 p3 p4 p5 p6 p7 hImg h16 hT hSh
  simp only [ME] at m1 e1
  obtain ⟨hq1, hq2⟩ := fn_r hrel
  rw [hq1, hq2] at h
  clear hq1 hq2 hrel ψ' r
  unfold x_talk at h
  obtain ⟨m3, e3⟩ := hM.arr 3 rfl
  simp only [iA, lenM] at m3 e3
  have go : inr x 0 (nI ψ.1.2.2.2.2.2.2.1 - 1) = true ∧ inr y 0 3 = true ∧ inr z 1 20 = true → YG Γ mX7_talk K 29 [(0, .ref a), (1, .int x), (2, .int y), (3, .int z)] [] σ := by
    intro c
    rw [if_pos c] at h
    obtain ⟨q, hq, rfl⟩ := has_n hP c.1
    obtain ⟨e, he, rfl⟩ := door_n c.2.1
    obtain ⟨b, hb0, hb, rfl⟩ := in1_n (B := 20) (by decide) c.2.2
    obtain ⟨i1, i2⟩ := ix4 (show q < 5 by omega) he
    rw [ix_n (by omega) he] at h
    have hw : ar 3 (4 * q + e) = ψ.1.1 (4 * q + e) := p6.1 _ (by omega)
    obtain ⟨D, hD, hJ⟩ := id pI
    obtain ⟨w0, hw0, ew0⟩ := hJ.2.1 (4 * q + e) (by omega)
    refine yvc_ok (uX7_talk Γ) (S := [47]) 60 _ _ _ _ ?_
    simp only [m1, e1, m3, e3, i1, i2, hw, yvc_s, s1i, s2i, s1l, s2l, sil, s1r, sir, siir, slir, srir, svr, sd1, sd2, lg, lput, ldel, isL_i, isL_r, isL_l, jmp, obj, obj1, fI, fR, arI, arL, arR, hput, f4_0, f4_1, f4_2, f4_3, lc_0, lc_1, rok_i, rok_b, rok_y, strF, fput_1, fput_2, csum_nil, csum_i, csum_l, csum_r, va_up_self, bx_uu, Int.reduceAdd, List.elem_nil, List.elem_cons, List.take_succ_cons, List.take_zero, List.drop_succ_cons, List.drop_zero, List.take_nil, List.drop_nil, List.reverse_cons, List.reverse_nil, List.nil_append, List.cons_append, List.append_nil, Option.toList_some, Option.toList_none, List.getElem?_cons_zero, List.getElem?_cons_succ, List.set_cons_zero, List.set_cons_succ, List.length_cons, List.length_nil, reduceIte, reduceCtorEq, and_true, true_and, and_self, or_true, true_or, false_and, and_false, not_true_eq_false, not_false_eq_true, true_implies, false_implies, implies_true, Nat.reduceAdd, Nat.reduceLT, Nat.reduceEqDiff, Nat.reduceLeDiff, Nat.reduceBEq, Nat.zero_add, Nat.lt_add_one, Bool.false_eq_true, Bool.or_false, Bool.or_true, Bool.or_self, Nat.zero_ne_one, Nat.one_ne_zero, ite_true, ite_false, ne_eq, Nat.reduceSub, Nat.succ_eq_add_one, Nat.zero_lt_succ, Nat.add_one_ne_zero, false_or, or_false, mX7_talk_c, mX7_talk_n, mX7_talk_r, mX7_talk_l, dX7_talk_0, dX7_talk_1, dX7_talk_2, dX7_talk_5, tg_5_22, cnd1_eq, dX7_talk_8, dX7_talk_9, dX7_talk_12, tg_12_15, dX7_talk_15, dX7_talk_16, dX7_talk_17, dX7_talk_18, cl_7_102, dX7_talk_21, dX7_talk_24, tg_24_5, cnd1_ne, dX7_talk_27, ic_m1, dX7_talk_28, dX7_talk_29, dX7_talk_30, fl_7_17_7, dX7_talk_33, ic_4, dX7_talk_34, dX7_talk_35, dX7_talk_36, dX7_talk_37, dX7_talk_38, dX7_talk_39, bc_20, dX7_talk_41, tg_41_6, cnd2_ne, dX7_talk_44, bc_m2, dX7_talk_46, dX7_talk_47, dX7_talk_48, dX7_talk_51, dX7_talk_52, dX7_talk_55, dX7_talk_56, dX7_talk_57, dX7_talk_58, dX7_talk_59, dX7_talk_62, dX7_talk_63, dX7_talk_66, dX7_talk_67, dX7_talk_70, dX7_talk_71, dX7_talk_72, dX7_talk_73, dX7_talk_74, dX7_talk_75, dX7_talk_76, jX7_talk_0_107, jX7_talk_1_111, jX7_talk_1_63, jX7_talk_0_183, jX7_talk_0_122, jX7_talk_0_89, jX7_talk_0_186, st_aload_n, st_bipush, st_getfield, st_i2l, st_iadd, st_iaload, st_iconst, st_ifCond, st_if_icmp, st_iload_n, st_imul, st_invokestatic, st_invokevirtual, st_ireturn, st_lconst, st_ldc2_w]
    refine ⟨fun c2 => ?_, fun c2 => ?_⟩
    · rw [if_pos (by
        rw [ew0] at c2 ⊢
        have : ¬ w0 = 20 := fun z => c2 (by rw [z]; rfl)
        exact (nI_ltI (b := 20) (by omega) (by decide)).mpr (by omega))] at h
      refine yvc_ok (uX7_talk Γ) (S := []) 60 _ _ _ _ ?_
      simp only [yvc_s, s1i, s2i, s1l, s2l, sil, s1r, sir, siir, slir, srir, svr, sd1, sd2, lg, lput, ldel, isL_i, isL_r, isL_l, jmp, obj, obj1, fI, fR, arI, arL, arR, hput, f4_0, f4_1, f4_2, f4_3, lc_0, lc_1, rok_i, rok_b, rok_y, strF, fput_1, fput_2, csum_nil, csum_i, csum_l, csum_r, va_up_self, bx_uu, Int.reduceAdd, List.elem_nil, List.elem_cons, List.take_succ_cons, List.take_zero, List.drop_succ_cons, List.drop_zero, List.take_nil, List.drop_nil, List.reverse_cons, List.reverse_nil, List.nil_append, List.cons_append, List.append_nil, Option.toList_some, Option.toList_none, List.getElem?_cons_zero, List.getElem?_cons_succ, List.set_cons_zero, List.set_cons_succ, List.length_cons, List.length_nil, reduceIte, reduceCtorEq, and_true, true_and, and_self, or_true, true_or, false_and, and_false, not_true_eq_false, not_false_eq_true, true_implies, false_implies, implies_true, Nat.reduceAdd, Nat.reduceLT, Nat.reduceEqDiff, Nat.reduceLeDiff, Nat.reduceBEq, Nat.zero_add, Nat.lt_add_one, Bool.false_eq_true, Bool.or_false, Bool.or_true, Bool.or_self, Nat.zero_ne_one, Nat.one_ne_zero, ite_true, ite_false, ne_eq, Nat.reduceSub, Nat.succ_eq_add_one, Nat.zero_lt_succ, Nat.add_one_ne_zero, false_or, or_false, mX7_talk_c, mX7_talk_n, mX7_talk_r, mX7_talk_l, dX7_talk_0, dX7_talk_1, dX7_talk_2, dX7_talk_5, tg_5_22, cnd1_eq, dX7_talk_8, dX7_talk_9, dX7_talk_12, tg_12_15, dX7_talk_15, dX7_talk_16, dX7_talk_17, dX7_talk_18, cl_7_102, dX7_talk_21, dX7_talk_24, tg_24_5, cnd1_ne, dX7_talk_27, ic_m1, dX7_talk_28, dX7_talk_29, dX7_talk_30, fl_7_17_7, dX7_talk_33, ic_4, dX7_talk_34, dX7_talk_35, dX7_talk_36, dX7_talk_37, dX7_talk_38, dX7_talk_39, bc_20, dX7_talk_41, tg_41_6, cnd2_ne, dX7_talk_44, bc_m2, dX7_talk_46, dX7_talk_47, dX7_talk_48, dX7_talk_51, dX7_talk_52, dX7_talk_55, dX7_talk_56, dX7_talk_57, dX7_talk_58, dX7_talk_59, dX7_talk_62, dX7_talk_63, dX7_talk_66, dX7_talk_67, dX7_talk_70, dX7_talk_71, dX7_talk_72, dX7_talk_73, dX7_talk_74, dX7_talk_75, dX7_talk_76, jX7_talk_0_107, jX7_talk_1_111, jX7_talk_1_63, jX7_talk_0_183, jX7_talk_0_122, jX7_talk_0_89, jX7_talk_0_186, st_aload_n, st_bipush, st_getfield, st_i2l, st_iadd, st_iaload, st_iconst, st_ifCond, st_if_icmp, st_iload_n, st_imul, st_invokestatic, st_invokevirtual, st_ireturn, st_lconst, st_ldc2_w]
      refine ⟨ψ, lab, (a, ad), (sc, ar, it), rfl, hM, hR, ?_⟩
      rintro σ1 s1 r ⟨hR1, rfl⟩ hf1 hM1
      refine yvc_ok (uX7_talk Γ) (S := []) 60 _ _ _ _ ?_
      simp only [yvc_s, s1i, s2i, s1l, s2l, sil, s1r, sir, siir, slir, srir, svr, sd1, sd2, lg, lput, ldel, isL_i, isL_r, isL_l, jmp, obj, obj1, fI, fR, arI, arL, arR, hput, f4_0, f4_1, f4_2, f4_3, lc_0, lc_1, rok_i, rok_b, rok_y, strF, fput_1, fput_2, csum_nil, csum_i, csum_l, csum_r, va_up_self, bx_uu, Int.reduceAdd, List.elem_nil, List.elem_cons, List.take_succ_cons, List.take_zero, List.drop_succ_cons, List.drop_zero, List.take_nil, List.drop_nil, List.reverse_cons, List.reverse_nil, List.nil_append, List.cons_append, List.append_nil, Option.toList_some, Option.toList_none, List.getElem?_cons_zero, List.getElem?_cons_succ, List.set_cons_zero, List.set_cons_succ, List.length_cons, List.length_nil, reduceIte, reduceCtorEq, and_true, true_and, and_self, or_true, true_or, false_and, and_false, not_true_eq_false, not_false_eq_true, true_implies, false_implies, implies_true, Nat.reduceAdd, Nat.reduceLT, Nat.reduceEqDiff, Nat.reduceLeDiff, Nat.reduceBEq, Nat.zero_add, Nat.lt_add_one, Bool.false_eq_true, Bool.or_false, Bool.or_true, Bool.or_self, Nat.zero_ne_one, Nat.one_ne_zero, ite_true, ite_false, ne_eq, Nat.reduceSub, Nat.succ_eq_add_one, Nat.zero_lt_succ, Nat.add_one_ne_zero, false_or, or_false, mX7_talk_c, mX7_talk_n, mX7_talk_r, mX7_talk_l, dX7_talk_0, dX7_talk_1, dX7_talk_2, dX7_talk_5, tg_5_22, cnd1_eq, dX7_talk_8, dX7_talk_9, dX7_talk_12, tg_12_15, dX7_talk_15, dX7_talk_16, dX7_talk_17, dX7_talk_18, cl_7_102, dX7_talk_21, dX7_talk_24, tg_24_5, cnd1_ne, dX7_talk_27, ic_m1, dX7_talk_28, dX7_talk_29, dX7_talk_30, fl_7_17_7, dX7_talk_33, ic_4, dX7_talk_34, dX7_talk_35, dX7_talk_36, dX7_talk_37, dX7_talk_38, dX7_talk_39, bc_20, dX7_talk_41, tg_41_6, cnd2_ne, dX7_talk_44, bc_m2, dX7_talk_46, dX7_talk_47, dX7_talk_48, dX7_talk_51, dX7_talk_52, dX7_talk_55, dX7_talk_56, dX7_talk_57, dX7_talk_58, dX7_talk_59, dX7_talk_62, dX7_talk_63, dX7_talk_66, dX7_talk_67, dX7_talk_70, dX7_talk_71, dX7_talk_72, dX7_talk_73, dX7_talk_74, dX7_talk_75, dX7_talk_76, jX7_talk_0_107, jX7_talk_1_111, jX7_talk_1_63, jX7_talk_0_183, jX7_talk_0_122, jX7_talk_0_89, jX7_talk_0_186, st_aload_n, st_bipush, st_getfield, st_i2l, st_iadd, st_iaload, st_iconst, st_ifCond, st_if_icmp, st_iload_n, st_imul, st_invokestatic, st_invokevirtual, st_ireturn, st_lconst, st_ldc2_w]
      refine ⟨lab, (a, ad), s1, rfl, hM1, trivial, ?_⟩
      rintro σ2 s2 r ⟨rfl, rfl⟩ hf2 hM2
      refine yvc_ok (uX7_talk Γ) (S := []) 60 _ _ _ _ ?_
      simp only [yvc_s, s1i, s2i, s1l, s2l, sil, s1r, sir, siir, slir, srir, svr, sd1, sd2, lg, lput, ldel, isL_i, isL_r, isL_l, jmp, obj, obj1, fI, fR, arI, arL, arR, hput, f4_0, f4_1, f4_2, f4_3, lc_0, lc_1, rok_i, rok_b, rok_y, strF, fput_1, fput_2, csum_nil, csum_i, csum_l, csum_r, va_up_self, bx_uu, Int.reduceAdd, List.elem_nil, List.elem_cons, List.take_succ_cons, List.take_zero, List.drop_succ_cons, List.drop_zero, List.take_nil, List.drop_nil, List.reverse_cons, List.reverse_nil, List.nil_append, List.cons_append, List.append_nil, Option.toList_some, Option.toList_none, List.getElem?_cons_zero, List.getElem?_cons_succ, List.set_cons_zero, List.set_cons_succ, List.length_cons, List.length_nil, reduceIte, reduceCtorEq, and_true, true_and, and_self, or_true, true_or, false_and, and_false, not_true_eq_false, not_false_eq_true, true_implies, false_implies, implies_true, Nat.reduceAdd, Nat.reduceLT, Nat.reduceEqDiff, Nat.reduceLeDiff, Nat.reduceBEq, Nat.zero_add, Nat.lt_add_one, Bool.false_eq_true, Bool.or_false, Bool.or_true, Bool.or_self, Nat.zero_ne_one, Nat.one_ne_zero, ite_true, ite_false, ne_eq, Nat.reduceSub, Nat.succ_eq_add_one, Nat.zero_lt_succ, Nat.add_one_ne_zero, false_or, or_false, mX7_talk_c, mX7_talk_n, mX7_talk_r, mX7_talk_l, dX7_talk_0, dX7_talk_1, dX7_talk_2, dX7_talk_5, tg_5_22, cnd1_eq, dX7_talk_8, dX7_talk_9, dX7_talk_12, tg_12_15, dX7_talk_15, dX7_talk_16, dX7_talk_17, dX7_talk_18, cl_7_102, dX7_talk_21, dX7_talk_24, tg_24_5, cnd1_ne, dX7_talk_27, ic_m1, dX7_talk_28, dX7_talk_29, dX7_talk_30, fl_7_17_7, dX7_talk_33, ic_4, dX7_talk_34, dX7_talk_35, dX7_talk_36, dX7_talk_37, dX7_talk_38, dX7_talk_39, bc_20, dX7_talk_41, tg_41_6, cnd2_ne, dX7_talk_44, bc_m2, dX7_talk_46, dX7_talk_47, dX7_talk_48, dX7_talk_51, dX7_talk_52, dX7_talk_55, dX7_talk_56, dX7_talk_57, dX7_talk_58, dX7_talk_59, dX7_talk_62, dX7_talk_63, dX7_talk_66, dX7_talk_67, dX7_talk_70, dX7_talk_71, dX7_talk_72, dX7_talk_73, dX7_talk_74, dX7_talk_75, dX7_talk_76, jX7_talk_0_107, jX7_talk_1_111, jX7_talk_1_63, jX7_talk_0_183, jX7_talk_0_122, jX7_talk_0_89, jX7_talk_0_186, st_aload_n, st_bipush, st_getfield, st_i2l, st_iadd, st_iaload, st_iconst, st_ifCond, st_if_icmp, st_iload_n, st_imul, st_invokestatic, st_invokevirtual, st_ireturn, st_lconst, st_ldc2_w]
      refine ⟨q, e, nI b, lab, (a, ad), asd s1, rfl, hM2, ⟨by omega, he⟩, ?_⟩
      rintro σ3 s3 r ⟨hs3, rfl⟩ hf3 hM3
      have hF3 : SFr (asd s1) s3 := by rw [hs3]; exact SFr.side
      have hS2 : SD (asd s1) ψ.1 := hR1.sd Like.rf
      have hS3 : SD s3 (wmore ψ.1.1 (nI q) (nI e) (nI b), ψ.1.2) := hS2.fr hF3 rfl rfl rfl (by
        have hrw := hS2.2.w hP (show 4 * q + e < 4 * ψ.1.2.2.2.2.2.2.1 by omega) (cap20 (ψ.1.1 (4 * q + e) + nI b))
        rw [hs3]
        unfold wmore tlk
        rw [ix_n (show q < 5 by omega) he]
        simp only [updA_at]
        rw [show (asd s1).2.1 4 (4 * q + e) = ψ.1.1 (4 * q + e) from hS2.2.1 _ (by omega)]
        exact hrw)
      refine yvc_ok (uX7_talk Γ) (S := []) 60 _ _ _ _ ?_
      simp only [yvc_s, s1i, s2i, s1l, s2l, sil, s1r, sir, siir, slir, srir, svr, sd1, sd2, lg, lput, ldel, isL_i, isL_r, isL_l, jmp, obj, obj1, fI, fR, arI, arL, arR, hput, f4_0, f4_1, f4_2, f4_3, lc_0, lc_1, rok_i, rok_b, rok_y, strF, fput_1, fput_2, csum_nil, csum_i, csum_l, csum_r, va_up_self, bx_uu, Int.reduceAdd, List.elem_nil, List.elem_cons, List.take_succ_cons, List.take_zero, List.drop_succ_cons, List.drop_zero, List.take_nil, List.drop_nil, List.reverse_cons, List.reverse_nil, List.nil_append, List.cons_append, List.append_nil, Option.toList_some, Option.toList_none, List.getElem?_cons_zero, List.getElem?_cons_succ, List.set_cons_zero, List.set_cons_succ, List.length_cons, List.length_nil, reduceIte, reduceCtorEq, and_true, true_and, and_self, or_true, true_or, false_and, and_false, not_true_eq_false, not_false_eq_true, true_implies, false_implies, implies_true, Nat.reduceAdd, Nat.reduceLT, Nat.reduceEqDiff, Nat.reduceLeDiff, Nat.reduceBEq, Nat.zero_add, Nat.lt_add_one, Bool.false_eq_true, Bool.or_false, Bool.or_true, Bool.or_self, Nat.zero_ne_one, Nat.one_ne_zero, ite_true, ite_false, ne_eq, Nat.reduceSub, Nat.succ_eq_add_one, Nat.zero_lt_succ, Nat.add_one_ne_zero, false_or, or_false, mX7_talk_c, mX7_talk_n, mX7_talk_r, mX7_talk_l, dX7_talk_0, dX7_talk_1, dX7_talk_2, dX7_talk_5, tg_5_22, cnd1_eq, dX7_talk_8, dX7_talk_9, dX7_talk_12, tg_12_15, dX7_talk_15, dX7_talk_16, dX7_talk_17, dX7_talk_18, cl_7_102, dX7_talk_21, dX7_talk_24, tg_24_5, cnd1_ne, dX7_talk_27, ic_m1, dX7_talk_28, dX7_talk_29, dX7_talk_30, fl_7_17_7, dX7_talk_33, ic_4, dX7_talk_34, dX7_talk_35, dX7_talk_36, dX7_talk_37, dX7_talk_38, dX7_talk_39, bc_20, dX7_talk_41, tg_41_6, cnd2_ne, dX7_talk_44, bc_m2, dX7_talk_46, dX7_talk_47, dX7_talk_48, dX7_talk_51, dX7_talk_52, dX7_talk_55, dX7_talk_56, dX7_talk_57, dX7_talk_58, dX7_talk_59, dX7_talk_62, dX7_talk_63, dX7_talk_66, dX7_talk_67, dX7_talk_70, dX7_talk_71, dX7_talk_72, dX7_talk_73, dX7_talk_74, dX7_talk_75, dX7_talk_76, jX7_talk_0_107, jX7_talk_1_111, jX7_talk_1_63, jX7_talk_0_183, jX7_talk_0_122, jX7_talk_0_89, jX7_talk_0_186, st_aload_n, st_bipush, st_getfield, st_i2l, st_iadd, st_iaload, st_iconst, st_ifCond, st_if_icmp, st_iload_n, st_imul, st_invokestatic, st_invokevirtual, st_ireturn, st_lconst, st_ldc2_w]
      refine ⟨lab, (a, ad), s3, rfl, hM3, trivial, ?_⟩
      rintro σ4 s4 r ⟨hs4, rfl⟩ hf4 hM4
      have hCI : CI (wmore ψ.1.1 (nI q) (nI e) (nI b), ψ.1.2) := ⟨D, hD, hJ.1, hJ.2.1.more hq hP he ⟨b, by omega, rfl⟩, hJ.2.2⟩
      have hR4 := (hR1.asd.fr hF3).tkb hS3 hCI (fun _ _ => rfl) rfl rfl
      rw [← hs4] at hR4
      have hk := h σ4 s4 hR4 (((hf1.tr hf2).tr hf3).tr hf4) hM4
      have hrow4 := hR4.1.2.2.2.2.2.2.1
      obtain ⟨sc4, ar4, it4⟩ := s4
      obtain ⟨⟨m1, -⟩, e1, -⟩ := id hM4
      obtain ⟨m3, e3⟩ := hM4.arr 3 rfl
      simp only [ME, iA, lenM] at m1 e1 m3 e3
      have hw4 : ar4 3 (4 * q + e) = wmore ψ.1.1 (nI q) (nI e) (nI b) (4 * q + e) := hrow4.1 _ (by show 4 * q + e < 4 * ψ.1.2.2.2.2.2.2.1; omega)
      refine yvc_ok (uX7_talk Γ) (S := []) 60 _ _ _ _ ?_
      simp only [m1, e1, m3, e3, i1, i2, hw4, yvc_s, s1i, s2i, s1l, s2l, sil, s1r, sir, siir, slir, srir, svr, sd1, sd2, lg, lput, ldel, isL_i, isL_r, isL_l, jmp, obj, obj1, fI, fR, arI, arL, arR, hput, f4_0, f4_1, f4_2, f4_3, lc_0, lc_1, rok_i, rok_b, rok_y, strF, fput_1, fput_2, csum_nil, csum_i, csum_l, csum_r, va_up_self, bx_uu, Int.reduceAdd, List.elem_nil, List.elem_cons, List.take_succ_cons, List.take_zero, List.drop_succ_cons, List.drop_zero, List.take_nil, List.drop_nil, List.reverse_cons, List.reverse_nil, List.nil_append, List.cons_append, List.append_nil, Option.toList_some, Option.toList_none, List.getElem?_cons_zero, List.getElem?_cons_succ, List.set_cons_zero, List.set_cons_succ, List.length_cons, List.length_nil, reduceIte, reduceCtorEq, and_true, true_and, and_self, or_true, true_or, false_and, and_false, not_true_eq_false, not_false_eq_true, true_implies, false_implies, implies_true, Nat.reduceAdd, Nat.reduceLT, Nat.reduceEqDiff, Nat.reduceLeDiff, Nat.reduceBEq, Nat.zero_add, Nat.lt_add_one, Bool.false_eq_true, Bool.or_false, Bool.or_true, Bool.or_self, Nat.zero_ne_one, Nat.one_ne_zero, ite_true, ite_false, ne_eq, Nat.reduceSub, Nat.succ_eq_add_one, Nat.zero_lt_succ, Nat.add_one_ne_zero, false_or, or_false, mX7_talk_c, mX7_talk_n, mX7_talk_r, mX7_talk_l, dX7_talk_0, dX7_talk_1, dX7_talk_2, dX7_talk_5, tg_5_22, cnd1_eq, dX7_talk_8, dX7_talk_9, dX7_talk_12, tg_12_15, dX7_talk_15, dX7_talk_16, dX7_talk_17, dX7_talk_18, cl_7_102, dX7_talk_21, dX7_talk_24, tg_24_5, cnd1_ne, dX7_talk_27, ic_m1, dX7_talk_28, dX7_talk_29, dX7_talk_30, fl_7_17_7, dX7_talk_33, ic_4, dX7_talk_34, dX7_talk_35, dX7_talk_36, dX7_talk_37, dX7_talk_38, dX7_talk_39, bc_20, dX7_talk_41, tg_41_6, cnd2_ne, dX7_talk_44, bc_m2, dX7_talk_46, dX7_talk_47, dX7_talk_48, dX7_talk_51, dX7_talk_52, dX7_talk_55, dX7_talk_56, dX7_talk_57, dX7_talk_58, dX7_talk_59, dX7_talk_62, dX7_talk_63, dX7_talk_66, dX7_talk_67, dX7_talk_70, dX7_talk_71, dX7_talk_72, dX7_talk_73, dX7_talk_74, dX7_talk_75, dX7_talk_76, jX7_talk_0_107, jX7_talk_1_111, jX7_talk_1_63, jX7_talk_0_183, jX7_talk_0_122, jX7_talk_0_89, jX7_talk_0_186, st_aload_n, st_bipush, st_getfield, st_i2l, st_iadd, st_iaload, st_iconst, st_ifCond, st_if_icmp, st_iload_n, st_imul, st_invokestatic, st_invokevirtual, st_ireturn, st_lconst, st_ldc2_w]
      exact hk
    · have c2 := Classical.not_not.mp c2
      rw [if_neg (by rw [c2]; decide)] at h
      exact h _ _ hR frm.rf hM
  have no : ¬ (inr x 0 (nI ψ.1.2.2.2.2.2.2.1 - 1) = true ∧ inr y 0 3 = true ∧ inr z 1 20 = true) → K (some (.int (-1))) σ := by
    intro z
    rw [if_neg z] at h
    exact h _ _ hR frm.rf hM
  rw [p1] at e1
  refine ⟨Nat.le_of_ble_eq_true rfl, yvc_ok (uX7_talk Γ) (S := [29]) 60 _ _ _ _ ?_⟩
  simp only [lv_args, Value.category, m1, e1, sp_X7_isDoor, sp_X6_isDoor, sp_X7_isOne, sp_X7_lies, inL_120, bI_eq0, Bool.not_eq_false, yvc_s, s1i, s2i, s1l, s2l, sil, s1r, sir, siir, slir, srir, svr, sd1, sd2, lg, lput, ldel, isL_i, isL_r, isL_l, jmp, obj, obj1, fI, fR, arI, arL, arR, hput, f4_0, f4_1, f4_2, f4_3, lc_0, lc_1, rok_i, rok_b, rok_y, strF, fput_1, fput_2, csum_nil, csum_i, csum_l, csum_r, va_up_self, bx_uu, Int.reduceAdd, List.elem_nil, List.elem_cons, List.take_succ_cons, List.take_zero, List.drop_succ_cons, List.drop_zero, List.take_nil, List.drop_nil, List.reverse_cons, List.reverse_nil, List.nil_append, List.cons_append, List.append_nil, Option.toList_some, Option.toList_none, List.getElem?_cons_zero, List.getElem?_cons_succ, List.set_cons_zero, List.set_cons_succ, List.length_cons, List.length_nil, reduceIte, reduceCtorEq, and_true, true_and, and_self, or_true, true_or, false_and, and_false, not_true_eq_false, not_false_eq_true, true_implies, false_implies, implies_true, Nat.reduceAdd, Nat.reduceLT, Nat.reduceEqDiff, Nat.reduceLeDiff, Nat.reduceBEq, Nat.zero_add, Nat.lt_add_one, Bool.false_eq_true, Bool.or_false, Bool.or_true, Bool.or_self, Nat.zero_ne_one, Nat.one_ne_zero, ite_true, ite_false, ne_eq, Nat.reduceSub, Nat.succ_eq_add_one, Nat.zero_lt_succ, Nat.add_one_ne_zero, false_or, or_false, mX7_talk_c, mX7_talk_n, mX7_talk_r, mX7_talk_l, dX7_talk_0, dX7_talk_1, dX7_talk_2, dX7_talk_5, tg_5_22, cnd1_eq, dX7_talk_8, dX7_talk_9, dX7_talk_12, tg_12_15, dX7_talk_15, dX7_talk_16, dX7_talk_17, dX7_talk_18, cl_7_102, dX7_talk_21, dX7_talk_24, tg_24_5, cnd1_ne, dX7_talk_27, ic_m1, dX7_talk_28, dX7_talk_29, dX7_talk_30, fl_7_17_7, dX7_talk_33, ic_4, dX7_talk_34, dX7_talk_35, dX7_talk_36, dX7_talk_37, dX7_talk_38, dX7_talk_39, bc_20, dX7_talk_41, tg_41_6, cnd2_ne, dX7_talk_44, bc_m2, dX7_talk_46, dX7_talk_47, dX7_talk_48, dX7_talk_51, dX7_talk_52, dX7_talk_55, dX7_talk_56, dX7_talk_57, dX7_talk_58, dX7_talk_59, dX7_talk_62, dX7_talk_63, dX7_talk_66, dX7_talk_67, dX7_talk_70, dX7_talk_71, dX7_talk_72, dX7_talk_73, dX7_talk_74, dX7_talk_75, dX7_talk_76, jX7_talk_0_107, jX7_talk_1_111, jX7_talk_1_63, jX7_talk_0_183, jX7_talk_0_122, jX7_talk_0_89, jX7_talk_0_186, st_aload_n, st_bipush, st_getfield, st_i2l, st_iadd, st_iaload, st_iconst, st_ifCond, st_if_icmp, st_iload_n, st_imul, st_invokestatic, st_invokevirtual, st_ireturn, st_lconst, st_ldc2_w]
  refine ⟨fun c => no (fun z => by rw [z.1] at c; cases c), fun c => ⟨fun d => no (fun z => by rw [z.2.1] at d; cases d), fun d => ⟨fun e => go ⟨c, d, e⟩, fun e => no (fun z => e z.2.2)⟩⟩⟩
