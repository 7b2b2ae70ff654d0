/-! ===== Past: its methods ===== -/
def rotf (f : Nat → Option Nat) (j : Nat) : Nat → Option Nat := fun k => if k < j then f (k + 1) else f k
theorem rotf_0 (f : Nat → Option Nat) : rotf f 0 = f := by funext k; simp [rotf]
theorem rotf_s {f : Nat → Option Nat} {j : Nat} : va_up (rotf f j) j (f (j + 1)) = rotf f (j + 1) := by
  funext k
  unfold va_up rotf
  by_cases h1 : k = j
  · subst h1; simp
  · rw [if_neg h1]
    by_cases h2 : k < j
    · rw [if_pos h2, if_pos (by omega)]
    · rw [if_neg h2, if_neg (by omega)]
theorem hput_self {σ : Hp} {a : Nat} {e : va_E} (h : σ.2 a = e) : hput σ a e = σ := by
  refine Prod.ext rfl (funext fun q => ?_)
  simp only [hput, va_up]
  by_cases c : q = a
  · rw [if_pos c, c, h]
  · rw [if_neg c]
def shM (c : Nat → MC) : Nat → MC := fun i => if i < 7 then c (i + 1) else c 0
theorem lt8 {j : Nat} (h : j < 8) : (¬ (8 : Int32) ≤ nI j) ∧ vp_in (nI j) 8 ∧ (nI j).toNatClampNeg = j := ⟨nI_ge h (by decide), vp_in_nI h (by decide), nI_clamp (by omega)⟩
theorem ge8 : (8 : Int32) ≤ nI 8 := by decide
theorem in7_8 : vp_in (7 : Int32) 8 := show vp_in (nI 7) 8 from vp_in_nI (by decide) (by decide)
theorem n7 : (7 : Int32).toNatClampNeg = 7 := by decide
theorem in0_8 : vp_in (0 : Int32) 8 := show vp_in (nI 0) 8 from vp_in_nI (by decide) (by decide)
def sp_X2_loseOldest (Γ : Cx) : YSp := fun av σ K => ∃ (F : Nat → Prop) (p : Nat) (c : Nat → MC) (n : Nat), av = [.ref p] ∧ PastAt Γ F p c n σ ∧ ∀ σ', frm F σ σ' → PastAt Γ F p (shM c) 7 σ' → K none σ'
theorem rv_X2_loseOldest {Γ : Cx} : Recv (sp_X2_loseOldest Γ) 0 2 := by
  intro av σ K h
  obtain ⟨F, p, c, n, rfl, hc, -⟩ := h
  obtain ⟨fs, h1, h2⟩ := past_rv hc
  exact ⟨_, _, fs, rfl, rfl, h1, h2⟩
theorem tg_12_23 : tgo 12 23 = some 35 := by decide
theorem tg_32_m23 : tgo 32 (-23) = some 9 := by decide
theorem bc_7 : (Int8.ofInt 7).toInt32 = 7 := by decide
def mX2_loseOldest : Mt := (⟨0, 0, 0, 0⟩, RX2, cX2_loseOldest, 3, none, (0, 0), none)
theorem mX2_loseOldest_c : mX2_loseOldest.2.2.1 = cX2_loseOldest := rfl
theorem mX2_loseOldest_n : mX2_loseOldest.2.2.2.1 = 3 := rfl
theorem mX2_loseOldest_r : mX2_loseOldest.2.2.2.2.1 = none := rfl
theorem mX2_loseOldest_l : mX2_loseOldest.2.2.2.2.2.2 = none := rfl
def jX2_loseOldest (Γ : Cx) : List ((Nat × Nat) × Nat × Bool × YSp) := []
theorem uX2_loseOldest (Γ : Cx) : TbOK Γ mX2_loseOldest (fT fX2, cT kX2, kT (jX2_loseOldest Γ)) := tb_ok fX2_ok kX2_ok (all_nil)
set_option maxRecDepth 20000 in
theorem ok_X2_loseOldest (Γ : Cx) : Ok Γ yX2_loseOldest mX2_loseOldest (sp_X2_loseOldest Γ) := by
  refine ok_intro (by decide +kernel) rfl rfl ?_
  intro av σ K h
  obtain ⟨F, p, c, n, rfl, ⟨pm, m, ⟨⟨m1, m2, hn⟩, e1, ⟨f, e2, e2'⟩, e3, e4⟩, hF⟩, h⟩ := h
  have hne : p ≠ pm := ne_of e1 e2 pstE_rA
  have hx : ∀ i, i < 8 → (m i).1 ≠ pm := fun i hi => ne_of (e3 i hi).2.1 e2 (fun e => rA_mom e.symm)
  have e1s := e1
  have e2s := e2
  simp only [PstE, rA] at e1s e2s
  have loop : ∀ n j : Nat, j + n = 7 → YG Γ mX2_loseOldest K 9 [(0, .ref p), (1, .ref (m 0).1), (2, .int (nI (j + 1)))] [] (hput σ pm (rA Γ (rotf f j))) := by
    intro n
    induction n with
    | zero =>
      intro j hj
      obtain rfl : j = 7 := by omega
      have a1 := (e3 0 (by decide)).1.1
      have a2 := (e3 0 (by decide)).2.1
      have a3 := hx 0 (by decide)
      simp only [MomE] at a2
      have fin : Pst Γ p pm (fun i => if i < 7 then m (i + 1) else m 0) (shM c) 7 (hput (hput σ pm (rA Γ (va_up (rotf f 7) 7 (some (m 0).1)))) p (PstE pm 7)) := by
        refine ⟨⟨m1, m2, by decide⟩, by simp only [hput, va_up_self], ⟨_, by simp only [hput]; rw [va_up_ne _ _ hne.symm, va_up_self], fun i hi => ?_⟩, fun i hi => ?_, fun i j hi hj hij => ?_⟩
        · unfold va_up rotf
          by_cases h7 : i = 7
          · subst h7; simp
          · rw [if_neg h7, if_pos (show i < 7 by omega)]
            simp only [if_pos (show i < 7 by omega)]
            exact e2' (i + 1) (by omega)
        · have key : ∀ k, k < 8 → MomAt Γ (m k) (c k) (hput (hput σ pm (rA Γ (va_up (rotf f 7) 7 (some (m 0).1)))) p (PstE pm 7)) := by
            intro k hk
            have hm := e3 k hk
            obtain ⟨-, b1, ⟨gw, b2, -⟩, ⟨gk, b3, -⟩⟩ := id hm
            refine hm.keep rfl ?_ ?_ ?_
            · simp only [hput]; rw [va_up_ne _ _ (ne_of b1 e1 (fun e => pstE_mom e.symm)), va_up_ne _ _ (ne_of b1 e2 (fun e => rA_mom e.symm))]
            · simp only [hput]; rw [va_up_ne _ _ (ne_of b2 e1 (fun e => pstE_iA e.symm)), va_up_ne _ _ (ne_of b2 e2 (fun e => rA_iA e.symm))]
            · simp only [hput]; rw [va_up_ne _ _ (ne_of b3 e1 (fun e => pstE_iA e.symm)), va_up_ne _ _ (ne_of b3 e2 (fun e => rA_iA e.symm))]
          unfold shM
          by_cases h7 : i < 7
          · simp only [if_pos h7]; exact key _ (by omega)
          · simp only [if_neg h7]; exact key _ (by omega)
        · by_cases h1 : i < 7 <;> by_cases h2 : j < 7
          · simp only [if_pos h1, if_pos h2]; exact e4 _ _ (by omega) (by omega) (by omega)
          · simp only [if_pos h1, if_neg h2]; exact e4 _ _ (by omega) (by omega) (by omega)
          · simp only [if_neg h1, if_pos h2]; exact e4 _ _ (by omega) (by omega) (by omega)
          · exact absurd (show i = j by omega) hij
      have hk := h _ ((hput_frm (hF _ (Or.inr (Or.inl rfl)))).tr (hput_frm (hF _ (Or.inl rfl)))) ⟨pm, _, fin, fun q hq => by
        rcases hq with rfl | rfl | ⟨i, hi, hq⟩
        · exact hF _ (Or.inl rfl)
        · exact hF _ (Or.inr (Or.inl rfl))
        · by_cases h7 : i < 7
          · simp only [if_pos h7] at hq; exact hF _ (Or.inr (Or.inr ⟨i + 1, by omega, hq⟩))
          · simp only [if_neg h7] at hq; exact hF _ (Or.inr (Or.inr ⟨0, by omega, hq⟩))⟩
      simp only [hput, PstE, rA] at hk
      refine yvc1_ok (uX2_loseOldest Γ) (S := [9]) 40 ?_
      simp only [yvc1, ge8, in7_8, n7, m1, m2, e1s, e2s, a1, a2, rA, va_up_ne, ne_eq, hne, hne.symm, a3, not_false_eq_true, yvc_s, s1i, s2i, s1l, s2l, sil, s1r, sir, siir, slir, srir, svr, sd1, sd2, lg, lput, ldel, isL_i, isL_r, isL_l, jmp, obj, obj1, fI, fR, arI, arL, arR, hput, f4_0, f4_1, f4_2, f4_3, lc_0, lc_1, rok_i, rok_b, rok_y, strF, fput_1, fput_2, csum_nil, csum_i, csum_l, csum_r, va_up_self, bx_uu, Int.reduceAdd, List.elem_nil, List.elem_cons, List.take_succ_cons, List.take_zero, List.drop_succ_cons, List.drop_zero, List.take_nil, List.drop_nil, List.reverse_cons, List.reverse_nil, List.nil_append, List.cons_append, List.append_nil, Option.toList_some, Option.toList_none, List.getElem?_cons_zero, List.getElem?_cons_succ, List.set_cons_zero, List.set_cons_succ, List.length_cons, List.length_nil, reduceIte, reduceCtorEq, and_true, true_and, and_self, or_true, true_or, false_and, and_false, not_true_eq_false, not_false_eq_true, true_implies, false_implies, implies_true, Nat.reduceAdd, Nat.reduceLT, Nat.reduceEqDiff, Nat.reduceLeDiff, Nat.reduceBEq, Nat.zero_add, Nat.lt_add_one, Bool.false_eq_true, Bool.or_false, Bool.or_true, Bool.or_self, Nat.zero_ne_one, Nat.one_ne_zero, ite_true, ite_false, ne_eq, Nat.reduceSub, Nat.succ_eq_add_one, Nat.zero_lt_succ, Nat.add_one_ne_zero, false_or, or_false, mX2_loseOldest_c, mX2_loseOldest_n, mX2_loseOldest_r, mX2_loseOldest_l, dX2_loseOldest_0, dX2_loseOldest_1, fl_2_11_2, dX2_loseOldest_4, ic_0, dX2_loseOldest_5, dX2_loseOldest_6, dX2_loseOldest_7, ic_1, dX2_loseOldest_8, dX2_loseOldest_9, dX2_loseOldest_10, bc_8, dX2_loseOldest_12, tg_12_23, cnd2_ge, dX2_loseOldest_15, dX2_loseOldest_16, dX2_loseOldest_19, dX2_loseOldest_20, dX2_loseOldest_21, dX2_loseOldest_22, dX2_loseOldest_23, dX2_loseOldest_26, dX2_loseOldest_27, dX2_loseOldest_28, dX2_loseOldest_29, dX2_loseOldest_32, tg_32_m23, dX2_loseOldest_35, dX2_loseOldest_36, dX2_loseOldest_39, bc_7, dX2_loseOldest_41, dX2_loseOldest_42, dX2_loseOldest_43, dX2_loseOldest_44, dX2_loseOldest_46, fl_2_17_2, dX2_loseOldest_49, st_aaload, st_aastore, st_aload_n, st_astore_n, st_bipush, st_getfield, st_goto, st_iconst, st_if_icmp, st_iinc, st_iload_n, st_istore_n, st_isub, st_putfield, st_return]
      exact hk
    | succ n ih =>
      intro j hj
      obtain ⟨c1, c2, c3⟩ := lt8 (show j + 1 < 8 by omega)
      obtain ⟨-, c5, c6⟩ := lt8 (show j < 8 by omega)
      have hj1 := ih (j + 1) (by omega)
      have a1 := (e3 (j + 1) (by omega)).1.1
      have a2 := (e3 (j + 1) (by omega)).2.1
      have a3 := hx (j + 1) (by omega)
      simp only [MomE] at a2
      have a4 : rotf f j (j + 1) = some (m (j + 1)).1 := by
        unfold rotf
        rw [if_neg (by omega)]
        exact e2' _ (by omega)
      rw [← rotf_s, e2' (j + 1) (by omega)] at hj1
      simp only [hput, rA] at hj1
      refine yvc1_ok (uX2_loseOldest Γ) (S := [9]) 40 ?_
      simp only [yvc1, c1, c2, c3, c5, c6, nI_pred, m1, m2, e1s, e2s, a1, a2, a4, rA, va_up_ne, ne_eq, hne, hne.symm, a3, not_false_eq_true, nI_1, yvc_s, s1i, s2i, s1l, s2l, sil, s1r, sir, siir, slir, srir, svr, sd1, sd2, lg, lput, ldel, isL_i, isL_r, isL_l, jmp, obj, obj1, fI, fR, arI, arL, arR, hput, f4_0, f4_1, f4_2, f4_3, lc_0, lc_1, rok_i, rok_b, rok_y, strF, fput_1, fput_2, csum_nil, csum_i, csum_l, csum_r, va_up_self, bx_uu, Int.reduceAdd, List.elem_nil, List.elem_cons, List.take_succ_cons, List.take_zero, List.drop_succ_cons, List.drop_zero, List.take_nil, List.drop_nil, List.reverse_cons, List.reverse_nil, List.nil_append, List.cons_append, List.append_nil, Option.toList_some, Option.toList_none, List.getElem?_cons_zero, List.getElem?_cons_succ, List.set_cons_zero, List.set_cons_succ, List.length_cons, List.length_nil, reduceIte, reduceCtorEq, and_true, true_and, and_self, or_true, true_or, false_and, and_false, not_true_eq_false, not_false_eq_true, true_implies, false_implies, implies_true, Nat.reduceAdd, Nat.reduceLT, Nat.reduceEqDiff, Nat.reduceLeDiff, Nat.reduceBEq, Nat.zero_add, Nat.lt_add_one, Bool.false_eq_true, Bool.or_false, Bool.or_true, Bool.or_self, Nat.zero_ne_one, Nat.one_ne_zero, ite_true, ite_false, ne_eq, Nat.reduceSub, Nat.succ_eq_add_one, Nat.zero_lt_succ, Nat.add_one_ne_zero, false_or, or_false, mX2_loseOldest_c, mX2_loseOldest_n, mX2_loseOldest_r, mX2_loseOldest_l, dX2_loseOldest_0, dX2_loseOldest_1, fl_2_11_2, dX2_loseOldest_4, ic_0, dX2_loseOldest_5, dX2_loseOldest_6, dX2_loseOldest_7, ic_1, dX2_loseOldest_8, dX2_loseOldest_9, dX2_loseOldest_10, bc_8, dX2_loseOldest_12, tg_12_23, cnd2_ge, dX2_loseOldest_15, dX2_loseOldest_16, dX2_loseOldest_19, dX2_loseOldest_20, dX2_loseOldest_21, dX2_loseOldest_22, dX2_loseOldest_23, dX2_loseOldest_26, dX2_loseOldest_27, dX2_loseOldest_28, dX2_loseOldest_29, dX2_loseOldest_32, tg_32_m23, dX2_loseOldest_35, dX2_loseOldest_36, dX2_loseOldest_39, bc_7, dX2_loseOldest_41, dX2_loseOldest_42, dX2_loseOldest_43, dX2_loseOldest_44, dX2_loseOldest_46, fl_2_17_2, dX2_loseOldest_49, st_aaload, st_aastore, st_aload_n, st_astore_n, st_bipush, st_getfield, st_goto, st_iconst, st_if_icmp, st_iinc, st_iload_n, st_istore_n, st_isub, st_putfield, st_return]
      exact hj1
  have a0 : f 0 = some (m 0).1 := e2' 0 (by decide)
  have hl := loop 7 0 rfl
  rw [rotf_0, hput_self e2] at hl
  refine ⟨Nat.le_of_ble_eq_true rfl, yvc_ok (uX2_loseOldest Γ) (S := [9]) 40 _ _ _ _ ?_⟩
  simp only [lv_args, Value.category, m1, m2, e1s, e2s, in0_8, n0, a0, yvc_s, s1i, s2i, s1l, s2l, sil, s1r, sir, siir, slir, srir, svr, sd1, sd2, lg, lput, ldel, isL_i, isL_r, isL_l, jmp, obj, obj1, fI, fR, arI, arL, arR, hput, f4_0, f4_1, f4_2, f4_3, lc_0, lc_1, rok_i, rok_b, rok_y, strF, fput_1, fput_2, csum_nil, csum_i, csum_l, csum_r, va_up_self, bx_uu, Int.reduceAdd, List.elem_nil, List.elem_cons, List.take_succ_cons, List.take_zero, List.drop_succ_cons, List.drop_zero, List.take_nil, List.drop_nil, List.reverse_cons, List.reverse_nil, List.nil_append, List.cons_append, List.append_nil, Option.toList_some, Option.toList_none, List.getElem?_cons_zero, List.getElem?_cons_succ, List.set_cons_zero, List.set_cons_succ, List.length_cons, List.length_nil, reduceIte, reduceCtorEq, and_true, true_and, and_self, or_true, true_or, false_and, and_false, not_true_eq_false, not_false_eq_true, true_implies, false_implies, implies_true, Nat.reduceAdd, Nat.reduceLT, Nat.reduceEqDiff, Nat.reduceLeDiff, Nat.reduceBEq, Nat.zero_add, Nat.lt_add_one, Bool.false_eq_true, Bool.or_false, Bool.or_true, Bool.or_self, Nat.zero_ne_one, Nat.one_ne_zero, ite_true, ite_false, ne_eq, Nat.reduceSub, Nat.succ_eq_add_one, Nat.zero_lt_succ, Nat.add_one_ne_zero, false_or, or_false, mX2_loseOldest_c, mX2_loseOldest_n, mX2_loseOldest_r, mX2_loseOldest_l, dX2_loseOldest_0, dX2_loseOldest_1, fl_2_11_2, dX2_loseOldest_4, ic_0, dX2_loseOldest_5, dX2_loseOldest_6, dX2_loseOldest_7, ic_1, dX2_loseOldest_8, dX2_loseOldest_9, dX2_loseOldest_10, bc_8, dX2_loseOldest_12, tg_12_23, cnd2_ge, dX2_loseOldest_15, dX2_loseOldest_16, dX2_loseOldest_19, dX2_loseOldest_20, dX2_loseOldest_21, dX2_loseOldest_22, dX2_loseOldest_23, dX2_loseOldest_26, dX2_loseOldest_27, dX2_loseOldest_28, dX2_loseOldest_29, dX2_loseOldest_32, tg_32_m23, dX2_loseOldest_35, dX2_loseOldest_36, dX2_loseOldest_39, bc_7, dX2_loseOldest_41, dX2_loseOldest_42, dX2_loseOldest_43, dX2_loseOldest_44, dX2_loseOldest_46, fl_2_17_2, dX2_loseOldest_49, st_aaload, st_aastore, st_aload_n, st_astore_n, st_bipush, st_getfield, st_goto, st_iconst, st_if_icmp, st_iinc, st_iload_n, st_istore_n, st_isub, st_putfield, st_return]
  exact hl
def sp_X2_forget (Γ : Cx) : YSp := fun av σ K => ∃ (F : Nat → Prop) (p : Nat) (c : Nat → MC) (n : Nat), av = [.ref p] ∧ PastAt Γ F p c n σ ∧ ∀ σ', frm F σ σ' → PastAt Γ F p c 0 σ' → K none σ'
theorem rv_X2_forget {Γ : Cx} : Recv (sp_X2_forget Γ) 0 2 := by
  intro av σ K h
  obtain ⟨F, p, c, n, rfl, hc, -⟩ := h
  obtain ⟨fs, h1, h2⟩ := past_rv hc
  exact ⟨_, _, fs, rfl, rfl, h1, h2⟩
def mX2_forget : Mt := (⟨0, 0, 0, 0⟩, RX2, cX2_forget, 1, none, (0, 0), none)
theorem mX2_forget_c : mX2_forget.2.2.1 = cX2_forget := rfl
theorem mX2_forget_n : mX2_forget.2.2.2.1 = 1 := rfl
theorem mX2_forget_r : mX2_forget.2.2.2.2.1 = none := rfl
theorem mX2_forget_l : mX2_forget.2.2.2.2.2.2 = none := rfl
def jX2_forget (Γ : Cx) : List ((Nat × Nat) × Nat × Bool × YSp) := []
theorem uX2_forget (Γ : Cx) : TbOK Γ mX2_forget (fT fX2, cT kX2, kT (jX2_forget Γ)) := tb_ok fX2_ok kX2_ok (all_nil)
set_option maxRecDepth 20000 in
theorem ok_X2_forget (Γ : Cx) : Ok Γ yX2_forget mX2_forget (sp_X2_forget Γ) := by
  refine ok_intro (by decide +kernel) rfl rfl ?_
  intro av σ K h
  obtain ⟨F, p, c, n, rfl, ⟨pm, m, hP, hF⟩, h⟩ := h
  have hk := h _ (hput_frm (hF _ (Or.inl rfl))) ⟨pm, m, hP.putN (Nat.zero_le 8), hF⟩
  obtain ⟨⟨m1, m2, hn⟩, e1, -⟩ := hP
  simp only [PstE, nI_0, hput] at e1 hk
  refine ⟨Nat.le_of_ble_eq_true rfl, yvc_ok (uX2_forget Γ) (S := []) 40 _ _ _ _ ?_⟩
  simp only [lv_args, Value.category, m1, e1, yvc_s, s1i, s2i, s1l, s2l, sil, s1r, sir, siir, slir, srir, svr, sd1, sd2, lg, lput, ldel, isL_i, isL_r, isL_l, jmp, obj, obj1, fI, fR, arI, arL, arR, hput, f4_0, f4_1, f4_2, f4_3, lc_0, lc_1, rok_i, rok_b, rok_y, strF, fput_1, fput_2, csum_nil, csum_i, csum_l, csum_r, va_up_self, bx_uu, Int.reduceAdd, List.elem_nil, List.elem_cons, List.take_succ_cons, List.take_zero, List.drop_succ_cons, List.drop_zero, List.take_nil, List.drop_nil, List.reverse_cons, List.reverse_nil, List.nil_append, List.cons_append, List.append_nil, Option.toList_some, Option.toList_none, List.getElem?_cons_zero, List.getElem?_cons_succ, List.set_cons_zero, List.set_cons_succ, List.length_cons, List.length_nil, reduceIte, reduceCtorEq, and_true, true_and, and_self, or_true, true_or, false_and, and_false, not_true_eq_false, not_false_eq_true, true_implies, false_implies, implies_true, Nat.reduceAdd, Nat.reduceLT, Nat.reduceEqDiff, Nat.reduceLeDiff, Nat.reduceBEq, Nat.zero_add, Nat.lt_add_one, Bool.false_eq_true, Bool.or_false, Bool.or_true, Bool.or_self, Nat.zero_ne_one, Nat.one_ne_zero, ite_true, ite_false, ne_eq, Nat.reduceSub, Nat.succ_eq_add_one, Nat.zero_lt_succ, Nat.add_one_ne_zero, false_or, or_false, mX2_forget_c, mX2_forget_n, mX2_forget_r, mX2_forget_l, dX2_forget_0, dX2_forget_1, ic_0, dX2_forget_2, fl_2_17_2, dX2_forget_5, st_aload_n, st_iconst, st_putfield, st_return]
  exact hk
def remM (c : Nat → MC) (n : Nat) (x : MC) : Nat → MC := if n = 8 then updM (shM c) 7 x else updM c n x
def remN (n : Nat) : Nat := if n = 8 then 8 else n + 1
def sp_X2_remember (Γ : Cx) : YSp := fun av σ K => ∃ (F : Nat → Prop) (p : Nat) (c : Nat → MC) (n : Nat) (A : CA) (s : CS), av = [.ref p, .ref A.1] ∧ PastAt Γ F p c n σ ∧ Col Γ A s σ ∧ (∀ q, CF A q → ¬ F q) ∧ ∀ σ', frm F σ σ' → PastAt Γ F p (remM c n (mom s)) (remN n) σ' → K none σ'
theorem rv_X2_remember {Γ : Cx} : Recv (sp_X2_remember Γ) 1 2 := by
  intro av σ K h
  obtain ⟨F, p, c, n, A, s, rfl, hc, -⟩ := h
  obtain ⟨fs, h1, h2⟩ := past_rv hc
  exact ⟨_, _, fs, rfl, rfl, h1, h2⟩
theorem bw_499 : Cond.code yX2_loseOldest cX2_loseOldest 3 none ∈ BW := bw_i 499 (by decide +kernel) (by decide +kernel)
theorem bw_45 : Cond.initialized RX2 ∈ BW := bw_i 45 (by decide +kernel) (by decide +kernel)
theorem no_X2_loseOldest : NameOK yX2_loseOldest 0 := by unfold NameOK; decide +kernel
theorem bw_496 : Cond.methodLink RX2 22 yX2_loseOldest ∈ BW := bw_i 496 (by decide +kernel) (by decide +kernel)
theorem bw_498 : Cond.instanceMethod yX2_loseOldest ∈ BW := bw_i 498 (by decide +kernel) (by decide +kernel)
theorem bw_9 : Cond.selects RX2 yX2_loseOldest yX2_loseOldest ∈ BW := bw_i 9 (by decide +kernel) (by decide +kernel)
theorem bw_1067 : Cond.selects RX0 yX1_recall yX1_recall ∈ BW := bw_i 1067 (by decide +kernel) (by decide +kernel)
theorem bw_1068 : Cond.selects RX1 yX1_recall yX1_recall ∈ BW := bw_i 1068 (by decide +kernel) (by decide +kernel)
theorem bw_500 : Cond.methodLink RX2 25 yX1_recall ∈ BW := bw_i 500 (by decide +kernel) (by decide +kernel)
theorem bw_1066 : Cond.sameMethod "YawnKeys$Moment" "YawnKeys$Moment" "recall" "(LYawnKeys$Moment;)V" ∈ BW := bw_i 1066 (by decide +kernel) (by decide +kernel)
def mX2_remember : Mt := (⟨2, 0, 0, 81⟩, RX2, cX2_remember, 2, none, (0, 0), none)
theorem mX2_remember_c : mX2_remember.2.2.1 = cX2_remember := rfl
theorem mX2_remember_n : mX2_remember.2.2.2.1 = 2 := rfl
theorem mX2_remember_r : mX2_remember.2.2.2.2.1 = none := rfl
theorem mX2_remember_l : mX2_remember.2.2.2.2.2.2 = none := rfl
def jX2_remember (Γ : Cx) : List ((Nat × Nat) × Nat × Bool × YSp) := [((0, 22), 1, false, sp_X2_loseOldest Γ), ((0, 25), 2, false, sp_X1_recall_01 Γ)]
theorem jX2_remember_0_22 (Γ : Cx) : kT (jX2_remember Γ) 0 22 = some (1, false, sp_X2_loseOldest Γ) := rfl
theorem jX2_remember_0_25 (Γ : Cx) : kT (jX2_remember Γ) 0 25 = some (2, false, sp_X1_recall_01 Γ) := rfl
theorem uX2_remember (Γ : Cx) : TbOK Γ mX2_remember (fT fX2, cT kX2, kT (jX2_remember Γ)) := tb_ok fX2_ok kX2_ok (all_cons ⟨call_V (n := 0) (T := TX2) (N := 2) (ok_X2_loseOldest Γ) (rv_X2_loseOldest (Γ := Γ)) rfl bw_499 bw_496 bw_498 bw_9 bw_45 no_X2_loseOldest ⟨⟨rfl, rfl⟩, ⟨by decide, by decide⟩, ⟨by decide, by decide⟩⟩, fun z => by cases z⟩ (all_cons ⟨call_U (n := 1) [(0, RX0, TX0, 9), (1, RX1, TX1, 5)] (ok_X1_recall_01 Γ) (rv_X1_recall_01 (Γ := Γ)) (all_cons ⟨rfl, bw_1067⟩ (all_cons ⟨rfl, bw_1068⟩ (all_nil))) bw_457 bw_500 bw_1066 bw_456 bw_43 rfl no_X1_recall ⟨⟨rfl, rfl⟩, ⟨by decide, by decide⟩, ⟨by decide, by decide⟩⟩, fun z => by cases z⟩ (all_nil)))
set_option maxRecDepth 20000 in
theorem ok_X2_remember (Γ : Cx) : Ok Γ yX2_remember mX2_remember (sp_X2_remember Γ) := by
  refine ok_intro (by decide +kernel) rfl rfl ?_
  intro av σ K h
  obtain ⟨F, p, c, n, ⟨a, aw, ak, ad⟩, ⟨w, kp, kd, day, gone, draw, P, rule, gd⟩, rfl, hP, hC, hdis, h⟩ := h
  have tail : ∀ (σ : Hp) (c : Nat → MC) (n : Nat), n < 8 → PastAt Γ F p c n σ → Col Γ (a, aw, ak, ad) (w, kp, kd, day, gone, draw, P, rule, gd) σ → (∀ σ', frm F σ σ' → PastAt Γ F p (updM c n (mom (w, kp, kd, day, gone, draw, P, rule, gd))) (n + 1) σ' → K none σ') → YG Γ mX2_remember K 13 [(0, .ref p), (1, .ref a)] [] σ := by
    intro σ c n hn hP hC h
    obtain ⟨pm, m, hP, hF⟩ := hP
    obtain ⟨⟨m1, m2, -⟩, e1, ⟨f, e2, e2'⟩, e3, e4⟩ := id hP
    obtain ⟨⟨v1, v2, v3, v4⟩, f1, f2, f3, f4⟩ := id hC
    obtain ⟨-, c2, c3⟩ := lt8 hn
    have a0 := e2' n hn
    obtain ⟨⟨b1, b2, b3⟩, g1, ⟨gw, g2, -⟩, ⟨gk, g3, -⟩⟩ := e3 n hn
    have e1s := e1
    have e2s := e2
    simp only [PstE, rA] at e1s e2s
    refine yvc_ok (uX2_remember Γ) (S := []) 40 _ _ _ _ ?_
    simp only [m1, m2, e1s, e2s, c2, c3, a0, yvc_s, s1i, s2i, s1l, s2l, sil, s1r, sir, siir, slir, srir, svr, sd1, sd2, lg, lput, ldel, isL_i, isL_r, isL_l, jmp, obj, obj1, fI, fR, arI, arL, arR, hput, f4_0, f4_1, f4_2, f4_3, lc_0, lc_1, rok_i, rok_b, rok_y, strF, fput_1, fput_2, csum_nil, csum_i, csum_l, csum_r, va_up_self, bx_uu, Int.reduceAdd, List.elem_nil, List.elem_cons, List.take_succ_cons, List.take_zero, List.drop_succ_cons, List.drop_zero, List.take_nil, List.drop_nil, List.reverse_cons, List.reverse_nil, List.nil_append, List.cons_append, List.append_nil, Option.toList_some, Option.toList_none, List.getElem?_cons_zero, List.getElem?_cons_succ, List.set_cons_zero, List.set_cons_succ, List.length_cons, List.length_nil, reduceIte, reduceCtorEq, and_true, true_and, and_self, or_true, true_or, false_and, and_false, not_true_eq_false, not_false_eq_true, true_implies, false_implies, implies_true, Nat.reduceAdd, Nat.reduceLT, Nat.reduceEqDiff, Nat.reduceLeDiff, Nat.reduceBEq, Nat.zero_add, Nat.lt_add_one, Bool.false_eq_true, Bool.or_false, Bool.or_true, Bool.or_self, Nat.zero_ne_one, Nat.one_ne_zero, ite_true, ite_false, ne_eq, Nat.reduceSub, Nat.succ_eq_add_one, Nat.zero_lt_succ, Nat.add_one_ne_zero, false_or, or_false, mX2_remember_c, mX2_remember_n, mX2_remember_r, mX2_remember_l, dX2_remember_0, dX2_remember_1, fl_2_17_2, dX2_remember_4, bc_8, dX2_remember_6, tg_6_7, cnd2_ne, dX2_remember_9, dX2_remember_10, dX2_remember_13, dX2_remember_14, fl_2_11_2, dX2_remember_17, dX2_remember_18, dX2_remember_21, dX2_remember_22, dX2_remember_23, dX2_remember_26, dX2_remember_27, dX2_remember_28, dX2_remember_31, ic_1, dX2_remember_32, dX2_remember_33, dX2_remember_36, jX2_remember_0_22, jX2_remember_0_25, st_aaload, st_aload_n, st_bipush, st_dup, st_getfield, st_iadd, st_iconst, st_if_icmp, st_invokevirtual, st_putfield, st_return]
    have d1 : (m n).1 ≠ a := fun z => hdis a (Or.inl rfl) (hF a (Or.inr (Or.inr ⟨n, hn, Or.inl z.symm⟩)))
    have d2 : (m n).2.1 ≠ aw := fun z => hdis aw (Or.inr (Or.inl rfl)) (hF aw (Or.inr (Or.inr ⟨n, hn, Or.inr (Or.inl z.symm)⟩)))
    have d3 : (m n).2.2 ≠ ak := fun z => hdis ak (Or.inr (Or.inr (Or.inl rfl))) (hF ak (Or.inr (Or.inr ⟨n, hn, Or.inr (Or.inr z.symm)⟩)))
    refine ⟨(m n).1, a, 1, 0, (m n).2.1, (m n).2.2, aw, ak, gw, gk, w, kp, _, _, _, day, gone, draw, [], [.ref ad, .int (nI P), .int rule, .int gd], rfl, Or.inr rfl, Or.inl rfl, ⟨b1, v1, b2, b3, v2, v3⟩, ⟨d1, d2, d3⟩, ⟨g1, f1, g2, g3, f2, f3⟩, ?_⟩
    have hs := hP.set1 hn (w := cpN 20 w gw) (k := cpN 4 kp gk) (mom (w, kp, kd, day, gone, draw, P, rule, gd)) (fun i hi => cpN_in hi) (fun i hi => cpN_in hi)
    have hfr : frm F σ (mset Γ (m n) (cpN 20 w gw) (cpN 4 kp gk) day gone draw σ) := mset_frm hF hn
    have hs' : Pst Γ p pm m (updM c n (mom (w, kp, kd, day, gone, draw, P, rule, gd))) n (mset Γ (m n) (cpN 20 w gw) (cpN 4 kp gk) day gone draw σ) := hs
    have hk := h _ (hfr.tr (hput_frm (hF _ (Or.inl rfl)))) ⟨pm, m, hs'.putN (n' := n + 1) (by omega), hF⟩
    have hgo : ((σ.1, va_up (va_up (va_up σ.2 (m n).2.1 (iA Γ 20 (cpN 20 w gw))) (m n).2.2 (iA Γ 4 (cpN 4 kp gk))) (m n).1 (MomE 1 (m n).2.1 (m n).2.2 day gone draw [])) : Hp) = mset Γ (m n) (cpN 20 w gw) (cpN 4 kp gk) day gone draw σ := rfl
    rw [hgo]
    generalize mset Γ (m n) (cpN 20 w gw) (cpN 4 kp gk) day gone draw σ = σ1 at hs' hk ⊢
    obtain ⟨⟨u1, u2, -⟩, w1, -⟩ := hs'
    simp only [PstE, hput] at w1 hk
    refine yvc_ok (uX2_remember Γ) (S := []) 40 _ _ _ _ ?_
    simp only [u1, w1, nI_1, yvc_s, s1i, s2i, s1l, s2l, sil, s1r, sir, siir, slir, srir, svr, sd1, sd2, lg, lput, ldel, isL_i, isL_r, isL_l, jmp, obj, obj1, fI, fR, arI, arL, arR, hput, f4_0, f4_1, f4_2, f4_3, lc_0, lc_1, rok_i, rok_b, rok_y, strF, fput_1, fput_2, csum_nil, csum_i, csum_l, csum_r, va_up_self, bx_uu, Int.reduceAdd, List.elem_nil, List.elem_cons, List.take_succ_cons, List.take_zero, List.drop_succ_cons, List.drop_zero, List.take_nil, List.drop_nil, List.reverse_cons, List.reverse_nil, List.nil_append, List.cons_append, List.append_nil, Option.toList_some, Option.toList_none, List.getElem?_cons_zero, List.getElem?_cons_succ, List.set_cons_zero, List.set_cons_succ, List.length_cons, List.length_nil, reduceIte, reduceCtorEq, and_true, true_and, and_self, or_true, true_or, false_and, and_false, not_true_eq_false, not_false_eq_true, true_implies, false_implies, implies_true, Nat.reduceAdd, Nat.reduceLT, Nat.reduceEqDiff, Nat.reduceLeDiff, Nat.reduceBEq, Nat.zero_add, Nat.lt_add_one, Bool.false_eq_true, Bool.or_false, Bool.or_true, Bool.or_self, Nat.zero_ne_one, Nat.one_ne_zero, ite_true, ite_false, ne_eq, Nat.reduceSub, Nat.succ_eq_add_one, Nat.zero_lt_succ, Nat.add_one_ne_zero, false_or, or_false, mX2_remember_c, mX2_remember_n, mX2_remember_r, mX2_remember_l, dX2_remember_0, dX2_remember_1, fl_2_17_2, dX2_remember_4, bc_8, dX2_remember_6, tg_6_7, cnd2_ne, dX2_remember_9, dX2_remember_10, dX2_remember_13, dX2_remember_14, fl_2_11_2, dX2_remember_17, dX2_remember_18, dX2_remember_21, dX2_remember_22, dX2_remember_23, dX2_remember_26, dX2_remember_27, dX2_remember_28, dX2_remember_31, ic_1, dX2_remember_32, dX2_remember_33, dX2_remember_36, jX2_remember_0_22, jX2_remember_0_25, st_aaload, st_aload_n, st_bipush, st_dup, st_getfield, st_iadd, st_iconst, st_if_icmp, st_invokevirtual, st_putfield, st_return]
    exact hk
  have hP0 := hP
  obtain ⟨pm, m, ⟨⟨m1, m2, hn⟩, e1, -⟩, -⟩ := id hP
  simp only [PstE] at e1
  refine ⟨Nat.le_of_ble_eq_true rfl, yvc_ok (uX2_remember Γ) (S := [13]) 40 _ _ _ _ ?_⟩
  simp only [lv_args, Value.category, m1, e1, yvc_s, s1i, s2i, s1l, s2l, sil, s1r, sir, siir, slir, srir, svr, sd1, sd2, lg, lput, ldel, isL_i, isL_r, isL_l, jmp, obj, obj1, fI, fR, arI, arL, arR, hput, f4_0, f4_1, f4_2, f4_3, lc_0, lc_1, rok_i, rok_b, rok_y, strF, fput_1, fput_2, csum_nil, csum_i, csum_l, csum_r, va_up_self, bx_uu, Int.reduceAdd, List.elem_nil, List.elem_cons, List.take_succ_cons, List.take_zero, List.drop_succ_cons, List.drop_zero, List.take_nil, List.drop_nil, List.reverse_cons, List.reverse_nil, List.nil_append, List.cons_append, List.append_nil, Option.toList_some, Option.toList_none, List.getElem?_cons_zero, List.getElem?_cons_succ, List.set_cons_zero, List.set_cons_succ, List.length_cons, List.length_nil, reduceIte, reduceCtorEq, and_true, true_and, and_self, or_true, true_or, false_and, and_false, not_true_eq_false, not_false_eq_true, true_implies, false_implies, implies_true, Nat.reduceAdd, Nat.reduceLT, Nat.reduceEqDiff, Nat.reduceLeDiff, Nat.reduceBEq, Nat.zero_add, Nat.lt_add_one, Bool.false_eq_true, Bool.or_false, Bool.or_true, Bool.or_self, Nat.zero_ne_one, Nat.one_ne_zero, ite_true, ite_false, ne_eq, Nat.reduceSub, Nat.succ_eq_add_one, Nat.zero_lt_succ, Nat.add_one_ne_zero, false_or, or_false, mX2_remember_c, mX2_remember_n, mX2_remember_r, mX2_remember_l, dX2_remember_0, dX2_remember_1, fl_2_17_2, dX2_remember_4, bc_8, dX2_remember_6, tg_6_7, cnd2_ne, dX2_remember_9, dX2_remember_10, dX2_remember_13, dX2_remember_14, fl_2_11_2, dX2_remember_17, dX2_remember_18, dX2_remember_21, dX2_remember_22, dX2_remember_23, dX2_remember_26, dX2_remember_27, dX2_remember_28, dX2_remember_31, ic_1, dX2_remember_32, dX2_remember_33, dX2_remember_36, jX2_remember_0_22, jX2_remember_0_25, st_aaload, st_aload_n, st_bipush, st_dup, st_getfield, st_iadd, st_iconst, st_if_icmp, st_invokevirtual, st_putfield, st_return]
  unfold remM remN at h
  refine ⟨fun cc => ?_, fun cc => ?_⟩
  · have hn8 : ¬ n = 8 := fun z => cc (by rw [z]; rfl)
    simp only [if_neg hn8] at h
    exact tail σ c n (by omega) hP0 hC h
  · have hn8 : n = 8 := by
      rcases Nat.lt_or_ge n 8 with z | z
      · exact absurd (fun e => (lt8 z).1 (by rw [e]; exact Int32.le_refl _)) cc
      · omega
    simp only [if_pos hn8] at h
    refine ⟨F, p, c, n, rfl, hP0, fun σ' hf hP' => ?_⟩
    exact tail σ' (shM c) 7 (by decide) hP' (col_frm hC hf hdis) (fun σ'' hf' hP'' => h σ'' (hf.tr hf') hP'')
def recC (s : CS) (x : MC) : CS := (cpN 20 x.1 s.1, cpN 4 x.2.1 s.2.1, s.2.2.1, x.2.2.1, x.2.2.2.1, x.2.2.2.2, s.2.2.2.2.2.2)
/-- a college's moment is set -/
theorem col_mom {Γ : Cx} {a aw ak ad : Nat} {w kp kd w' kp' : Nat → Int32} {day gone draw rule gd day' gone' draw' : Int32} {P : Nat} {σ : Hp} (hA : Col Γ (a, aw, ak, ad) (w, kp, kd, day, gone, draw, P, rule, gd) σ) : ((σ.1, va_up (va_up (va_up σ.2 aw (iA Γ 20 w')) ak (iA Γ 4 kp')) a (MomE 0 aw ak day' gone' draw' [.ref ad, .int (nI P), .int rule, .int gd])) : Hp) = cset Γ (a, aw, ak, ad) (w', kp', kd, day', gone', draw', P, rule, gd) σ := by
  refine Prod.ext rfl (funext fun q => ?_)
  obtain ⟨⟨n1, n2, n3⟩, ⟨n4, n5⟩, n6⟩ := hA.ne
  obtain ⟨-, e1, e2, e3, e4⟩ := hA
  simp only at n1 n2 n3 n4 n5 n6 e1 e2 e3 e4
  simp only [cset, va_up]
  by_cases c1 : q = a
  · subst c1
    rw [if_pos rfl, if_neg n3.symm, if_neg n2.symm, if_neg n1.symm, if_pos rfl]
    rfl
  · rw [if_neg c1]
    by_cases c4 : q = ad
    · subst c4
      rw [if_pos rfl, if_neg n6, if_neg n5]
      exact e4
    · rw [if_neg c4]
      by_cases c3 : q = ak
      · rw [if_pos c3, if_pos c3]
      · rw [if_neg c3, if_neg c3]
        by_cases c2 : q = aw
        · rw [if_pos c2, if_pos c2]
        · rw [if_neg c2, if_neg c2, if_neg c1]
def sp_X2_recall (Γ : Cx) : YSp := fun av σ K => ∃ (F : Nat → Prop) (p : Nat) (c : Nat → MC) (n : Nat) (A : CA) (s : CS), av = [.ref p, .ref A.1] ∧ PastAt Γ F p c (n + 1) σ ∧ Col Γ A s σ ∧ (∀ q, CF A q → ¬ F q) ∧ ∀ σ', frm (fun q => F q ∨ CF A q) σ σ' → PastAt Γ F p c n σ' → Col Γ A (recC s (c n)) σ' → K none σ'
theorem rv_X2_recall {Γ : Cx} : Recv (sp_X2_recall Γ) 1 2 := by
  intro av σ K h
  obtain ⟨F, p, c, n, A, s, rfl, hc, -⟩ := h
  obtain ⟨fs, h1, h2⟩ := past_rv hc
  exact ⟨_, _, fs, rfl, rfl, h1, h2⟩
def mX2_recall : Mt := (⟨2, 0, 0, 81⟩, RX2, cX2_recall, 2, none, (0, 0), none)
theorem mX2_recall_c : mX2_recall.2.2.1 = cX2_recall := rfl
theorem mX2_recall_n : mX2_recall.2.2.2.1 = 2 := rfl
theorem mX2_recall_r : mX2_recall.2.2.2.2.1 = none := rfl
theorem mX2_recall_l : mX2_recall.2.2.2.2.2.2 = none := rfl
def jX2_recall (Γ : Cx) : List ((Nat × Nat) × Nat × Bool × YSp) := [((0, 25), 2, false, sp_X1_recall_01 Γ)]
theorem jX2_recall_0_25 (Γ : Cx) : kT (jX2_recall Γ) 0 25 = some (2, false, sp_X1_recall_01 Γ) := rfl
theorem uX2_recall (Γ : Cx) : TbOK Γ mX2_recall (fT fX2, cT kX2, kT (jX2_recall Γ)) := tb_ok fX2_ok kX2_ok (all_cons ⟨call_U (n := 1) [(0, RX0, TX0, 9), (1, RX1, TX1, 5)] (ok_X1_recall_01 Γ) (rv_X1_recall_01 (Γ := Γ)) (all_cons ⟨rfl, bw_1067⟩ (all_cons ⟨rfl, bw_1068⟩ (all_nil))) bw_457 bw_500 bw_1066 bw_456 bw_43 rfl no_X1_recall ⟨⟨rfl, rfl⟩, ⟨by decide, by decide⟩, ⟨by decide, by decide⟩⟩, fun z => by cases z⟩ (all_nil))
set_option maxRecDepth 20000 in
theorem ok_X2_recall (Γ : Cx) : Ok Γ yX2_recall mX2_recall (sp_X2_recall Γ) := by
  refine ok_intro (by decide +kernel) rfl rfl ?_
  intro av σ K h
  obtain ⟨F, p, c, n, ⟨a, aw, ak, ad⟩, ⟨w, kp, kd, day, gone, draw, P, rule, gd⟩, rfl, ⟨pm, m, hP, hF⟩, hC, hdis, h⟩ := h
  obtain ⟨⟨m1, m2, hn⟩, e1, -⟩ := id hP
  have hP1 := hP.putN (n' := n) (by omega)
  have hC1 : Col Γ (a, aw, ak, ad) (w, kp, kd, day, gone, draw, P, rule, gd) (hput σ p (PstE pm n)) := col_frm hC (hput_frm (F := F) (hF _ (Or.inl rfl))) hdis
  obtain ⟨⟨j1, j2, -⟩, i1, ⟨f, i2, i2'⟩, i3, i4⟩ := id hP1
  obtain ⟨⟨v1, v2, v3, v4⟩, f1, f2, f3, f4⟩ := id hC1
  obtain ⟨-, c2, c3⟩ := lt8 (show n < 8 by omega)
  obtain ⟨⟨b1, b2, b3⟩, g1, ⟨gw, g2, g2'⟩, ⟨gk, g3, g3'⟩⟩ := i3 n (by omega)
  have a0 := i2' n (by omega)
  have i1s := i1
  have i2s := i2
  simp only [PstE, rA, hput] at e1 i1s i2s
  refine ⟨Nat.le_of_ble_eq_true rfl, yvc_ok (uX2_recall Γ) (S := []) 40 _ _ _ _ ?_⟩
  simp only [lv_args, Value.category, m1, m2, e1, nI_pred, i1s, i2s, c2, c3, a0, yvc_s, s1i, s2i, s1l, s2l, sil, s1r, sir, siir, slir, srir, svr, sd1, sd2, lg, lput, ldel, isL_i, isL_r, isL_l, jmp, obj, obj1, fI, fR, arI, arL, arR, hput, f4_0, f4_1, f4_2, f4_3, lc_0, lc_1, rok_i, rok_b, rok_y, strF, fput_1, fput_2, csum_nil, csum_i, csum_l, csum_r, va_up_self, bx_uu, Int.reduceAdd, List.elem_nil, List.elem_cons, List.take_succ_cons, List.take_zero, List.drop_succ_cons, List.drop_zero, List.take_nil, List.drop_nil, List.reverse_cons, List.reverse_nil, List.nil_append, List.cons_append, List.append_nil, Option.toList_some, Option.toList_none, List.getElem?_cons_zero, List.getElem?_cons_succ, List.set_cons_zero, List.set_cons_succ, List.length_cons, List.length_nil, reduceIte, reduceCtorEq, and_true, true_and, and_self, or_true, true_or, false_and, and_false, not_true_eq_false, not_false_eq_true, true_implies, false_implies, implies_true, Nat.reduceAdd, Nat.reduceLT, Nat.reduceEqDiff, Nat.reduceLeDiff, Nat.reduceBEq, Nat.zero_add, Nat.lt_add_one, Bool.false_eq_true, Bool.or_false, Bool.or_true, Bool.or_self, Nat.zero_ne_one, Nat.one_ne_zero, ite_true, ite_false, ne_eq, Nat.reduceSub, Nat.succ_eq_add_one, Nat.zero_lt_succ, Nat.add_one_ne_zero, false_or, or_false, mX2_recall_c, mX2_recall_n, mX2_recall_r, mX2_recall_l, dX2_recall_0, dX2_recall_1, dX2_recall_2, fl_2_17_2, dX2_recall_5, ic_1, dX2_recall_6, dX2_recall_7, dX2_recall_10, dX2_recall_11, dX2_recall_12, fl_2_11_2, dX2_recall_15, dX2_recall_16, dX2_recall_19, dX2_recall_20, dX2_recall_23, jX2_recall_0_25, st_aaload, st_aload_n, st_dup, st_getfield, st_iconst, st_invokevirtual, st_isub, st_putfield, st_return]
  have d1 : a ≠ (m n).1 := fun z => hdis a (Or.inl rfl) (hF a (Or.inr (Or.inr ⟨n, by omega, Or.inl z⟩)))
  have d2 : aw ≠ (m n).2.1 := fun z => hdis aw (Or.inr (Or.inl rfl)) (hF aw (Or.inr (Or.inr ⟨n, by omega, Or.inr (Or.inl z)⟩)))
  have d3 : ak ≠ (m n).2.2 := fun z => hdis ak (Or.inr (Or.inr (Or.inl rfl))) (hF ak (Or.inr (Or.inr ⟨n, by omega, Or.inr (Or.inr z)⟩)))
  refine ⟨a, (m n).1, 0, 1, aw, ak, (m n).2.1, (m n).2.2, w, kp, gw, gk, day, gone, draw, _, _, _, [.ref ad, .int (nI P), .int rule, .int gd], [], rfl, Or.inl rfl, Or.inr rfl, ⟨v1, b1, v2, v3, b2, b3⟩, ⟨d1, d2, d3⟩, ⟨f1, g1, f2, f3, g2, g3⟩, ?_⟩
  have hcm := col_mom (w' := cpN 20 gw w) (kp' := cpN 4 gk kp) (day' := (c n).2.2.1) (gone' := (c n).2.2.2.1) (draw' := (c n).2.2.2.2) hC1
  simp only [hput, PstE] at hcm
  rw [hcm, cpN_congr g2', cpN_congr g3']
  have hC2 := hC1.set (recC (w, kp, kd, day, gone, draw, P, rule, gd) (c n))
  have hfr : frm (CF (a, aw, ak, ad)) _ (cset Γ (a, aw, ak, ad) (recC (w, kp, kd, day, gone, draw, P, rule, gd) (c n)) (hput σ p (PstE pm n))) := cset_frm
  have hk := h _ (((hput_frm (F := F) (hF _ (Or.inl rfl))).mono (fun _ z => Or.inl z)).tr (hfr.mono (fun _ z => Or.inr z))) ⟨pm, m, hP1.keep rfl (fun q hq => cset_frm.2 q (fun z => hdis q z (hF q hq))), hF⟩ hC2
  refine yvc_ok (uX2_recall Γ) (S := []) 40 _ _ _ _ ?_
  simp only [yvc_s, s1i, s2i, s1l, s2l, sil, s1r, sir, siir, slir, srir, svr, sd1, sd2, lg, lput, ldel, isL_i, isL_r, isL_l, jmp, obj, obj1, fI, fR, arI, arL, arR, hput, f4_0, f4_1, f4_2, f4_3, lc_0, lc_1, rok_i, rok_b, rok_y, strF, fput_1, fput_2, csum_nil, csum_i, csum_l, csum_r, va_up_self, bx_uu, Int.reduceAdd, List.elem_nil, List.elem_cons, List.take_succ_cons, List.take_zero, List.drop_succ_cons, List.drop_zero, List.take_nil, List.drop_nil, List.reverse_cons, List.reverse_nil, List.nil_append, List.cons_append, List.append_nil, Option.toList_some, Option.toList_none, List.getElem?_cons_zero, List.getElem?_cons_succ, List.set_cons_zero, List.set_cons_succ, List.length_cons, List.length_nil, reduceIte, reduceCtorEq, and_true, true_and, and_self, or_true, true_or, false_and, and_false, not_true_eq_false, not_false_eq_true, true_implies, false_implies, implies_true, Nat.reduceAdd, Nat.reduceLT, Nat.reduceEqDiff, Nat.reduceLeDiff, Nat.reduceBEq, Nat.zero_add, Nat.lt_add_one, Bool.false_eq_true, Bool.or_false, Bool.or_true, Bool.or_self, Nat.zero_ne_one, Nat.one_ne_zero, ite_true, ite_false, ne_eq, Nat.reduceSub, Nat.succ_eq_add_one, Nat.zero_lt_succ, Nat.add_one_ne_zero, false_or, or_false, mX2_recall_c, mX2_recall_n, mX2_recall_r, mX2_recall_l, dX2_recall_0, dX2_recall_1, dX2_recall_2, fl_2_17_2, dX2_recall_5, ic_1, dX2_recall_6, dX2_recall_7, dX2_recall_10, dX2_recall_11, dX2_recall_12, fl_2_11_2, dX2_recall_15, dX2_recall_16, dX2_recall_19, dX2_recall_20, dX2_recall_23, jX2_recall_0_25, st_aaload, st_aload_n, st_dup, st_getfield, st_iconst, st_invokevirtual, st_isub, st_putfield, st_return]
  exact hk
def becM (c c' : Nat → MC) (n : Nat) : Nat → MC := fun i => if i < n then c' i else c i
theorem becM_0 (c c' : Nat → MC) : becM c c' 0 = c := by funext i; simp [becM]
theorem becM_s (c c' : Nat → MC) (n : Nat) : updM (becM c c' n) n (c' n) = becM c c' (n + 1) := by
  funext i
  unfold updM becM
  by_cases h : i = n
  · rw [if_pos h, if_pos (by omega), h]
  · rw [if_neg h]
    by_cases h2 : i < n
    · rw [if_pos h2, if_pos (by omega)]
    · rw [if_neg h2, if_neg (by omega)]
theorem lt9 {j n : Nat} (h : j < n) (hn : n ≤ 8) : ¬ nI n ≤ nI j := nI_ge h (by omega)
def sp_X2_become (Γ : Cx) : YSp := fun av σ K => ∃ (F F' : Nat → Prop) (p p' : Nat) (c c' : Nat → MC) (n n' : Nat), av = [.ref p, .ref p'] ∧ PastAt Γ F p c n σ ∧ PastAt Γ F' p' c' n' σ ∧ (∀ q, F q → ¬ F' q) ∧ ∀ σ', frm F σ σ' → PastAt Γ F p (becM c c' n') n' σ' → K none σ'
theorem rv_X2_become {Γ : Cx} : Recv (sp_X2_become Γ) 1 2 := by
  intro av σ K h
  obtain ⟨F, F', p, p', c, c', n, n', rfl, hc, -⟩ := h
  obtain ⟨fs, h1, h2⟩ := past_rv hc
  exact ⟨_, _, fs, rfl, rfl, h1, h2⟩
theorem tg_15_24 : tgo 15 24 = some 39 := by decide
theorem tg_36_m26 : tgo 36 (-26) = some 10 := by decide
def mX2_become : Mt := (⟨2, 0, 0, 81⟩, RX2, cX2_become, 3, none, (0, 0), none)
theorem mX2_become_c : mX2_become.2.2.1 = cX2_become := rfl
theorem mX2_become_n : mX2_become.2.2.2.1 = 3 := rfl
theorem mX2_become_r : mX2_become.2.2.2.2.1 = none := rfl
theorem mX2_become_l : mX2_become.2.2.2.2.2.2 = none := rfl
def jX2_become (Γ : Cx) : List ((Nat × Nat) × Nat × Bool × YSp) := [((0, 25), 2, false, sp_X1_recall_01 Γ)]
theorem jX2_become_0_25 (Γ : Cx) : kT (jX2_become Γ) 0 25 = some (2, false, sp_X1_recall_01 Γ) := rfl
theorem uX2_become (Γ : Cx) : TbOK Γ mX2_become (fT fX2, cT kX2, kT (jX2_become Γ)) := tb_ok fX2_ok kX2_ok (all_cons ⟨call_U (n := 1) [(0, RX0, TX0, 9), (1, RX1, TX1, 5)] (ok_X1_recall_01 Γ) (rv_X1_recall_01 (Γ := Γ)) (all_cons ⟨rfl, bw_1067⟩ (all_cons ⟨rfl, bw_1068⟩ (all_nil))) bw_457 bw_500 bw_1066 bw_456 bw_43 rfl no_X1_recall ⟨⟨rfl, rfl⟩, ⟨by decide, by decide⟩, ⟨by decide, by decide⟩⟩, fun z => by cases z⟩ (all_nil))
set_option maxRecDepth 20000 in
theorem ok_X2_become (Γ : Cx) : Ok Γ yX2_become mX2_become (sp_X2_become Γ) := by
  refine ok_intro (by decide +kernel) rfl rfl ?_
  intro av σ K h
  obtain ⟨F, F', p, p', c, c', n, N, rfl, ⟨pm, m, hP, hF⟩, ⟨pm', m', hP', hF'⟩, hdis, h⟩ := h
  have hN : N ≤ 8 := hP'.1.2.2
  have hd' : ∀ q, PC p' pm' m' q → ¬ F q := fun q hq z => hdis q z (hF' q hq)
  have loop : ∀ k j : Nat, ∀ σ1 : Hp, j + k = N → frm F σ σ1 → Pst Γ p pm m (becM c c' j) N σ1 → YG Γ mX2_become K 10 [(0, .ref p), (1, .ref p'), (2, .int (nI j))] [] σ1 := by
    intro k
    induction k with
    | zero =>
      intro j σ1 hj hfr hQ
      obtain rfl : j = N := by omega
      obtain ⟨⟨m1, m2, -⟩, e1, -⟩ := id hQ
      simp only [PstE] at e1
      refine yvc1_ok (uX2_become Γ) (S := [10]) 40 ?_
      simp only [yvc1, geP, m1, e1, yvc_s, s1i, s2i, s1l, s2l, sil, s1r, sir, siir, slir, srir, svr, sd1, sd2, lg, lput, ldel, isL_i, isL_r, isL_l, jmp, obj, obj1, fI, fR, arI, arL, arR, hput, f4_0, f4_1, f4_2, f4_3, lc_0, lc_1, rok_i, rok_b, rok_y, strF, fput_1, fput_2, csum_nil, csum_i, csum_l, csum_r, va_up_self, bx_uu, Int.reduceAdd, List.elem_nil, List.elem_cons, List.take_succ_cons, List.take_zero, List.drop_succ_cons, List.drop_zero, List.take_nil, List.drop_nil, List.reverse_cons, List.reverse_nil, List.nil_append, List.cons_append, List.append_nil, Option.toList_some, Option.toList_none, List.getElem?_cons_zero, List.getElem?_cons_succ, List.set_cons_zero, List.set_cons_succ, List.length_cons, List.length_nil, reduceIte, reduceCtorEq, and_true, true_and, and_self, or_true, true_or, false_and, and_false, not_true_eq_false, not_false_eq_true, true_implies, false_implies, implies_true, Nat.reduceAdd, Nat.reduceLT, Nat.reduceEqDiff, Nat.reduceLeDiff, Nat.reduceBEq, Nat.zero_add, Nat.lt_add_one, Bool.false_eq_true, Bool.or_false, Bool.or_true, Bool.or_self, Nat.zero_ne_one, Nat.one_ne_zero, ite_true, ite_false, ne_eq, Nat.reduceSub, Nat.succ_eq_add_one, Nat.zero_lt_succ, Nat.add_one_ne_zero, false_or, or_false, mX2_become_c, mX2_become_n, mX2_become_r, mX2_become_l, dX2_become_0, dX2_become_1, dX2_become_2, fl_2_17_2, dX2_become_5, dX2_become_8, ic_0, dX2_become_9, dX2_become_10, dX2_become_11, dX2_become_12, dX2_become_15, tg_15_24, cnd2_ge, dX2_become_18, dX2_become_19, fl_2_11_2, dX2_become_22, dX2_become_23, dX2_become_24, dX2_become_25, dX2_become_28, dX2_become_29, dX2_become_30, dX2_become_33, ic_1, dX2_become_36, tg_36_m26, dX2_become_39, jX2_become_0_25, st_aaload, st_aload_n, st_getfield, st_goto, st_iconst, st_if_icmp, st_iinc, st_iload_n, st_invokevirtual, st_istore_n, st_putfield, st_return]
      exact h _ hfr ⟨pm, m, hQ, hF⟩
    | succ k ih =>
      intro j σ1 hj hfr hQ
      have hj8 : j < 8 := by omega
      have hQ' : Pst Γ p' pm' m' c' N σ1 := hP'.keep hfr.1 (fun q hq => hfr.2 q (hd' q hq))
      obtain ⟨⟨m1, m2, -⟩, e1, ⟨f, e2, e2'⟩, e3, e4⟩ := id hQ
      obtain ⟨⟨u1, u2, -⟩, w1, ⟨f', w2, w2'⟩, w3, w4⟩ := id hQ'
      have c1 := lt9 (show j < N by omega) hN
      obtain ⟨-, c2, c3⟩ := lt8 hj8
      have a0 := e2' j hj8
      have a1 := w2' j hj8
      obtain ⟨⟨b1, b2, b3⟩, g1, ⟨gw, g2, -⟩, ⟨gk, g3, -⟩⟩ := e3 j hj8
      obtain ⟨⟨x1, x2, x3⟩, y1, ⟨hw, y2, y2'⟩, ⟨hk, y3, y3'⟩⟩ := w3 j hj8
      have e1s := e1
      have e2s := e2
      have w1s := w1
      have w2s := w2
      simp only [PstE, rA] at e1s e2s w1s w2s
      refine yvc1_ok (uX2_become Γ) (S := [10]) 40 ?_
      simp only [yvc1, c1, c2, c3, m1, m2, u1, u2, e1s, e2s, w1s, w2s, a0, a1, yvc_s, s1i, s2i, s1l, s2l, sil, s1r, sir, siir, slir, srir, svr, sd1, sd2, lg, lput, ldel, isL_i, isL_r, isL_l, jmp, obj, obj1, fI, fR, arI, arL, arR, hput, f4_0, f4_1, f4_2, f4_3, lc_0, lc_1, rok_i, rok_b, rok_y, strF, fput_1, fput_2, csum_nil, csum_i, csum_l, csum_r, va_up_self, bx_uu, Int.reduceAdd, List.elem_nil, List.elem_cons, List.take_succ_cons, List.take_zero, List.drop_succ_cons, List.drop_zero, List.take_nil, List.drop_nil, List.reverse_cons, List.reverse_nil, List.nil_append, List.cons_append, List.append_nil, Option.toList_some, Option.toList_none, List.getElem?_cons_zero, List.getElem?_cons_succ, List.set_cons_zero, List.set_cons_succ, List.length_cons, List.length_nil, reduceIte, reduceCtorEq, and_true, true_and, and_self, or_true, true_or, false_and, and_false, not_true_eq_false, not_false_eq_true, true_implies, false_implies, implies_true, Nat.reduceAdd, Nat.reduceLT, Nat.reduceEqDiff, Nat.reduceLeDiff, Nat.reduceBEq, Nat.zero_add, Nat.lt_add_one, Bool.false_eq_true, Bool.or_false, Bool.or_true, Bool.or_self, Nat.zero_ne_one, Nat.one_ne_zero, ite_true, ite_false, ne_eq, Nat.reduceSub, Nat.succ_eq_add_one, Nat.zero_lt_succ, Nat.add_one_ne_zero, false_or, or_false, mX2_become_c, mX2_become_n, mX2_become_r, mX2_become_l, dX2_become_0, dX2_become_1, dX2_become_2, fl_2_17_2, dX2_become_5, dX2_become_8, ic_0, dX2_become_9, dX2_become_10, dX2_become_11, dX2_become_12, dX2_become_15, tg_15_24, cnd2_ge, dX2_become_18, dX2_become_19, fl_2_11_2, dX2_become_22, dX2_become_23, dX2_become_24, dX2_become_25, dX2_become_28, dX2_become_29, dX2_become_30, dX2_become_33, ic_1, dX2_become_36, tg_36_m26, dX2_become_39, jX2_become_0_25, st_aaload, st_aload_n, st_getfield, st_goto, st_iconst, st_if_icmp, st_iinc, st_iload_n, st_invokevirtual, st_istore_n, st_putfield, st_return]
      have d1 : (m j).1 ≠ (m' j).1 := fun z => hdis _ (hF _ (Or.inr (Or.inr ⟨j, hj8, Or.inl rfl⟩))) (hF' _ (Or.inr (Or.inr ⟨j, hj8, Or.inl z⟩)))
      have d2 : (m j).2.1 ≠ (m' j).2.1 := fun z => hdis _ (hF _ (Or.inr (Or.inr ⟨j, hj8, Or.inr (Or.inl rfl)⟩))) (hF' _ (Or.inr (Or.inr ⟨j, hj8, Or.inr (Or.inl z)⟩)))
      have d3 : (m j).2.2 ≠ (m' j).2.2 := fun z => hdis _ (hF _ (Or.inr (Or.inr ⟨j, hj8, Or.inr (Or.inr rfl)⟩))) (hF' _ (Or.inr (Or.inr ⟨j, hj8, Or.inr (Or.inr z)⟩)))
      refine ⟨(m j).1, (m' j).1, 1, 1, (m j).2.1, (m j).2.2, (m' j).2.1, (m' j).2.2, gw, gk, hw, hk, _, _, _, _, _, _, [], [], rfl, Or.inr rfl, Or.inr rfl, ⟨b1, x1, b2, b3, x2, x3⟩, ⟨d1, d2, d3⟩, ⟨g1, y1, g2, g3, y2, y3⟩, ?_⟩
      have hs := hQ.set1 hj8 (w := cpN 20 hw gw) (k := cpN 4 hk gk) (c' j) (fun i hi => (cpN_in hi).trans (y2' i hi)) (fun i hi => (cpN_in hi).trans (y3' i hi))
      rw [becM_s] at hs
      have hn := ih (j + 1) _ (by omega) (hfr.tr (mset_frm hF hj8)) hs
      refine yvc_ok (uX2_become Γ) (S := [10]) 40 _ _ _ _ ?_
      simp only [nI_1, yvc_s, s1i, s2i, s1l, s2l, sil, s1r, sir, siir, slir, srir, svr, sd1, sd2, lg, lput, ldel, isL_i, isL_r, isL_l, jmp, obj, obj1, fI, fR, arI, arL, arR, hput, f4_0, f4_1, f4_2, f4_3, lc_0, lc_1, rok_i, rok_b, rok_y, strF, fput_1, fput_2, csum_nil, csum_i, csum_l, csum_r, va_up_self, bx_uu, Int.reduceAdd, List.elem_nil, List.elem_cons, List.take_succ_cons, List.take_zero, List.drop_succ_cons, List.drop_zero, List.take_nil, List.drop_nil, List.reverse_cons, List.reverse_nil, List.nil_append, List.cons_append, List.append_nil, Option.toList_some, Option.toList_none, List.getElem?_cons_zero, List.getElem?_cons_succ, List.set_cons_zero, List.set_cons_succ, List.length_cons, List.length_nil, reduceIte, reduceCtorEq, and_true, true_and, and_self, or_true, true_or, false_and, and_false, not_true_eq_false, not_false_eq_true, true_implies, false_implies, implies_true, Nat.reduceAdd, Nat.reduceLT, Nat.reduceEqDiff, Nat.reduceLeDiff, Nat.reduceBEq, Nat.zero_add, Nat.lt_add_one, Bool.false_eq_true, Bool.or_false, Bool.or_true, Bool.or_self, Nat.zero_ne_one, Nat.one_ne_zero, ite_true, ite_false, ne_eq, Nat.reduceSub, Nat.succ_eq_add_one, Nat.zero_lt_succ, Nat.add_one_ne_zero, false_or, or_false, mX2_become_c, mX2_become_n, mX2_become_r, mX2_become_l, dX2_become_0, dX2_become_1, dX2_become_2, fl_2_17_2, dX2_become_5, dX2_become_8, ic_0, dX2_become_9, dX2_become_10, dX2_become_11, dX2_become_12, dX2_become_15, tg_15_24, cnd2_ge, dX2_become_18, dX2_become_19, fl_2_11_2, dX2_become_22, dX2_become_23, dX2_become_24, dX2_become_25, dX2_become_28, dX2_become_29, dX2_become_30, dX2_become_33, ic_1, dX2_become_36, tg_36_m26, dX2_become_39, jX2_become_0_25, st_aaload, st_aload_n, st_getfield, st_goto, st_iconst, st_if_icmp, st_iinc, st_iload_n, st_invokevirtual, st_istore_n, st_putfield, st_return]
      exact hn
  have hl := loop N 0 (hput σ p (PstE pm N)) (by omega) (hput_frm (hF _ (Or.inl rfl))) (by rw [becM_0]; exact hP.putN hN)
  obtain ⟨⟨m1, m2, -⟩, e1, -⟩ := id hP
  obtain ⟨⟨u1, u2, -⟩, w1, -⟩ := id hP'
  simp only [PstE, hput] at e1 w1 hl
  refine ⟨Nat.le_of_ble_eq_true rfl, yvc_ok (uX2_become Γ) (S := [10]) 40 _ _ _ _ ?_⟩
  simp only [lv_args, Value.category, m1, u1, e1, w1, yvc_s, s1i, s2i, s1l, s2l, sil, s1r, sir, siir, slir, srir, svr, sd1, sd2, lg, lput, ldel, isL_i, isL_r, isL_l, jmp, obj, obj1, fI, fR, arI, arL, arR, hput, f4_0, f4_1, f4_2, f4_3, lc_0, lc_1, rok_i, rok_b, rok_y, strF, fput_1, fput_2, csum_nil, csum_i, csum_l, csum_r, va_up_self, bx_uu, Int.reduceAdd, List.elem_nil, List.elem_cons, List.take_succ_cons, List.take_zero, List.drop_succ_cons, List.drop_zero, List.take_nil, List.drop_nil, List.reverse_cons, List.reverse_nil, List.nil_append, List.cons_append, List.append_nil, Option.toList_some, Option.toList_none, List.getElem?_cons_zero, List.getElem?_cons_succ, List.set_cons_zero, List.set_cons_succ, List.length_cons, List.length_nil, reduceIte, reduceCtorEq, and_true, true_and, and_self, or_true, true_or, false_and, and_false, not_true_eq_false, not_false_eq_true, true_implies, false_implies, implies_true, Nat.reduceAdd, Nat.reduceLT, Nat.reduceEqDiff, Nat.reduceLeDiff, Nat.reduceBEq, Nat.zero_add, Nat.lt_add_one, Bool.false_eq_true, Bool.or_false, Bool.or_true, Bool.or_self, Nat.zero_ne_one, Nat.one_ne_zero, ite_true, ite_false, ne_eq, Nat.reduceSub, Nat.succ_eq_add_one, Nat.zero_lt_succ, Nat.add_one_ne_zero, false_or, or_false, mX2_become_c, mX2_become_n, mX2_become_r, mX2_become_l, dX2_become_0, dX2_become_1, dX2_become_2, fl_2_17_2, dX2_become_5, dX2_become_8, ic_0, dX2_become_9, dX2_become_10, dX2_become_11, dX2_become_12, dX2_become_15, tg_15_24, cnd2_ge, dX2_become_18, dX2_become_19, fl_2_11_2, dX2_become_22, dX2_become_23, dX2_become_24, dX2_become_25, dX2_become_28, dX2_become_29, dX2_become_30, dX2_become_33, ic_1, dX2_become_36, tg_36_m26, dX2_become_39, jX2_become_0_25, st_aaload, st_aload_n, st_getfield, st_goto, st_iconst, st_if_icmp, st_iinc, st_iload_n, st_invokevirtual, st_istore_n, st_putfield, st_return]
  exact hl
