/-! ===== YawnKeysModel: note, undo ===== -/
theorem cpy_0 (f g : Nat → Int32) (b : Nat) : va_cpy f g 0 b 0 = g := by
  funext k
  unfold va_cpy
  rw [if_neg (by omega)]
theorem cpy_s (f g : Nat → Int32) (b n : Nat) : upd (va_cpy f g 0 b n) (b + n) (f n) = va_cpy f g 0 b (n + 1) := by
  funext k
  unfold va_cpy
  by_cases e : k = b + n
  · subst e
    rw [pk_us, if_pos (by omega)]
    congr 1
    omega
  · rw [pk_un e]
    by_cases c : b ≤ k ∧ k < b + n
    · rw [if_pos c, if_pos (by omega)]
    · rw [if_neg c, if_neg (by omega)]
theorem ix27 {u k : Nat} (hu : u < 8) (hk : k < 27) : vp_in (27 * nI u + nI k) 216 ∧ (27 * nI u + nI k).toNatClampNeg = 27 * u + k := by
  rw [show (27 : Int32) = nI 27 from rfl, pk_mul, nI_add]
  exact ⟨vp_in_nI (by omega) (by decide), nI_clamp (by omega)⟩
theorem ix27k {k : Nat} (hk : k < 189) : vp_in (27 + nI k) 216 ∧ (27 + nI k).toNatClampNeg = 27 + k := by
  rw [show (27 : Int32) = nI 27 from rfl, nI_add]
  exact ⟨vp_in_nI (by omega) (by decide), nI_clamp (by omega)⟩
theorem lt189 {j : Nat} (h : j < 189) : (¬ (189 : Int32) ≤ nI j) ∧ vp_in (nI j) 216 ∧ (nI j).toNatClampNeg = j := ⟨nI_ge h (by decide), vp_in_nI (by omega) (by decide), nI_clamp (by omega)⟩
theorem ge189 : (189 : Int32) ≤ nI 189 := by decide
theorem n8 {n : Nat} (h : n ≤ 8) : nI n = 8 ↔ n = 8 := nI_eq (b := 8) (by omega) (by decide)
def shf (f : Nat → Int32) (j : Nat) : Nat → Int32 := fun k => if k < j then f (27 + k) else f k
theorem shf_0 (f : Nat → Int32) : shf f 0 = f := by funext k; unfold shf; rw [if_neg (by omega)]
theorem shf_s (f : Nat → Int32) (j : Nat) : upd (shf f j) j (f (27 + j)) = shf f (j + 1) := by
  funext k
  unfold shf
  by_cases e : k = j
  · subst e; rw [pk_us, if_pos (by omega)]
  · rw [pk_un e]
    by_cases c : k < j
    · rw [if_pos c, if_pos (by omega)]
    · rw [if_neg c, if_neg (by omega)]
theorem shf_27 {f : Nat → Int32} {j : Nat} : shf f j (27 + j) = f (27 + j) := by unfold shf; rw [if_neg (by omega)]
def remX (ψ : XS) : XS := (ψ.1, ψ.2.1, (remM ψ.2.2.1.1 ψ.2.2.1.2 (mom ψ.1), remN ψ.2.2.1.2), ψ.2.2.2)
theorem updM_at {c : Nat → MC} {n : Nat} {x : MC} : updM c n x n = x := by unfold updM; rw [if_pos rfl]
theorem updM_ne {c : Nat → MC} {n i : Nat} {x : MC} (h : i ≠ n) : updM c n x i = c i := by unfold updM; rw [if_neg h]
def sp_X7_note (Γ : Cx) : YSp := fun av σ K => ∃ ψ : XS, mq Γ [] (R ψ) (fun s s' r => R (remX ψ) s' ∧ r = none) av σ K
theorem rv_X7_note {Γ : Cx} : Recv (sp_X7_note Γ) 0 7 := by
  intro av σ K h
  obtain ⟨ψ, h⟩ := h
  obtain ⟨q, fs, h1, h2, h3⟩ := rv_mq h
  exact ⟨q, _, fs, h1, rfl, h2, h3⟩
theorem tg_6_43 : tgo 6 43 = some 49 := by decide
theorem sc_189 : (Int16.ofInt 189).toInt32 = 189 := by decide
theorem tg_36_m25 : tgo 36 (-25) = some 11 := by decide
theorem tg_54_29 : tgo 54 29 = some 83 := by decide
theorem tg_80_m29 : tgo 80 (-29) = some 51 := by decide
def mX7_note : Mt := (⟨0, 0, 0, 0⟩, RX7, cX7_note, 2, none, (0, 0), none)
theorem mX7_note_c : mX7_note.2.2.1 = cX7_note := rfl
theorem mX7_note_n : mX7_note.2.2.2.1 = 2 := rfl
theorem mX7_note_r : mX7_note.2.2.2.2.1 = none := rfl
theorem mX7_note_l : mX7_note.2.2.2.2.2.2 = none := rfl
def jX7_note (Γ : Cx) : List ((Nat × Nat) × Nat × Bool × YSp) := []
theorem uX7_note (Γ : Cx) : TbOK Γ mX7_note (fT fX7, cT kX7, kT (jX7_note Γ)) := tb_ok fX7_ok kX7_ok (all_nil)
set_option maxRecDepth 20000 in
theorem ok_X7_note (Γ : Cx) : Ok Γ yX7_note mX7_note (sp_X7_note Γ) := by
  refine ok_intro (by decide +kernel) rfl rfl ?_
  intro av σ K h
  obtain ⟨ψ, lab, ⟨a, ad⟩, ⟨sc, ar, it⟩, rfl, hM, hR, h⟩ := h
  simp only at h
  obtain ⟨⟨m1, -⟩, e1, -⟩ := id hM
  obtain ⟨⟨p1, p2, p3, p4, pI, p5, p6, p7⟩, -⟩ := id hR
  have hP := pI.P5
  simp only at p1 p2 p3 p4 p5 p6 p7
  simp only [ME] at m1 e1
  have two : ∀ (u : Nat) (sc1 : Nat → Int32) (bf : Nat → Int32) (σ1 : Hp), u < 8 → sc1 6 = nI u → frm (fL lab 30) σ σ1 → Mod Γ lab (a, ad) (sc1, updA ar 5 bf, it) σ1 → (∀ σ2, frm (fL lab 30) σ σ2 → Mod Γ lab (a, ad) (upd sc1 6 (nI (u + 1)), updA ar 5 (va_cpy (ar 3) bf 0 (27 * u) 27), it) σ2 → K none σ2) → YG Γ mX7_note K 51 [(0, .ref a), (1, .int (nI 0))] [] σ1 := by
    intro u sc1 bf σ1 hu h6 hf1 hM1 hK
    have loop : ∀ n j : Nat, j + n = 27 → ∀ σ2, frm (fL lab 30) σ σ2 → Mod Γ lab (a, ad) (sc1, updA ar 5 (va_cpy (ar 3) bf 0 (27 * u) j), it) σ2 → YG Γ mX7_note K 51 [(0, .ref a), (1, .int (nI j))] [] σ2 := by
      intro n
      induction n with
      | zero =>
        intro j hj σ2 hf2 hM2
        obtain rfl : j = 27 := by omega
        have hk := hK _ (hf2.tr hM2.frO) (hM2.putO (upd sc1 6 (nI (u + 1))))
        obtain ⟨⟨m1, -⟩, e1, -⟩ := id hM2
        simp only [ME, hput] at m1 e1 hk
        rw [h6] at e1
        refine yvc1_ok (uX7_note Γ) (S := [51]) 40 ?_
        simp only [yvc1, ge27, m1, e1, nI_1, yvc_s, s1i, s2i, s1l, s2l, sil, s1r, sir, siir, slir, srir, svr, sd1, sd2, lg, lput, ldel, isL_i, isL_r, isL_l, jmp, obj, obj1, fI, fR, arI, arL, arR, hput, f4_0, f4_1, f4_2, f4_3, lc_0, lc_1, rok_i, rok_b, rok_y, strF, fput_1, fput_2, csum_nil, csum_i, csum_l, csum_r, va_up_self, bx_uu, Int.reduceAdd, List.elem_nil, List.elem_cons, List.take_succ_cons, List.take_zero, List.drop_succ_cons, List.drop_zero, List.take_nil, List.drop_nil, List.reverse_cons, List.reverse_nil, List.nil_append, List.cons_append, List.append_nil, Option.toList_some, Option.toList_none, List.getElem?_cons_zero, List.getElem?_cons_succ, List.set_cons_zero, List.set_cons_succ, List.length_cons, List.length_nil, reduceIte, reduceCtorEq, and_true, true_and, and_self, or_true, true_or, false_and, and_false, not_true_eq_false, not_false_eq_true, true_implies, false_implies, implies_true, Nat.reduceAdd, Nat.reduceLT, Nat.reduceEqDiff, Nat.reduceLeDiff, Nat.reduceBEq, Nat.zero_add, Nat.lt_add_one, Bool.false_eq_true, Bool.or_false, Bool.or_true, Bool.or_self, Nat.zero_ne_one, Nat.one_ne_zero, ite_true, ite_false, ne_eq, Nat.reduceSub, Nat.succ_eq_add_one, Nat.zero_lt_succ, Nat.add_one_ne_zero, false_or, or_false, mX7_note_c, mX7_note_n, mX7_note_r, mX7_note_l, dX7_note_0, dX7_note_1, fl_7_104_7, dX7_note_4, bc_8, dX7_note_6, tg_6_43, cnd2_ne, dX7_note_9, ic_0, dX7_note_10, dX7_note_11, dX7_note_12, sc_189, dX7_note_15, tg_15_24, cnd2_ge, dX7_note_18, dX7_note_19, fl_7_23_7, dX7_note_22, dX7_note_23, dX7_note_24, dX7_note_27, bc_27, dX7_note_29, dX7_note_30, dX7_note_31, dX7_note_32, dX7_note_33, ic_1, dX7_note_36, tg_36_m25, dX7_note_39, dX7_note_40, dX7_note_41, dX7_note_44, dX7_note_45, dX7_note_46, dX7_note_49, dX7_note_50, dX7_note_51, dX7_note_52, dX7_note_54, tg_54_29, dX7_note_57, dX7_note_58, dX7_note_61, dX7_note_63, dX7_note_64, dX7_note_67, dX7_note_68, dX7_note_69, dX7_note_70, dX7_note_71, fl_7_17_7, dX7_note_74, dX7_note_75, dX7_note_76, dX7_note_77, dX7_note_80, tg_80_m29, dX7_note_83, dX7_note_84, dX7_note_85, dX7_note_88, dX7_note_89, dX7_note_90, dX7_note_93, st_aload_n, st_bipush, st_dup, st_getfield, st_goto, st_iadd, st_iaload, st_iastore, st_iconst, st_if_icmp, st_iinc, st_iload_n, st_imul, st_istore_n, st_isub, st_putfield, st_return, st_sipush]
        exact hk
      | succ n ih =>
        intro j hj σ2 hf2 hM2
        obtain ⟨c1, c2, c3⟩ := lt27 (show j < 27 by omega)
        obtain ⟨i1, i2⟩ := ix27 hu (show j < 27 by omega)
        have hM3 := hM2.putA (k := 5) rfl (va_cpy (ar 3) bf 0 (27 * u) (j + 1))
        simp only [updA_updA] at hM3
        have hj1 := ih (j + 1) (by omega) _ (hf2.tr (hM2.frA (k := 5) rfl)) hM3
        obtain ⟨⟨m1, -⟩, e1, -⟩ := id hM2
        obtain ⟨m3, e3⟩ := hM2.arr 3 rfl
        obtain ⟨m5, e5⟩ := hM2.arr 5 rfl
        rw [← cpy_s] at hj1
        simp only [ME, hput, iA, lenM, updA_at, updA_ne (show (3 : Nat) ≠ 5 by decide)] at m1 e1 m3 e3 m5 e5 hj1
        rw [h6] at e1
        refine yvc1_ok (uX7_note Γ) (S := [51]) 40 ?_
        simp only [yvc1, c1, c2, c3, i1, i2, m1, e1, m3, e3, m5, e5, nI_1, yvc_s, s1i, s2i, s1l, s2l, sil, s1r, sir, siir, slir, srir, svr, sd1, sd2, lg, lput, ldel, isL_i, isL_r, isL_l, jmp, obj, obj1, fI, fR, arI, arL, arR, hput, f4_0, f4_1, f4_2, f4_3, lc_0, lc_1, rok_i, rok_b, rok_y, strF, fput_1, fput_2, csum_nil, csum_i, csum_l, csum_r, va_up_self, bx_uu, Int.reduceAdd, List.elem_nil, List.elem_cons, List.take_succ_cons, List.take_zero, List.drop_succ_cons, List.drop_zero, List.take_nil, List.drop_nil, List.reverse_cons, List.reverse_nil, List.nil_append, List.cons_append, List.append_nil, Option.toList_some, Option.toList_none, List.getElem?_cons_zero, List.getElem?_cons_succ, List.set_cons_zero, List.set_cons_succ, List.length_cons, List.length_nil, reduceIte, reduceCtorEq, and_true, true_and, and_self, or_true, true_or, false_and, and_false, not_true_eq_false, not_false_eq_true, true_implies, false_implies, implies_true, Nat.reduceAdd, Nat.reduceLT, Nat.reduceEqDiff, Nat.reduceLeDiff, Nat.reduceBEq, Nat.zero_add, Nat.lt_add_one, Bool.false_eq_true, Bool.or_false, Bool.or_true, Bool.or_self, Nat.zero_ne_one, Nat.one_ne_zero, ite_true, ite_false, ne_eq, Nat.reduceSub, Nat.succ_eq_add_one, Nat.zero_lt_succ, Nat.add_one_ne_zero, false_or, or_false, mX7_note_c, mX7_note_n, mX7_note_r, mX7_note_l, dX7_note_0, dX7_note_1, fl_7_104_7, dX7_note_4, bc_8, dX7_note_6, tg_6_43, cnd2_ne, dX7_note_9, ic_0, dX7_note_10, dX7_note_11, dX7_note_12, sc_189, dX7_note_15, tg_15_24, cnd2_ge, dX7_note_18, dX7_note_19, fl_7_23_7, dX7_note_22, dX7_note_23, dX7_note_24, dX7_note_27, bc_27, dX7_note_29, dX7_note_30, dX7_note_31, dX7_note_32, dX7_note_33, ic_1, dX7_note_36, tg_36_m25, dX7_note_39, dX7_note_40, dX7_note_41, dX7_note_44, dX7_note_45, dX7_note_46, dX7_note_49, dX7_note_50, dX7_note_51, dX7_note_52, dX7_note_54, tg_54_29, dX7_note_57, dX7_note_58, dX7_note_61, dX7_note_63, dX7_note_64, dX7_note_67, dX7_note_68, dX7_note_69, dX7_note_70, dX7_note_71, fl_7_17_7, dX7_note_74, dX7_note_75, dX7_note_76, dX7_note_77, dX7_note_80, tg_80_m29, dX7_note_83, dX7_note_84, dX7_note_85, dX7_note_88, dX7_note_89, dX7_note_90, dX7_note_93, st_aload_n, st_bipush, st_dup, st_getfield, st_goto, st_iadd, st_iaload, st_iastore, st_iconst, st_if_icmp, st_iinc, st_iload_n, st_imul, st_istore_n, st_isub, st_putfield, st_return, st_sipush]
        exact hj1
    exact loop 27 0 rfl σ1 hf1 (by rw [cpy_0]; exact hM1)
  by_cases c8 : ψ.2.2.1.2 = 8
  · have fin : ∀ σ1, frm (fL lab 30) σ σ1 → Mod Γ lab (a, ad) (sc, updA ar 5 (shf (ar 5) 189), it) σ1 → YG Γ mX7_note K 11 [(0, .ref a), (1, .int (nI 189))] [] σ1 := by
      intro σ1 hf1 hM1
      have hM2 := hM1.putO (upd sc 6 (nI 7))
      have hl := two 7 (upd sc 6 (nI 7)) (shf (ar 5) 189) _ (by decide) pk_us (hf1.tr hM1.frO) hM2 (by
        intro σ2 hf2 hM3
        refine h σ2 _ none ⟨?_, rfl⟩ hf2 hM3
        unfold remX remM remN
        rw [if_pos c8, if_pos c8]
        refine hR.upN (c := ψ.1) (pa := (updM (shM ψ.2.2.1.1) 7 (mom ψ.1), 8)) rfl rfl rfl rfl rfl rfl rfl rfl rfl rfl ⟨p1, p2, rfl, Nat.le_refl _, pI, p5, p6, ?_⟩
        intro i hi
        simp only [updA_at] at hi ⊢
        by_cases e : i = 7
        · subst e
          rw [updM_at]
          refine ⟨pI.mi, p6.row hP (fun k hk => ?_)⟩
          show va_cpy (ar 3) (shf (ar 5) 189) 0 (27 * 7) 27 (27 * 7 + k) = _
          rw [pk_cpy_in (by omega) (by omega)]
          congr 1
          omega
        · rw [updM_ne e]
          unfold shM
          rw [if_pos (by omega)]
          have h7 := p7 (i + 1) (by omega)
          refine ⟨h7.1, h7.2.row hP (fun k hk => ?_)⟩
          show va_cpy (ar 3) (shf (ar 5) 189) 0 (27 * 7) 27 (27 * i + k) = ar 5 (27 * (i + 1) + k)
          rw [pk_cpy_out (by omega)]
          unfold shf
          rw [if_pos (by omega)]
          congr 1
          omega)
      obtain ⟨⟨m1, -⟩, e1, -⟩ := id hM1
      simp only [ME, hput] at m1 e1 hl
      rw [p3, c8] at e1
      refine yvc1_ok (uX7_note Γ) (S := [11, 51]) 40 ?_
      simp only [yvc1, ge189, m1, e1, nI_pred, yvc_s, s1i, s2i, s1l, s2l, sil, s1r, sir, siir, slir, srir, svr, sd1, sd2, lg, lput, ldel, isL_i, isL_r, isL_l, jmp, obj, obj1, fI, fR, arI, arL, arR, hput, f4_0, f4_1, f4_2, f4_3, lc_0, lc_1, rok_i, rok_b, rok_y, strF, fput_1, fput_2, csum_nil, csum_i, csum_l, csum_r, va_up_self, bx_uu, Int.reduceAdd, List.elem_nil, List.elem_cons, List.take_succ_cons, List.take_zero, List.drop_succ_cons, List.drop_zero, List.take_nil, List.drop_nil, List.reverse_cons, List.reverse_nil, List.nil_append, List.cons_append, List.append_nil, Option.toList_some, Option.toList_none, List.getElem?_cons_zero, List.getElem?_cons_succ, List.set_cons_zero, List.set_cons_succ, List.length_cons, List.length_nil, reduceIte, reduceCtorEq, and_true, true_and, and_self, or_true, true_or, false_and, and_false, not_true_eq_false, not_false_eq_true, true_implies, false_implies, implies_true, Nat.reduceAdd, Nat.reduceLT, Nat.reduceEqDiff, Nat.reduceLeDiff, Nat.reduceBEq, Nat.zero_add, Nat.lt_add_one, Bool.false_eq_true, Bool.or_false, Bool.or_true, Bool.or_self, Nat.zero_ne_one, Nat.one_ne_zero, ite_true, ite_false, ne_eq, Nat.reduceSub, Nat.succ_eq_add_one, Nat.zero_lt_succ, Nat.add_one_ne_zero, false_or, or_false, mX7_note_c, mX7_note_n, mX7_note_r, mX7_note_l, dX7_note_0, dX7_note_1, fl_7_104_7, dX7_note_4, bc_8, dX7_note_6, tg_6_43, cnd2_ne, dX7_note_9, ic_0, dX7_note_10, dX7_note_11, dX7_note_12, sc_189, dX7_note_15, tg_15_24, cnd2_ge, dX7_note_18, dX7_note_19, fl_7_23_7, dX7_note_22, dX7_note_23, dX7_note_24, dX7_note_27, bc_27, dX7_note_29, dX7_note_30, dX7_note_31, dX7_note_32, dX7_note_33, ic_1, dX7_note_36, tg_36_m25, dX7_note_39, dX7_note_40, dX7_note_41, dX7_note_44, dX7_note_45, dX7_note_46, dX7_note_49, dX7_note_50, dX7_note_51, dX7_note_52, dX7_note_54, tg_54_29, dX7_note_57, dX7_note_58, dX7_note_61, dX7_note_63, dX7_note_64, dX7_note_67, dX7_note_68, dX7_note_69, dX7_note_70, dX7_note_71, fl_7_17_7, dX7_note_74, dX7_note_75, dX7_note_76, dX7_note_77, dX7_note_80, tg_80_m29, dX7_note_83, dX7_note_84, dX7_note_85, dX7_note_88, dX7_note_89, dX7_note_90, dX7_note_93, st_aload_n, st_bipush, st_dup, st_getfield, st_goto, st_iadd, st_iaload, st_iastore, st_iconst, st_if_icmp, st_iinc, st_iload_n, st_imul, st_istore_n, st_isub, st_putfield, st_return, st_sipush]
      exact hl
    have loop : ∀ n j : Nat, j + n = 189 → ∀ σ1, frm (fL lab 30) σ σ1 → Mod Γ lab (a, ad) (sc, updA ar 5 (shf (ar 5) j), it) σ1 → YG Γ mX7_note K 11 [(0, .ref a), (1, .int (nI j))] [] σ1 := by
      intro n
      induction n with
      | zero =>
        intro j hj σ1 hf1 hM1
        obtain rfl : j = 189 := by omega
        exact fin σ1 hf1 hM1
      | succ n ih =>
        intro j hj σ1 hf1 hM1
        obtain ⟨c1, c2, c3⟩ := lt189 (show j < 189 by omega)
        obtain ⟨i1, i2⟩ := ix27k (show j < 189 by omega)
        have hM3 := hM1.putA (k := 5) rfl (shf (ar 5) (j + 1))
        simp only [updA_updA] at hM3
        have hj1 := ih (j + 1) (by omega) _ (hf1.tr (hM1.frA (k := 5) rfl)) hM3
        obtain ⟨⟨m1, -⟩, e1, -⟩ := id hM1
        obtain ⟨m5, e5⟩ := hM1.arr 5 rfl
        rw [← shf_s] at hj1
        simp only [ME, hput, iA, lenM, updA_at] at m1 e1 m5 e5 hj1
        refine yvc1_ok (uX7_note Γ) (S := [11, 51]) 40 ?_
        simp only [yvc1, c1, c2, c3, i1, i2, m1, e1, m5, e5, shf_27, nI_1, yvc_s, s1i, s2i, s1l, s2l, sil, s1r, sir, siir, slir, srir, svr, sd1, sd2, lg, lput, ldel, isL_i, isL_r, isL_l, jmp, obj, obj1, fI, fR, arI, arL, arR, hput, f4_0, f4_1, f4_2, f4_3, lc_0, lc_1, rok_i, rok_b, rok_y, strF, fput_1, fput_2, csum_nil, csum_i, csum_l, csum_r, va_up_self, bx_uu, Int.reduceAdd, List.elem_nil, List.elem_cons, List.take_succ_cons, List.take_zero, List.drop_succ_cons, List.drop_zero, List.take_nil, List.drop_nil, List.reverse_cons, List.reverse_nil, List.nil_append, List.cons_append, List.append_nil, Option.toList_some, Option.toList_none, List.getElem?_cons_zero, List.getElem?_cons_succ, List.set_cons_zero, List.set_cons_succ, List.length_cons, List.length_nil, reduceIte, reduceCtorEq, and_true, true_and, and_self, or_true, true_or, false_and, and_false, not_true_eq_false, not_false_eq_true, true_implies, false_implies, implies_true, Nat.reduceAdd, Nat.reduceLT, Nat.reduceEqDiff, Nat.reduceLeDiff, Nat.reduceBEq, Nat.zero_add, Nat.lt_add_one, Bool.false_eq_true, Bool.or_false, Bool.or_true, Bool.or_self, Nat.zero_ne_one, Nat.one_ne_zero, ite_true, ite_false, ne_eq, Nat.reduceSub, Nat.succ_eq_add_one, Nat.zero_lt_succ, Nat.add_one_ne_zero, false_or, or_false, mX7_note_c, mX7_note_n, mX7_note_r, mX7_note_l, dX7_note_0, dX7_note_1, fl_7_104_7, dX7_note_4, bc_8, dX7_note_6, tg_6_43, cnd2_ne, dX7_note_9, ic_0, dX7_note_10, dX7_note_11, dX7_note_12, sc_189, dX7_note_15, tg_15_24, cnd2_ge, dX7_note_18, dX7_note_19, fl_7_23_7, dX7_note_22, dX7_note_23, dX7_note_24, dX7_note_27, bc_27, dX7_note_29, dX7_note_30, dX7_note_31, dX7_note_32, dX7_note_33, ic_1, dX7_note_36, tg_36_m25, dX7_note_39, dX7_note_40, dX7_note_41, dX7_note_44, dX7_note_45, dX7_note_46, dX7_note_49, dX7_note_50, dX7_note_51, dX7_note_52, dX7_note_54, tg_54_29, dX7_note_57, dX7_note_58, dX7_note_61, dX7_note_63, dX7_note_64, dX7_note_67, dX7_note_68, dX7_note_69, dX7_note_70, dX7_note_71, fl_7_17_7, dX7_note_74, dX7_note_75, dX7_note_76, dX7_note_77, dX7_note_80, tg_80_m29, dX7_note_83, dX7_note_84, dX7_note_85, dX7_note_88, dX7_note_89, dX7_note_90, dX7_note_93, st_aload_n, st_bipush, st_dup, st_getfield, st_goto, st_iadd, st_iaload, st_iastore, st_iconst, st_if_icmp, st_iinc, st_iload_n, st_imul, st_istore_n, st_isub, st_putfield, st_return, st_sipush]
        exact hj1
    have hl := loop 189 0 rfl σ frm.rf (by rw [shf_0, updA_self]; exact hM)
    rw [p3, c8] at e1
    refine ⟨Nat.le_of_ble_eq_true rfl, yvc_ok (uX7_note Γ) (S := [11, 51]) 60 _ _ _ _ ?_⟩
    simp only [lv_args, Value.category, m1, e1, n8 (Nat.le_refl 8), yvc_s, s1i, s2i, s1l, s2l, sil, s1r, sir, siir, slir, srir, svr, sd1, sd2, lg, lput, ldel, isL_i, isL_r, isL_l, jmp, obj, obj1, fI, fR, arI, arL, arR, hput, f4_0, f4_1, f4_2, f4_3, lc_0, lc_1, rok_i, rok_b, rok_y, strF, fput_1, fput_2, csum_nil, csum_i, csum_l, csum_r, va_up_self, bx_uu, Int.reduceAdd, List.elem_nil, List.elem_cons, List.take_succ_cons, List.take_zero, List.drop_succ_cons, List.drop_zero, List.take_nil, List.drop_nil, List.reverse_cons, List.reverse_nil, List.nil_append, List.cons_append, List.append_nil, Option.toList_some, Option.toList_none, List.getElem?_cons_zero, List.getElem?_cons_succ, List.set_cons_zero, List.set_cons_succ, List.length_cons, List.length_nil, reduceIte, reduceCtorEq, and_true, true_and, and_self, or_true, true_or, false_and, and_false, not_true_eq_false, not_false_eq_true, true_implies, false_implies, implies_true, Nat.reduceAdd, Nat.reduceLT, Nat.reduceEqDiff, Nat.reduceLeDiff, Nat.reduceBEq, Nat.zero_add, Nat.lt_add_one, Bool.false_eq_true, Bool.or_false, Bool.or_true, Bool.or_self, Nat.zero_ne_one, Nat.one_ne_zero, ite_true, ite_false, ne_eq, Nat.reduceSub, Nat.succ_eq_add_one, Nat.zero_lt_succ, Nat.add_one_ne_zero, false_or, or_false, mX7_note_c, mX7_note_n, mX7_note_r, mX7_note_l, dX7_note_0, dX7_note_1, fl_7_104_7, dX7_note_4, bc_8, dX7_note_6, tg_6_43, cnd2_ne, dX7_note_9, ic_0, dX7_note_10, dX7_note_11, dX7_note_12, sc_189, dX7_note_15, tg_15_24, cnd2_ge, dX7_note_18, dX7_note_19, fl_7_23_7, dX7_note_22, dX7_note_23, dX7_note_24, dX7_note_27, bc_27, dX7_note_29, dX7_note_30, dX7_note_31, dX7_note_32, dX7_note_33, ic_1, dX7_note_36, tg_36_m25, dX7_note_39, dX7_note_40, dX7_note_41, dX7_note_44, dX7_note_45, dX7_note_46, dX7_note_49, dX7_note_50, dX7_note_51, dX7_note_52, dX7_note_54, tg_54_29, dX7_note_57, dX7_note_58, dX7_note_61, dX7_note_63, dX7_note_64, dX7_note_67, dX7_note_68, dX7_note_69, dX7_note_70, dX7_note_71, fl_7_17_7, dX7_note_74, dX7_note_75, dX7_note_76, dX7_note_77, dX7_note_80, tg_80_m29, dX7_note_83, dX7_note_84, dX7_note_85, dX7_note_88, dX7_note_89, dX7_note_90, dX7_note_93, st_aload_n, st_bipush, st_dup, st_getfield, st_goto, st_iadd, st_iaload, st_iastore, st_iconst, st_if_icmp, st_iinc, st_iload_n, st_imul, st_istore_n, st_isub, st_putfield, st_return, st_sipush]
    exact hl
  · have hl := two ψ.2.2.1.2 sc (ar 5) σ (by omega) p3 frm.rf (by rw [updA_self]; exact hM) (by
      intro σ2 hf2 hM3
      refine h σ2 _ none ⟨?_, rfl⟩ hf2 hM3
      unfold remX remM remN
      rw [if_neg c8, if_neg c8]
      refine hR.upN (c := ψ.1) (pa := (updM ψ.2.2.1.1 ψ.2.2.1.2 (mom ψ.1), ψ.2.2.1.2 + 1)) rfl rfl rfl rfl rfl rfl rfl rfl rfl rfl ⟨p1, p2, rfl, ?_, pI, p5, p6, ?_⟩
      · simp only; omega
      intro i hi
      simp only [updA_at] at hi ⊢
      by_cases e : i = ψ.2.2.1.2
      · subst e
        rw [updM_at]
        refine ⟨pI.mi, p6.row hP (fun k hk => ?_)⟩
        show va_cpy (ar 3) (ar 5) 0 (27 * ψ.2.2.1.2) 27 (27 * ψ.2.2.1.2 + k) = _
        rw [pk_cpy_in (by omega) (by omega)]
        congr 1
        omega
      · rw [updM_ne e]
        have h7 := p7 i (by omega)
        refine ⟨h7.1, h7.2.row hP (fun k hk => ?_)⟩
        show va_cpy (ar 3) (ar 5) 0 (27 * ψ.2.2.1.2) 27 (27 * i + k) = ar 5 (27 * i + k)
        rw [pk_cpy_out (by omega)])
    rw [p3] at e1
    refine ⟨Nat.le_of_ble_eq_true rfl, yvc_ok (uX7_note Γ) (S := [11, 51]) 60 _ _ _ _ ?_⟩
    simp only [lv_args, Value.category, m1, e1, n8 p4, c8, yvc_s, s1i, s2i, s1l, s2l, sil, s1r, sir, siir, slir, srir, svr, sd1, sd2, lg, lput, ldel, isL_i, isL_r, isL_l, jmp, obj, obj1, fI, fR, arI, arL, arR, hput, f4_0, f4_1, f4_2, f4_3, lc_0, lc_1, rok_i, rok_b, rok_y, strF, fput_1, fput_2, csum_nil, csum_i, csum_l, csum_r, va_up_self, bx_uu, Int.reduceAdd, List.elem_nil, List.elem_cons, List.take_succ_cons, List.take_zero, List.drop_succ_cons, List.drop_zero, List.take_nil, List.drop_nil, List.reverse_cons, List.reverse_nil, List.nil_append, List.cons_append, List.append_nil, Option.toList_some, Option.toList_none, List.getElem?_cons_zero, List.getElem?_cons_succ, List.set_cons_zero, List.set_cons_succ, List.length_cons, List.length_nil, reduceIte, reduceCtorEq, and_true, true_and, and_self, or_true, true_or, false_and, and_false, not_true_eq_false, not_false_eq_true, true_implies, false_implies, implies_true, Nat.reduceAdd, Nat.reduceLT, Nat.reduceEqDiff, Nat.reduceLeDiff, Nat.reduceBEq, Nat.zero_add, Nat.lt_add_one, Bool.false_eq_true, Bool.or_false, Bool.or_true, Bool.or_self, Nat.zero_ne_one, Nat.one_ne_zero, ite_true, ite_false, ne_eq, Nat.reduceSub, Nat.succ_eq_add_one, Nat.zero_lt_succ, Nat.add_one_ne_zero, false_or, or_false, mX7_note_c, mX7_note_n, mX7_note_r, mX7_note_l, dX7_note_0, dX7_note_1, fl_7_104_7, dX7_note_4, bc_8, dX7_note_6, tg_6_43, cnd2_ne, dX7_note_9, ic_0, dX7_note_10, dX7_note_11, dX7_note_12, sc_189, dX7_note_15, tg_15_24, cnd2_ge, dX7_note_18, dX7_note_19, fl_7_23_7, dX7_note_22, dX7_note_23, dX7_note_24, dX7_note_27, bc_27, dX7_note_29, dX7_note_30, dX7_note_31, dX7_note_32, dX7_note_33, ic_1, dX7_note_36, tg_36_m25, dX7_note_39, dX7_note_40, dX7_note_41, dX7_note_44, dX7_note_45, dX7_note_46, dX7_note_49, dX7_note_50, dX7_note_51, dX7_note_52, dX7_note_54, tg_54_29, dX7_note_57, dX7_note_58, dX7_note_61, dX7_note_63, dX7_note_64, dX7_note_67, dX7_note_68, dX7_note_69, dX7_note_70, dX7_note_71, fl_7_17_7, dX7_note_74, dX7_note_75, dX7_note_76, dX7_note_77, dX7_note_80, tg_80_m29, dX7_note_83, dX7_note_84, dX7_note_85, dX7_note_88, dX7_note_89, dX7_note_90, dX7_note_93, st_aload_n, st_bipush, st_dup, st_getfield, st_goto, st_iadd, st_iaload, st_iastore, st_iconst, st_if_icmp, st_iinc, st_iload_n, st_imul, st_istore_n, st_isub, st_putfield, st_return, st_sipush]
    exact hl
