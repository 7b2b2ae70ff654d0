/-! ===== Tape: people, keys, the whole ===== -/
def ppl (l : Nat → Int32) (len : Nat) : Nat → PT → Bool × PT
  | 0, T => (true, T)
  | n + 1, T => if ltr l len (nx l len T.2.2.2) = 47 then (if (onP l len (T.1, T.2.1, T.2.2.1, nx l len T.2.2.2 + 1)).1 = true then ppl l len n (onP l len (T.1, T.2.1, T.2.2.1, nx l len T.2.2.2 + 1)).2 else (false, (onP l len (T.1, T.2.1, T.2.2.1, nx l len T.2.2.2 + 1)).2)) else (true, T.1, T.2.1, T.2.2.1, nx l len T.2.2.2)
theorem c47_lt {l : Nat → Int32} {len q : Nat} {x : Int32} (h : ltr l len q = x) (hx : ¬ x = -1) : q < len := ltr_lt (fun z => hx (h.symm.trans z))
theorem onP_P {l : Nat → Int32} {len : Nat} {T : PT} (h : (onP l len T).1 = true) : (onP l len T).2.1 = T.1 + 1 := by
  unfold onP at h ⊢
  split
  · rfl
  · next c => rw [if_neg c] at h; cases h
theorem ppl_le {l : Nat → Int32} {len : Nat} : ∀ (n : Nat) (T : PT), T.2.2.2 ≤ len → (ppl l len n T).2.2.2.2 ≤ len
  | 0, T, h => h
  | n + 1, T, h => by
    unfold ppl
    split
    · next c =>
      have h1 : (onP l len (T.1, T.2.1, T.2.2.1, nx l len T.2.2.2 + 1)).2.2.2.2 ≤ len := onP_le (c47_lt c (by decide))
      split
      · exact ppl_le n _ h1
      · exact h1
    · exact nx_le h
theorem ppl_P {l : Nat → Int32} {len : Nat} : ∀ (n : Nat) (T : PT), (ppl l len n T).1 = true → T.1 ≤ (ppl l len n T).2.1 ∧ (ppl l len n T).2.1 ≤ T.1 + n
  | 0, T, h => ⟨Nat.le_refl _, Nat.le_refl _⟩
  | n + 1, T, h => by
    unfold ppl at h ⊢
    split
    · next c =>
      rw [if_pos c] at h
      split
      · next c2 =>
        rw [if_pos c2] at h
        have h1 := ppl_P n _ h
        rw [onP_P c2] at h1
        simp only at h1
        omega
      · next c2 => rw [if_neg c2] at h; cases h
    · exact ⟨Nat.le_refl _, by simp only; omega⟩
def okP (r : Bool × PT) : Bool := r.1 && decide (0 < r.2.1)
def sp_X5_readPeople (Γ : Cx) : YSp := fun av σ K => ∃ (A : Nat × Nat) (B : CA) (l : Nat → Int32) (len p : Nat) (s : CS), rdS Γ A B l len p s av σ ∧ ∀ s', (okP (ppl l len 5 (0, s.2.2.1, s.1, p)) = true → s' = pS s (ppl l len 5 (0, s.2.2.1, s.1, p)).2) → K (some (.int (bI (okP (ppl l len 5 (0, s.2.2.1, s.1, p)))))) (NF Γ A B len s' (ppl l len 5 (0, s.2.2.1, s.1, p)).2.2.2.2 σ)
theorem rv_X5_readPeople {Γ : Cx} : Recv (sp_X5_readPeople Γ) 1 5 := by
  intro av σ K h
  obtain ⟨A, B, l, len, p, s, ⟨rfl, hc, -⟩, -⟩ := h
  obtain ⟨fs, h1, h2⟩ := tp_rv hc
  exact ⟨_, _, fs, rfl, rfl, h1, h2⟩
theorem lt5 {j : Nat} (h : j < 5) : ¬ (5 : Int32) ≤ nI j := nI_ge h (by decide)
theorem ge5 : (5 : Int32) ≤ nI 5 := by decide
theorem le0P {P : Nat} (h : P ≤ 5) : nI P ≤ 0 ↔ ¬ 0 < P := by
  rw [← nI_0, nI_leI (by omega) (by omega)]; omega
theorem bw_353 : Cond.code yX5_readPerson cX5_readPerson 7 (some .boolean) ∈ BW := bw_i 353 (by decide +kernel) (by decide +kernel)
theorem no_X5_readPerson : NameOK yX5_readPerson 1 := by unfold NameOK; decide +kernel
theorem bw_350 : Cond.methodLink RX5 55 yX5_readPerson ∈ BW := bw_i 350 (by decide +kernel) (by decide +kernel)
theorem bw_352 : Cond.instanceMethod yX5_readPerson ∈ BW := bw_i 352 (by decide +kernel) (by decide +kernel)
theorem bw_6 : Cond.selects RX5 yX5_readPerson yX5_readPerson ∈ BW := bw_i 6 (by decide +kernel) (by decide +kernel)
theorem tg_9_38 : tgo 9 38 = some 47 := by decide
theorem bc_47 : (Int8.ofInt 47).toInt32 = 47 := by decide
theorem tg_18_29 : tgo 18 29 = some 47 := by decide
theorem tg_36_5 : tgo 36 5 = some 41 := by decide
theorem tg_44_m37 : tgo 44 (-37) = some 7 := by decide
theorem tg_51_7 : tgo 51 7 = some 58 := by decide
theorem tg_55_4 : tgo 55 4 = some 59 := by decide
def mX5_readPeople : Mt := (⟨5, 0, 0, 117⟩, RX5, cX5_readPeople, 3, some .boolean, (0, 0), none)
theorem mX5_readPeople_c : mX5_readPeople.2.2.1 = cX5_readPeople := rfl
theorem mX5_readPeople_n : mX5_readPeople.2.2.2.1 = 3 := rfl
theorem mX5_readPeople_r : mX5_readPeople.2.2.2.2.1 = some .boolean := rfl
theorem mX5_readPeople_l : mX5_readPeople.2.2.2.2.2.2 = none := rfl
def jX5_readPeople (Γ : Cx) : List ((Nat × Nat) × Nat × Bool × YSp) := [((0, 32), 1, false, sp_X5_nextLetter Γ), ((0, 55), 2, false, sp_X5_readPerson Γ)]
theorem jX5_readPeople_0_32 (Γ : Cx) : kT (jX5_readPeople Γ) 0 32 = some (1, false, sp_X5_nextLetter Γ) := rfl
theorem jX5_readPeople_0_55 (Γ : Cx) : kT (jX5_readPeople Γ) 0 55 = some (2, false, sp_X5_readPerson Γ) := rfl
theorem uX5_readPeople (Γ : Cx) : TbOK Γ mX5_readPeople (fT fX5, cT kX5, kT (jX5_readPeople Γ)) := tb_ok fX5_ok kX5_ok (all_cons ⟨call_V (n := 0) (T := TX5) (N := 3) (ok_X5_nextLetter Γ) (rv_X5_nextLetter (Γ := Γ)) rfl bw_337 bw_334 bw_336 bw_3 bw_46 no_X5_nextLetter ⟨⟨rfl, rfl⟩, ⟨by decide, by decide⟩, ⟨by decide, by decide⟩⟩, fun z => by cases z⟩ (all_cons ⟨call_V (n := 1) (T := TX5) (N := 3) (ok_X5_readPerson Γ) (rv_X5_readPerson (Γ := Γ)) rfl bw_353 bw_350 bw_352 bw_6 bw_46 no_X5_readPerson ⟨⟨rfl, rfl⟩, ⟨by decide, by decide⟩, ⟨by decide, by decide⟩⟩, fun z => by cases z⟩ (all_nil)))
set_option maxRecDepth 20000 in
theorem ok_X5_readPeople (Γ : Cx) : Ok Γ yX5_readPeople mX5_readPeople (sp_X5_readPeople Γ) := by
  refine ok_intro (by decide +kernel) rfl rfl ?_
  intro av σ K h
  obtain ⟨⟨a, tl⟩, ⟨b, bw, bk, bd⟩, l, len, p, ⟨w, kp, kd, day, gone, draw, P, rule, gd⟩, ⟨rfl, hT, hC, hd, hl, hp⟩, h⟩ := h
  simp only at h
  have hTn := nf_T hT hd
  have hCn := nf_C (len := len) hC hd
  have fin : ∀ (T : PT), ppl l len 5 (0, kd, w, p) = (true, T) → T.1 ≤ 5 → ∀ x : Int32, YG Γ mX5_readPeople K 47 [(0, .ref a), (1, .ref b), (2, .int x)] [] (NF Γ (a, tl) (b, bw, bk, bd) len (pS (w, kp, kd, day, gone, draw, P, rule, gd) T) T.2.2.2 σ) := by
    intro T hr hT5 x
    rw [hr] at h
    have hC1 := hCn (pS (w, kp, kd, day, gone, draw, P, rule, gd) T) T.2.2.2
    have hk := h _ (fun _ => rfl)
    simp only [okP, Bool.true_and] at hk
    obtain ⟨P1, kd1, w1, p1⟩ := T
    simp only [pS] at hC1 hk hT5 ⊢
    generalize NF Γ (a, tl) (b, bw, bk, bd) len _ p1 σ = σ1 at hC1 hk ⊢
    obtain ⟨⟨v1, v2, v3, v4⟩, f1, f2, f3, f4⟩ := hC1
    simp only [ColE] at v1 f1
    refine yvc_ok (uX5_readPeople Γ) (S := []) 40 _ _ _ _ ?_
    simp only [v1, f1, le0P hT5, Classical.not_not, yvc_s, s1i, s2i, s1l, s2l, sil, s1r, sir, siir, slir, srir, svr, sd1, sd2, lg, lput, ldel, isL_i, isL_r, isL_l, jmp, obj, obj1, fI, fR, arI, arL, arR, hput, f4_0, f4_1, f4_2, f4_3, lc_0, lc_1, rok_i, rok_b, rok_y, strF, fput_1, fput_2, csum_nil, csum_i, csum_l, csum_r, va_up_self, bx_uu, Int.reduceAdd, List.elem_nil, List.elem_cons, List.take_succ_cons, List.take_zero, List.drop_succ_cons, List.drop_zero, List.take_nil, List.drop_nil, List.reverse_cons, List.reverse_nil, List.nil_append, List.cons_append, List.append_nil, Option.toList_some, Option.toList_none, List.getElem?_cons_zero, List.getElem?_cons_succ, List.set_cons_zero, List.set_cons_succ, List.length_cons, List.length_nil, reduceIte, reduceCtorEq, and_true, true_and, and_self, or_true, true_or, false_and, and_false, not_true_eq_false, not_false_eq_true, true_implies, false_implies, implies_true, Nat.reduceAdd, Nat.reduceLT, Nat.reduceEqDiff, Nat.reduceLeDiff, Nat.reduceBEq, Nat.zero_add, Nat.lt_add_one, Bool.false_eq_true, Bool.or_false, Bool.or_true, Bool.or_self, Nat.zero_ne_one, Nat.one_ne_zero, ite_true, ite_false, ne_eq, Nat.reduceSub, Nat.succ_eq_add_one, Nat.zero_lt_succ, Nat.add_one_ne_zero, false_or, or_false, mX5_readPeople_c, mX5_readPeople_n, mX5_readPeople_r, mX5_readPeople_l, dX5_readPeople_0, dX5_readPeople_1, ic_0, dX5_readPeople_2, fl_5_52_0, dX5_readPeople_5, dX5_readPeople_6, dX5_readPeople_7, dX5_readPeople_8, ic_5, dX5_readPeople_9, tg_9_38, cnd2_ge, dX5_readPeople_12, dX5_readPeople_13, dX5_readPeople_16, bc_47, dX5_readPeople_18, tg_18_29, cnd2_ne, dX5_readPeople_21, dX5_readPeople_22, dX5_readPeople_23, fl_5_19_5, dX5_readPeople_26, ic_1, dX5_readPeople_27, dX5_readPeople_28, dX5_readPeople_31, dX5_readPeople_32, dX5_readPeople_33, dX5_readPeople_36, tg_36_5, cnd1_ne, dX5_readPeople_39, dX5_readPeople_40, dX5_readPeople_41, dX5_readPeople_44, tg_44_m37, dX5_readPeople_47, dX5_readPeople_48, dX5_readPeople_51, tg_51_7, cnd1_le, dX5_readPeople_54, dX5_readPeople_55, tg_55_4, dX5_readPeople_58, dX5_readPeople_59, jX5_readPeople_0_32, jX5_readPeople_0_55, st_aload_n, st_bipush, st_dup, st_getfield, st_goto, st_iadd, st_iconst, st_ifCond, st_if_icmp, st_iinc, st_iload_n, st_invokevirtual, st_ireturn, st_istore_n, st_putfield]
    refine ⟨fun c => ?_, fun c => ?_⟩
    · rw [decide_eq_false c] at hk
      exact hk
    · rw [decide_eq_true c] at hk
      exact hk
  have loop : ∀ n (T : PT), T.1 + n = 5 → T.2.2.2 ≤ len → ppl l len n T = ppl l len 5 (0, kd, w, p) → YG Γ mX5_readPeople K 7 [(0, .ref a), (1, .ref b), (2, .int (nI T.1))] [] (NF Γ (a, tl) (b, bw, bk, bd) len (pS (w, kp, kd, day, gone, draw, P, rule, gd) T) T.2.2.2 σ) := by
    intro n
    induction n with
    | zero =>
      intro T hn hq hr
      have hf := fin T hr.symm (by omega) (nI T.1)
      have h5 : (5 : Int32) ≤ nI T.1 := by rw [show T.1 = 5 by omega]; exact ge5
      refine yvc1_ok (uX5_readPeople Γ) (S := [7, 47]) 40 ?_
      simp only [yvc1, h5, yvc_s, s1i, s2i, s1l, s2l, sil, s1r, sir, siir, slir, srir, svr, sd1, sd2, lg, lput, ldel, isL_i, isL_r, isL_l, jmp, obj, obj1, fI, fR, arI, arL, arR, hput, f4_0, f4_1, f4_2, f4_3, lc_0, lc_1, rok_i, rok_b, rok_y, strF, fput_1, fput_2, csum_nil, csum_i, csum_l, csum_r, va_up_self, bx_uu, Int.reduceAdd, List.elem_nil, List.elem_cons, List.take_succ_cons, List.take_zero, List.drop_succ_cons, List.drop_zero, List.take_nil, List.drop_nil, List.reverse_cons, List.reverse_nil, List.nil_append, List.cons_append, List.append_nil, Option.toList_some, Option.toList_none, List.getElem?_cons_zero, List.getElem?_cons_succ, List.set_cons_zero, List.set_cons_succ, List.length_cons, List.length_nil, reduceIte, reduceCtorEq, and_true, true_and, and_self, or_true, true_or, false_and, and_false, not_true_eq_false, not_false_eq_true, true_implies, false_implies, implies_true, Nat.reduceAdd, Nat.reduceLT, Nat.reduceEqDiff, Nat.reduceLeDiff, Nat.reduceBEq, Nat.zero_add, Nat.lt_add_one, Bool.false_eq_true, Bool.or_false, Bool.or_true, Bool.or_self, Nat.zero_ne_one, Nat.one_ne_zero, ite_true, ite_false, ne_eq, Nat.reduceSub, Nat.succ_eq_add_one, Nat.zero_lt_succ, Nat.add_one_ne_zero, false_or, or_false, mX5_readPeople_c, mX5_readPeople_n, mX5_readPeople_r, mX5_readPeople_l, dX5_readPeople_0, dX5_readPeople_1, ic_0, dX5_readPeople_2, fl_5_52_0, dX5_readPeople_5, dX5_readPeople_6, dX5_readPeople_7, dX5_readPeople_8, ic_5, dX5_readPeople_9, tg_9_38, cnd2_ge, dX5_readPeople_12, dX5_readPeople_13, dX5_readPeople_16, bc_47, dX5_readPeople_18, tg_18_29, cnd2_ne, dX5_readPeople_21, dX5_readPeople_22, dX5_readPeople_23, fl_5_19_5, dX5_readPeople_26, ic_1, dX5_readPeople_27, dX5_readPeople_28, dX5_readPeople_31, dX5_readPeople_32, dX5_readPeople_33, dX5_readPeople_36, tg_36_5, cnd1_ne, dX5_readPeople_39, dX5_readPeople_40, dX5_readPeople_41, dX5_readPeople_44, tg_44_m37, dX5_readPeople_47, dX5_readPeople_48, dX5_readPeople_51, tg_51_7, cnd1_le, dX5_readPeople_54, dX5_readPeople_55, tg_55_4, dX5_readPeople_58, dX5_readPeople_59, jX5_readPeople_0_32, jX5_readPeople_0_55, st_aload_n, st_bipush, st_dup, st_getfield, st_goto, st_iadd, st_iconst, st_ifCond, st_if_icmp, st_iinc, st_iload_n, st_invokevirtual, st_ireturn, st_istore_n, st_putfield]
      exact hf
    | succ n ih =>
      intro T hn hq hr
      have c1 := lt5 (show T.1 < 5 by omega)
      have hT1 := hTn (pS (w, kp, kd, day, gone, draw, P, rule, gd) T) T.2.2.2
      have hb := nx_le (l := l) hq
      rw [ppl] at hr
      refine yvc1_ok (uX5_readPeople Γ) (S := [7, 47]) 40 ?_
      simp only [yvc1, c1, yvc_s, s1i, s2i, s1l, s2l, sil, s1r, sir, siir, slir, srir, svr, sd1, sd2, lg, lput, ldel, isL_i, isL_r, isL_l, jmp, obj, obj1, fI, fR, arI, arL, arR, hput, f4_0, f4_1, f4_2, f4_3, lc_0, lc_1, rok_i, rok_b, rok_y, strF, fput_1, fput_2, csum_nil, csum_i, csum_l, csum_r, va_up_self, bx_uu, Int.reduceAdd, List.elem_nil, List.elem_cons, List.take_succ_cons, List.take_zero, List.drop_succ_cons, List.drop_zero, List.take_nil, List.drop_nil, List.reverse_cons, List.reverse_nil, List.nil_append, List.cons_append, List.append_nil, Option.toList_some, Option.toList_none, List.getElem?_cons_zero, List.getElem?_cons_succ, List.set_cons_zero, List.set_cons_succ, List.length_cons, List.length_nil, reduceIte, reduceCtorEq, and_true, true_and, and_self, or_true, true_or, false_and, and_false, not_true_eq_false, not_false_eq_true, true_implies, false_implies, implies_true, Nat.reduceAdd, Nat.reduceLT, Nat.reduceEqDiff, Nat.reduceLeDiff, Nat.reduceBEq, Nat.zero_add, Nat.lt_add_one, Bool.false_eq_true, Bool.or_false, Bool.or_true, Bool.or_self, Nat.zero_ne_one, Nat.one_ne_zero, ite_true, ite_false, ne_eq, Nat.reduceSub, Nat.succ_eq_add_one, Nat.zero_lt_succ, Nat.add_one_ne_zero, false_or, or_false, mX5_readPeople_c, mX5_readPeople_n, mX5_readPeople_r, mX5_readPeople_l, dX5_readPeople_0, dX5_readPeople_1, ic_0, dX5_readPeople_2, fl_5_52_0, dX5_readPeople_5, dX5_readPeople_6, dX5_readPeople_7, dX5_readPeople_8, ic_5, dX5_readPeople_9, tg_9_38, cnd2_ge, dX5_readPeople_12, dX5_readPeople_13, dX5_readPeople_16, bc_47, dX5_readPeople_18, tg_18_29, cnd2_ne, dX5_readPeople_21, dX5_readPeople_22, dX5_readPeople_23, fl_5_19_5, dX5_readPeople_26, ic_1, dX5_readPeople_27, dX5_readPeople_28, dX5_readPeople_31, dX5_readPeople_32, dX5_readPeople_33, dX5_readPeople_36, tg_36_5, cnd1_ne, dX5_readPeople_39, dX5_readPeople_40, dX5_readPeople_41, dX5_readPeople_44, tg_44_m37, dX5_readPeople_47, dX5_readPeople_48, dX5_readPeople_51, tg_51_7, cnd1_le, dX5_readPeople_54, dX5_readPeople_55, tg_55_4, dX5_readPeople_58, dX5_readPeople_59, jX5_readPeople_0_32, jX5_readPeople_0_55, st_aload_n, st_bipush, st_dup, st_getfield, st_goto, st_iadd, st_iconst, st_ifCond, st_if_icmp, st_iinc, st_iload_n, st_invokevirtual, st_ireturn, st_istore_n, st_putfield]
      refine ⟨(a, tl), l, len, T.2.2.2, rfl, hT1, hl, hq, ?_⟩
      rw [nf_p]
      have hT2 := hTn (pS (w, kp, kd, day, gone, draw, P, rule, gd) T) (nx l len T.2.2.2)
      have hnp := nf_p (Γ := Γ) (A := (a, tl)) (B := (b, bw, bk, bd)) (len := len) (p := nx l len T.2.2.2) (p' := nx l len T.2.2.2 + 1) (s := pS (w, kp, kd, day, gone, draw, P, rule, gd) T) (σ := σ)
      have hT3 := hTn (pS (w, kp, kd, day, gone, draw, P, rule, gd) T) (nx l len T.2.2.2 + 1)
      have hC3 := hCn (pS (w, kp, kd, day, gone, draw, P, rule, gd) T) (nx l len T.2.2.2 + 1)
      have hf := fun hh => fin (T.1, T.2.1, T.2.2.1, nx l len T.2.2.2) hh (by simp only; omega) (nI T.1)
      have hpT : pS (w, kp, kd, day, gone, draw, P, rule, gd) (T.1, T.2.1, T.2.2.1, nx l len T.2.2.2) = pS (w, kp, kd, day, gone, draw, P, rule, gd) T := rfl
      rw [hpT] at hf
      simp only at hf hT2 hnp
      generalize hs0 : NF Γ (a, tl) (b, bw, bk, bd) len (pS (w, kp, kd, day, gone, draw, P, rule, gd) T) (nx l len T.2.2.2) σ = σ1 at hT2 hnp hf ⊢
      obtain ⟨⟨m1, m2⟩, e1, e2⟩ := hT2
      simp only [TpE, hput] at m1 e1 hnp
      refine yvc_ok (uX5_readPeople Γ) (S := [7, 47]) 40 _ _ _ _ ?_
      simp only [m1, e1, nI_1, hnp, yvc_s, s1i, s2i, s1l, s2l, sil, s1r, sir, siir, slir, srir, svr, sd1, sd2, lg, lput, ldel, isL_i, isL_r, isL_l, jmp, obj, obj1, fI, fR, arI, arL, arR, hput, f4_0, f4_1, f4_2, f4_3, lc_0, lc_1, rok_i, rok_b, rok_y, strF, fput_1, fput_2, csum_nil, csum_i, csum_l, csum_r, va_up_self, bx_uu, Int.reduceAdd, List.elem_nil, List.elem_cons, List.take_succ_cons, List.take_zero, List.drop_succ_cons, List.drop_zero, List.take_nil, List.drop_nil, List.reverse_cons, List.reverse_nil, List.nil_append, List.cons_append, List.append_nil, Option.toList_some, Option.toList_none, List.getElem?_cons_zero, List.getElem?_cons_succ, List.set_cons_zero, List.set_cons_succ, List.length_cons, List.length_nil, reduceIte, reduceCtorEq, and_true, true_and, and_self, or_true, true_or, false_and, and_false, not_true_eq_false, not_false_eq_true, true_implies, false_implies, implies_true, Nat.reduceAdd, Nat.reduceLT, Nat.reduceEqDiff, Nat.reduceLeDiff, Nat.reduceBEq, Nat.zero_add, Nat.lt_add_one, Bool.false_eq_true, Bool.or_false, Bool.or_true, Bool.or_self, Nat.zero_ne_one, Nat.one_ne_zero, ite_true, ite_false, ne_eq, Nat.reduceSub, Nat.succ_eq_add_one, Nat.zero_lt_succ, Nat.add_one_ne_zero, false_or, or_false, mX5_readPeople_c, mX5_readPeople_n, mX5_readPeople_r, mX5_readPeople_l, dX5_readPeople_0, dX5_readPeople_1, ic_0, dX5_readPeople_2, fl_5_52_0, dX5_readPeople_5, dX5_readPeople_6, dX5_readPeople_7, dX5_readPeople_8, ic_5, dX5_readPeople_9, tg_9_38, cnd2_ge, dX5_readPeople_12, dX5_readPeople_13, dX5_readPeople_16, bc_47, dX5_readPeople_18, tg_18_29, cnd2_ne, dX5_readPeople_21, dX5_readPeople_22, dX5_readPeople_23, fl_5_19_5, dX5_readPeople_26, ic_1, dX5_readPeople_27, dX5_readPeople_28, dX5_readPeople_31, dX5_readPeople_32, dX5_readPeople_33, dX5_readPeople_36, tg_36_5, cnd1_ne, dX5_readPeople_39, dX5_readPeople_40, dX5_readPeople_41, dX5_readPeople_44, tg_44_m37, dX5_readPeople_47, dX5_readPeople_48, dX5_readPeople_51, tg_51_7, cnd1_le, dX5_readPeople_54, dX5_readPeople_55, tg_55_4, dX5_readPeople_58, dX5_readPeople_59, jX5_readPeople_0_32, jX5_readPeople_0_55, st_aload_n, st_bipush, st_dup, st_getfield, st_goto, st_iadd, st_iconst, st_ifCond, st_if_icmp, st_iinc, st_iload_n, st_invokevirtual, st_ireturn, st_istore_n, st_putfield]
      refine ⟨fun cc => ?_, fun cc => ?_⟩
      · rw [if_neg cc] at hr
        exact hf hr.symm
      · have cc' := Classical.not_not.mp cc
        rw [if_pos cc'] at hr
        have hq1 := c47_lt cc' (by decide)
        refine ⟨(a, tl), (b, bw, bk, bd), l, len, nx l len T.2.2.2 + 1, pS (w, kp, kd, day, gone, draw, P, rule, gd) T, ⟨rfl, hT3, hC3, hd, hl, hq1⟩, by simp only [pS]; omega, ?_⟩
        intro s' hs'
        have e0 : (onP l len ((pS (w, kp, kd, day, gone, draw, P, rule, gd) T).2.2.2.2.2.2.1, (pS (w, kp, kd, day, gone, draw, P, rule, gd) T).2.2.1, (pS (w, kp, kd, day, gone, draw, P, rule, gd) T).1, nx l len T.2.2.2 + 1)) = onP l len (T.1, T.2.1, T.2.2.1, nx l len T.2.2.2 + 1) := rfl
        rw [e0] at hs' ⊢
        have hle : (onP l len (T.1, T.2.1, T.2.2.1, nx l len T.2.2.2 + 1)).2.2.2.2 ≤ len := onP_le hq1
        have hPP : (onP l len (T.1, T.2.1, T.2.2.1, nx l len T.2.2.2 + 1)).1 = true → (onP l len (T.1, T.2.1, T.2.2.1, nx l len T.2.2.2 + 1)).2.1 = T.1 + 1 := onP_P
        generalize onP l len (T.1, T.2.1, T.2.2.1, nx l len T.2.2.2 + 1) = r at hr hs' hle hPP ⊢
        have hnn : NF Γ (a, tl) (b, bw, bk, bd) len s' r.2.2.2.2 (NF Γ (a, tl) (b, bw, bk, bd) len (pS (w, kp, kd, day, gone, draw, P, rule, gd) T) (nx l len T.2.2.2 + 1) σ) = NF Γ (a, tl) (b, bw, bk, bd) len s' r.2.2.2.2 σ := by
          rw [show NF Γ (a, tl) (b, bw, bk, bd) len s' r.2.2.2.2 (NF Γ (a, tl) (b, bw, bk, bd) len (pS (w, kp, kd, day, gone, draw, P, rule, gd) T) (nx l len T.2.2.2 + 1) σ) = hput (cset Γ (b, bw, bk, bd) s' (NF Γ (a, tl) (b, bw, bk, bd) len (pS (w, kp, kd, day, gone, draw, P, rule, gd) T) (nx l len T.2.2.2 + 1) σ)) a (TpE tl len r.2.2.2.2) from rfl, nf_s hd]
          exact nf_p
        rw [hnn]
        refine yvc_ok (uX5_readPeople Γ) (S := [7, 47]) 40 _ _ _ _ ?_
        simp only [bI_eq0, Bool.not_eq_false, nI_1, yvc_s, s1i, s2i, s1l, s2l, sil, s1r, sir, siir, slir, srir, svr, sd1, sd2, lg, lput, ldel, isL_i, isL_r, isL_l, jmp, obj, obj1, fI, fR, arI, arL, arR, hput, f4_0, f4_1, f4_2, f4_3, lc_0, lc_1, rok_i, rok_b, rok_y, strF, fput_1, fput_2, csum_nil, csum_i, csum_l, csum_r, va_up_self, bx_uu, Int.reduceAdd, List.elem_nil, List.elem_cons, List.take_succ_cons, List.take_zero, List.drop_succ_cons, List.drop_zero, List.take_nil, List.drop_nil, List.reverse_cons, List.reverse_nil, List.nil_append, List.cons_append, List.append_nil, Option.toList_some, Option.toList_none, List.getElem?_cons_zero, List.getElem?_cons_succ, List.set_cons_zero, List.set_cons_succ, List.length_cons, List.length_nil, reduceIte, reduceCtorEq, and_true, true_and, and_self, or_true, true_or, false_and, and_false, not_true_eq_false, not_false_eq_true, true_implies, false_implies, implies_true, Nat.reduceAdd, Nat.reduceLT, Nat.reduceEqDiff, Nat.reduceLeDiff, Nat.reduceBEq, Nat.zero_add, Nat.lt_add_one, Bool.false_eq_true, Bool.or_false, Bool.or_true, Bool.or_self, Nat.zero_ne_one, Nat.one_ne_zero, ite_true, ite_false, ne_eq, Nat.reduceSub, Nat.succ_eq_add_one, Nat.zero_lt_succ, Nat.add_one_ne_zero, false_or, or_false, mX5_readPeople_c, mX5_readPeople_n, mX5_readPeople_r, mX5_readPeople_l, dX5_readPeople_0, dX5_readPeople_1, ic_0, dX5_readPeople_2, fl_5_52_0, dX5_readPeople_5, dX5_readPeople_6, dX5_readPeople_7, dX5_readPeople_8, ic_5, dX5_readPeople_9, tg_9_38, cnd2_ge, dX5_readPeople_12, dX5_readPeople_13, dX5_readPeople_16, bc_47, dX5_readPeople_18, tg_18_29, cnd2_ne, dX5_readPeople_21, dX5_readPeople_22, dX5_readPeople_23, fl_5_19_5, dX5_readPeople_26, ic_1, dX5_readPeople_27, dX5_readPeople_28, dX5_readPeople_31, dX5_readPeople_32, dX5_readPeople_33, dX5_readPeople_36, tg_36_5, cnd1_ne, dX5_readPeople_39, dX5_readPeople_40, dX5_readPeople_41, dX5_readPeople_44, tg_44_m37, dX5_readPeople_47, dX5_readPeople_48, dX5_readPeople_51, tg_51_7, cnd1_le, dX5_readPeople_54, dX5_readPeople_55, tg_55_4, dX5_readPeople_58, dX5_readPeople_59, jX5_readPeople_0_32, jX5_readPeople_0_55, st_aload_n, st_bipush, st_dup, st_getfield, st_goto, st_iadd, st_iconst, st_ifCond, st_if_icmp, st_iinc, st_iload_n, st_invokevirtual, st_ireturn, st_istore_n, st_putfield]
        refine ⟨fun c2 => ?_, fun c2 => ?_⟩
        · rw [if_pos c2] at hr
          have hx := ih r.2 (by rw [hPP c2]; omega) hle hr
          rw [hPP c2] at hx
          rw [hs' c2]
          exact hx
        · rw [if_neg c2] at hr
          rw [← hr] at h
          have hk := h s'
          simp only [okP, Bool.false_and] at hk
          exact hk (fun z => by cases z)
  have hl0 := loop 5 (0, kd, w, p) rfl hp rfl
  have hp0 := hC.put (w, kp, kd, day, gone, draw, 0, rule, gd) rfl rfl rfl
  have hn0 : cset Γ (b, bw, bk, bd) (w, kp, kd, day, gone, draw, 0, rule, gd) σ = NF Γ (a, tl) (b, bw, bk, bd) len (pS (w, kp, kd, day, gone, draw, P, rule, gd) (0, kd, w, p)) p σ := by
    unfold NF
    exact (hput_self (hT.keep (σ' := cset Γ (b, bw, bk, bd) (w, kp, kd, day, gone, draw, 0, rule, gd) σ) rfl (fun q hq => cset_frm.2 q (hd q hq))).2.1).symm
  simp only at hl0
  rw [← hn0, ← hp0] at hl0
  obtain ⟨⟨v1, v2, v3, v4⟩, f1, f2, f3, f4⟩ := hC
  simp only [ColE, hput, nI_0] at v1 f1 hl0
  refine ⟨Nat.le_of_ble_eq_true rfl, yvc_ok (uX5_readPeople Γ) (S := [7]) 40 _ _ _ _ ?_⟩
  simp only [lv_args, Value.category, v1, f1, yvc_s, s1i, s2i, s1l, s2l, sil, s1r, sir, siir, slir, srir, svr, sd1, sd2, lg, lput, ldel, isL_i, isL_r, isL_l, jmp, obj, obj1, fI, fR, arI, arL, arR, hput, f4_0, f4_1, f4_2, f4_3, lc_0, lc_1, rok_i, rok_b, rok_y, strF, fput_1, fput_2, csum_nil, csum_i, csum_l, csum_r, va_up_self, bx_uu, Int.reduceAdd, List.elem_nil, List.elem_cons, List.take_succ_cons, List.take_zero, List.drop_succ_cons, List.drop_zero, List.take_nil, List.drop_nil, List.reverse_cons, List.reverse_nil, List.nil_append, List.cons_append, List.append_nil, Option.toList_some, Option.toList_none, List.getElem?_cons_zero, List.getElem?_cons_succ, List.set_cons_zero, List.set_cons_succ, List.length_cons, List.length_nil, reduceIte, reduceCtorEq, and_true, true_and, and_self, or_true, true_or, false_and, and_false, not_true_eq_false, not_false_eq_true, true_implies, false_implies, implies_true, Nat.reduceAdd, Nat.reduceLT, Nat.reduceEqDiff, Nat.reduceLeDiff, Nat.reduceBEq, Nat.zero_add, Nat.lt_add_one, Bool.false_eq_true, Bool.or_false, Bool.or_true, Bool.or_self, Nat.zero_ne_one, Nat.one_ne_zero, ite_true, ite_false, ne_eq, Nat.reduceSub, Nat.succ_eq_add_one, Nat.zero_lt_succ, Nat.add_one_ne_zero, false_or, or_false, mX5_readPeople_c, mX5_readPeople_n, mX5_readPeople_r, mX5_readPeople_l, dX5_readPeople_0, dX5_readPeople_1, ic_0, dX5_readPeople_2, fl_5_52_0, dX5_readPeople_5, dX5_readPeople_6, dX5_readPeople_7, dX5_readPeople_8, ic_5, dX5_readPeople_9, tg_9_38, cnd2_ge, dX5_readPeople_12, dX5_readPeople_13, dX5_readPeople_16, bc_47, dX5_readPeople_18, tg_18_29, cnd2_ne, dX5_readPeople_21, dX5_readPeople_22, dX5_readPeople_23, fl_5_19_5, dX5_readPeople_26, ic_1, dX5_readPeople_27, dX5_readPeople_28, dX5_readPeople_31, dX5_readPeople_32, dX5_readPeople_33, dX5_readPeople_36, tg_36_5, cnd1_ne, dX5_readPeople_39, dX5_readPeople_40, dX5_readPeople_41, dX5_readPeople_44, tg_44_m37, dX5_readPeople_47, dX5_readPeople_48, dX5_readPeople_51, tg_51_7, cnd1_le, dX5_readPeople_54, dX5_readPeople_55, tg_55_4, dX5_readPeople_58, dX5_readPeople_59, jX5_readPeople_0_32, jX5_readPeople_0_55, st_aload_n, st_bipush, st_dup, st_getfield, st_goto, st_iadd, st_iconst, st_ifCond, st_if_icmp, st_iinc, st_iload_n, st_invokevirtual, st_ireturn, st_istore_n, st_putfield]
  exact hl0
def ksl (l : Nat → Int32) (len P : Nat) : Nat → Nat → (Nat → Int32) → Nat → Bool × (Nat → Int32) × Nat
  | 0, _, k, p => (true, k, p)
  | n + 1, d, k, p => if ltr l len (nx l len p) = 45 ∨ inr (ltr l len (nx l len p) - 48) 0 (nI P - 1) = true then ksl l len P n (d + 1) (upd k d (if ltr l len (nx l len p) = 45 then -4 else ltr l len (nx l len p) - 48)) (nx l len p + 1) else (false, k, nx l len p)
def rK (l : Nat → Int32) (len P : Nat) (k : Nat → Int32) (p : Nat) : Bool × (Nat → Int32) × Nat := if ltr l len (nx l len p) = 59 then ksl l len P 4 0 k (nx l len p + 1) else (false, k, nx l len p)
def kS (s : CS) (k : Nat → Int32) : CS := (s.1, k, s.2.2)
theorem ks_lt {l : Nat → Int32} {len q P : Nat} (h : ltr l len q = 45 ∨ inr (ltr l len q - 48) 0 (nI P - 1) = true) : q < len := by
  refine ltr_lt (l := l) (fun z => ?_)
  rw [z] at h
  rcases h with h | h
  · exact absurd h (by decide)
  · have := (inr_iff.mp h).1
    exact absurd this (by decide)
theorem ksl_le {l : Nat → Int32} {len P : Nat} : ∀ n d k p, p ≤ len → (ksl l len P n d k p).2.2 ≤ len
  | 0, d, k, p, h => h
  | n + 1, d, k, p, h => by
    unfold ksl
    split
    · next c => exact ksl_le n (d + 1) _ _ (ks_lt c)
    · exact nx_le h
theorem rK_le {l : Nat → Int32} {len P : Nat} {k : Nat → Int32} {p : Nat} (h : p ≤ len) : (rK l len P k p).2.2 ≤ len := by
  unfold rK
  split
  · next c => exact ksl_le _ _ _ _ (c47_lt c (by decide))
  · exact nx_le h
def sp_X5_readKeys (Γ : Cx) : YSp := fun av σ K => ∃ (A : Nat × Nat) (B : CA) (l : Nat → Int32) (len p : Nat) (s : CS), rdS Γ A B l len p s av σ ∧ ∀ s', ((rK l len s.2.2.2.2.2.2.1 s.2.1 p).1 = true → s' = kS s (rK l len s.2.2.2.2.2.2.1 s.2.1 p).2.1) → K (some (.int (bI (rK l len s.2.2.2.2.2.2.1 s.2.1 p).1))) (NF Γ A B len s' (rK l len s.2.2.2.2.2.2.1 s.2.1 p).2.2 σ)
theorem rv_X5_readKeys {Γ : Cx} : Recv (sp_X5_readKeys Γ) 1 5 := by
  intro av σ K h
  obtain ⟨A, B, l, len, p, s, ⟨rfl, hc, -⟩, -⟩ := h
  obtain ⟨fs, h1, h2⟩ := tp_rv hc
  exact ⟨_, _, fs, rfl, rfl, h1, h2⟩
theorem bw_265 : Cond.code yX0_has cX0_has 2 (some .boolean) ∈ BW := bw_i 265 (by decide +kernel) (by decide +kernel)
theorem no_X0_has : NameOK yX0_has 1 := by unfold NameOK; decide +kernel
theorem bw_447 : Cond.methodLink RX5 74 yX0_has ∈ BW := bw_i 447 (by decide +kernel) (by decide +kernel)
theorem bw_263 : Cond.instanceMethod yX0_has ∈ BW := bw_i 263 (by decide +kernel) (by decide +kernel)
theorem bw_264 : Cond.selects RX0 yX0_has yX0_has ∈ BW := bw_i 264 (by decide +kernel) (by decide +kernel)
theorem bc_59 : (Int8.ofInt 59).toInt32 = 59 := by decide
theorem tg_6_5 : tgo 6 5 = some 11 := by decide
theorem tg_25_64 : tgo 25 64 = some 89 := by decide
theorem bc_45 : (Int8.ofInt 45).toInt32 = 45 := by decide
theorem tg_36_16 : tgo 36 16 = some 52 := by decide
theorem tg_47_5 : tgo 47 5 = some 52 := by decide
theorem tg_65_7 : tgo 65 7 = some 72 := by decide
theorem tg_86_m63 : tgo 86 (-63) = some 23 := by decide
def mX5_readKeys : Mt := (⟨2, 0, 0, 43⟩, RX5, cX5_readKeys, 4, some .boolean, (0, 0), none)
theorem mX5_readKeys_c : mX5_readKeys.2.2.1 = cX5_readKeys := rfl
theorem mX5_readKeys_n : mX5_readKeys.2.2.2.1 = 4 := rfl
theorem mX5_readKeys_r : mX5_readKeys.2.2.2.2.1 = some .boolean := rfl
theorem mX5_readKeys_l : mX5_readKeys.2.2.2.2.2.2 = none := rfl
def jX5_readKeys (Γ : Cx) : List ((Nat × Nat) × Nat × Bool × YSp) := [((0, 32), 1, false, sp_X5_nextLetter Γ), ((0, 74), 2, true, sp_X0_has Γ)]
theorem jX5_readKeys_0_32 (Γ : Cx) : kT (jX5_readKeys Γ) 0 32 = some (1, false, sp_X5_nextLetter Γ) := rfl
theorem jX5_readKeys_0_74 (Γ : Cx) : kT (jX5_readKeys Γ) 0 74 = some (2, true, sp_X0_has Γ) := rfl
theorem uX5_readKeys (Γ : Cx) : TbOK Γ mX5_readKeys (fT fX5, cT kX5, kT (jX5_readKeys Γ)) := tb_ok fX5_ok kX5_ok (all_cons ⟨call_V (n := 0) (T := TX5) (N := 3) (ok_X5_nextLetter Γ) (rv_X5_nextLetter (Γ := Γ)) rfl bw_337 bw_334 bw_336 bw_3 bw_46 no_X5_nextLetter ⟨⟨rfl, rfl⟩, ⟨by decide, by decide⟩, ⟨by decide, by decide⟩⟩, fun z => by cases z⟩ (all_cons ⟨call_V (n := 1) (T := TX0) (N := 9) (ok_X0_has Γ) (rv_X0_has (Γ := Γ)) rfl bw_265 bw_447 bw_263 bw_264 bw_44 no_X0_has ⟨⟨rfl, rfl⟩, ⟨by decide, by decide⟩, ⟨by decide, by decide⟩⟩, fun _ => mono_X0_has (Γ := Γ)⟩ (all_nil)))
set_option maxRecDepth 20000 in
theorem ok_X5_readKeys (Γ : Cx) : Ok Γ yX5_readKeys mX5_readKeys (sp_X5_readKeys Γ) := by
  refine ok_intro (by decide +kernel) rfl rfl ?_
  intro av σ K h
  obtain ⟨⟨a, tl⟩, ⟨b, bw, bk, bd⟩, l, len, p, ⟨w, kp, kd, day, gone, draw, P, rule, gd⟩, ⟨rfl, hT, hC, hd, hl, hp⟩, h⟩ := h
  simp only at h
  have hTn := nf_T hT hd
  have hCn := nf_C (len := len) hC hd
  have hf := nx_le (l := l) hp
  unfold rK at h
  generalize hfe : nx l len p = f at hf h
  have loop : ∀ m d k1 q, d + m = 4 → q ≤ len → (∀ s', ((ksl l len P m d k1 q).1 = true → s' = (w, (ksl l len P m d k1 q).2.1, kd, day, gone, draw, P, rule, gd)) → K (some (.int (bI (ksl l len P m d k1 q).1))) (NF Γ (a, tl) (b, bw, bk, bd) len s' (ksl l len P m d k1 q).2.2 σ)) → YG Γ mX5_readKeys K 23 [(0, .ref a), (1, .ref b), (2, .int (nI d))] [] (NF Γ (a, tl) (b, bw, bk, bd) len (w, k1, kd, day, gone, draw, P, rule, gd) q σ) := by
    intro m
    induction m with
    | zero =>
      intro d k1 q hm hq hk
      obtain rfl : d = 4 := by omega
      refine yvc1_ok (uX5_readKeys Γ) (S := [23]) 40 ?_
      simp only [yvc1, ge4, yvc_s, s1i, s2i, s1l, s2l, sil, s1r, sir, siir, slir, srir, svr, sd1, sd2, lg, lput, ldel, isL_i, isL_r, isL_l, jmp, obj, obj1, fI, fR, arI, arL, arR, hput, f4_0, f4_1, f4_2, f4_3, lc_0, lc_1, rok_i, rok_b, rok_y, strF, fput_1, fput_2, csum_nil, csum_i, csum_l, csum_r, va_up_self, bx_uu, Int.reduceAdd, List.elem_nil, List.elem_cons, List.take_succ_cons, List.take_zero, List.drop_succ_cons, List.drop_zero, List.take_nil, List.drop_nil, List.reverse_cons, List.reverse_nil, List.nil_append, List.cons_append, List.append_nil, Option.toList_some, Option.toList_none, List.getElem?_cons_zero, List.getElem?_cons_succ, List.set_cons_zero, List.set_cons_succ, List.length_cons, List.length_nil, reduceIte, reduceCtorEq, and_true, true_and, and_self, or_true, true_or, false_and, and_false, not_true_eq_false, not_false_eq_true, true_implies, false_implies, implies_true, Nat.reduceAdd, Nat.reduceLT, Nat.reduceEqDiff, Nat.reduceLeDiff, Nat.reduceBEq, Nat.zero_add, Nat.lt_add_one, Bool.false_eq_true, Bool.or_false, Bool.or_true, Bool.or_self, Nat.zero_ne_one, Nat.one_ne_zero, ite_true, ite_false, ne_eq, Nat.reduceSub, Nat.succ_eq_add_one, Nat.zero_lt_succ, Nat.add_one_ne_zero, false_or, or_false, mX5_readKeys_c, mX5_readKeys_n, mX5_readKeys_r, mX5_readKeys_l, dX5_readKeys_0, dX5_readKeys_1, dX5_readKeys_4, bc_59, dX5_readKeys_6, tg_6_5, cnd2_eq, dX5_readKeys_9, ic_0, dX5_readKeys_10, dX5_readKeys_11, dX5_readKeys_12, dX5_readKeys_13, fl_5_19_5, dX5_readKeys_16, ic_1, dX5_readKeys_17, dX5_readKeys_18, dX5_readKeys_21, dX5_readKeys_22, dX5_readKeys_23, dX5_readKeys_24, ic_4, dX5_readKeys_25, tg_25_64, cnd2_ge, dX5_readKeys_28, dX5_readKeys_29, dX5_readKeys_32, dX5_readKeys_33, dX5_readKeys_34, bc_45, dX5_readKeys_36, tg_36_16, dX5_readKeys_39, dX5_readKeys_40, dX5_readKeys_41, bc_48, dX5_readKeys_43, dX5_readKeys_44, dX5_readKeys_47, tg_47_5, cnd1_ne, dX5_readKeys_50, dX5_readKeys_51, dX5_readKeys_52, dX5_readKeys_53, fl_5_77_0, dX5_readKeys_56, dX5_readKeys_57, dX5_readKeys_58, dX5_readKeys_60, tg_60_8, cnd2_ne, dX5_readKeys_63, bc_m4, dX5_readKeys_65, tg_65_7, dX5_readKeys_68, dX5_readKeys_69, dX5_readKeys_71, dX5_readKeys_72, dX5_readKeys_73, dX5_readKeys_74, dX5_readKeys_75, dX5_readKeys_78, dX5_readKeys_79, dX5_readKeys_80, dX5_readKeys_83, dX5_readKeys_86, tg_86_m63, dX5_readKeys_89, dX5_readKeys_90, jX5_readKeys_0_32, jX5_readKeys_0_74, st_aload_n, st_bipush, st_dup, st_getfield, st_goto, st_iadd, st_iastore, st_iconst, st_ifCond, st_if_icmp, st_iinc, st_iload_n, st_invokevirtual, st_ireturn, st_istore_n, st_isub, st_putfield]
      exact hk _ (fun _ => rfl)
    | succ m ih =>
      intro d k1 q hm hq hk
      obtain ⟨c1, c2, c3⟩ := lt4 (show d < 4 by omega)
      have hT1 := hTn (w, k1, kd, day, gone, draw, P, rule, gd) q
      have hb := nx_le (l := l) hq
      unfold ksl at hk
      refine yvc1_ok (uX5_readKeys Γ) (S := [23]) 40 ?_
      simp only [yvc1, c1, yvc_s, s1i, s2i, s1l, s2l, sil, s1r, sir, siir, slir, srir, svr, sd1, sd2, lg, lput, ldel, isL_i, isL_r, isL_l, jmp, obj, obj1, fI, fR, arI, arL, arR, hput, f4_0, f4_1, f4_2, f4_3, lc_0, lc_1, rok_i, rok_b, rok_y, strF, fput_1, fput_2, csum_nil, csum_i, csum_l, csum_r, va_up_self, bx_uu, Int.reduceAdd, List.elem_nil, List.elem_cons, List.take_succ_cons, List.take_zero, List.drop_succ_cons, List.drop_zero, List.take_nil, List.drop_nil, List.reverse_cons, List.reverse_nil, List.nil_append, List.cons_append, List.append_nil, Option.toList_some, Option.toList_none, List.getElem?_cons_zero, List.getElem?_cons_succ, List.set_cons_zero, List.set_cons_succ, List.length_cons, List.length_nil, reduceIte, reduceCtorEq, and_true, true_and, and_self, or_true, true_or, false_and, and_false, not_true_eq_false, not_false_eq_true, true_implies, false_implies, implies_true, Nat.reduceAdd, Nat.reduceLT, Nat.reduceEqDiff, Nat.reduceLeDiff, Nat.reduceBEq, Nat.zero_add, Nat.lt_add_one, Bool.false_eq_true, Bool.or_false, Bool.or_true, Bool.or_self, Nat.zero_ne_one, Nat.one_ne_zero, ite_true, ite_false, ne_eq, Nat.reduceSub, Nat.succ_eq_add_one, Nat.zero_lt_succ, Nat.add_one_ne_zero, false_or, or_false, mX5_readKeys_c, mX5_readKeys_n, mX5_readKeys_r, mX5_readKeys_l, dX5_readKeys_0, dX5_readKeys_1, dX5_readKeys_4, bc_59, dX5_readKeys_6, tg_6_5, cnd2_eq, dX5_readKeys_9, ic_0, dX5_readKeys_10, dX5_readKeys_11, dX5_readKeys_12, dX5_readKeys_13, fl_5_19_5, dX5_readKeys_16, ic_1, dX5_readKeys_17, dX5_readKeys_18, dX5_readKeys_21, dX5_readKeys_22, dX5_readKeys_23, dX5_readKeys_24, ic_4, dX5_readKeys_25, tg_25_64, cnd2_ge, dX5_readKeys_28, dX5_readKeys_29, dX5_readKeys_32, dX5_readKeys_33, dX5_readKeys_34, bc_45, dX5_readKeys_36, tg_36_16, dX5_readKeys_39, dX5_readKeys_40, dX5_readKeys_41, bc_48, dX5_readKeys_43, dX5_readKeys_44, dX5_readKeys_47, tg_47_5, cnd1_ne, dX5_readKeys_50, dX5_readKeys_51, dX5_readKeys_52, dX5_readKeys_53, fl_5_77_0, dX5_readKeys_56, dX5_readKeys_57, dX5_readKeys_58, dX5_readKeys_60, tg_60_8, cnd2_ne, dX5_readKeys_63, bc_m4, dX5_readKeys_65, tg_65_7, dX5_readKeys_68, dX5_readKeys_69, dX5_readKeys_71, dX5_readKeys_72, dX5_readKeys_73, dX5_readKeys_74, dX5_readKeys_75, dX5_readKeys_78, dX5_readKeys_79, dX5_readKeys_80, dX5_readKeys_83, dX5_readKeys_86, tg_86_m63, dX5_readKeys_89, dX5_readKeys_90, jX5_readKeys_0_32, jX5_readKeys_0_74, st_aload_n, st_bipush, st_dup, st_getfield, st_goto, st_iadd, st_iastore, st_iconst, st_ifCond, st_if_icmp, st_iinc, st_iload_n, st_invokevirtual, st_ireturn, st_istore_n, st_isub, st_putfield]
      refine ⟨(a, tl), l, len, q, rfl, hT1, hl, hq, ?_⟩
      rw [nf_p]
      generalize nx l len q = g at hb hk ⊢
      have hsub : ∀ (σ1 : Hp) (x : Int32), YG Γ mX5_readKeys K 23 [(0, .ref a), (1, .ref b), (2, .int (nI (d + 1)))] [] σ1 → YG Γ mX5_readKeys K 23 [(0, .ref a), (1, .ref b), (2, .int (nI (d + 1))), (3, .int x)] [] σ1 := by
        intro σ1 x hh
        refine hh.sub (fun q hq => ?_)
        simp only [List.mem_cons, List.not_mem_nil, or_false] at hq ⊢
        rcases hq with rfl | rfl | rfl <;> simp
      have store : ∀ v : Int32, v = (if ltr l len g = 45 then -4 else ltr l len g - 48) → (ltr l len g = 45 ∨ inr (ltr l len g - 48) 0 (nI P - 1) = true) → YG Γ mX5_readKeys K 72 [(0, .ref a), (1, .ref b), (2, .int (nI d)), (3, .int (ltr l len g))] [.int v, .int (nI d), .ref bk] (NF Γ (a, tl) (b, bw, bk, bd) len (w, k1, kd, day, gone, draw, P, rule, gd) g σ) := by
        intro v hv hc
        have hC2 := hCn (w, k1, kd, day, gone, draw, P, rule, gd) g
        simp only [if_pos hc] at hk
        have hi := ih (d + 1) (upd k1 d v) (g + 1) (by omega) (ks_lt hc) (by rw [hv]; exact hk)
        have hpk := hC2.putK (upd k1 d v)
        rw [nf_s hd] at hpk
        have hT3 := hTn (w, upd k1 d v, kd, day, gone, draw, P, rule, gd) g
        have hnp := nf_p (Γ := Γ) (A := (a, tl)) (B := (b, bw, bk, bd)) (len := len) (p := g) (p' := g + 1) (s := (w, upd k1 d v, kd, day, gone, draw, P, rule, gd)) (σ := σ)
        simp only at hpk hT3 hnp
        rw [← hpk] at hT3 hnp
        generalize NF Γ (a, tl) (b, bw, bk, bd) len (w, k1, kd, day, gone, draw, P, rule, gd) g σ = σ1 at hC2 hT3 hnp ⊢
        obtain ⟨⟨v1, v2, v3, v4⟩, f1, f2, f3, f4⟩ := hC2
        obtain ⟨⟨m1, m2⟩, e1, e2⟩ := hT3
        simp only [ColE, TpE, iA, hput] at v1 v3 f1 f3 m1 e1 hnp
        refine yvc_ok (uX5_readKeys Γ) (S := [23]) 40 _ _ _ _ ?_
        simp only [v1, v3, f1, f3, m1, e1, c2, c3, nI_1, hnp, yvc_s, s1i, s2i, s1l, s2l, sil, s1r, sir, siir, slir, srir, svr, sd1, sd2, lg, lput, ldel, isL_i, isL_r, isL_l, jmp, obj, obj1, fI, fR, arI, arL, arR, hput, f4_0, f4_1, f4_2, f4_3, lc_0, lc_1, rok_i, rok_b, rok_y, strF, fput_1, fput_2, csum_nil, csum_i, csum_l, csum_r, va_up_self, bx_uu, Int.reduceAdd, List.elem_nil, List.elem_cons, List.take_succ_cons, List.take_zero, List.drop_succ_cons, List.drop_zero, List.take_nil, List.drop_nil, List.reverse_cons, List.reverse_nil, List.nil_append, List.cons_append, List.append_nil, Option.toList_some, Option.toList_none, List.getElem?_cons_zero, List.getElem?_cons_succ, List.set_cons_zero, List.set_cons_succ, List.length_cons, List.length_nil, reduceIte, reduceCtorEq, and_true, true_and, and_self, or_true, true_or, false_and, and_false, not_true_eq_false, not_false_eq_true, true_implies, false_implies, implies_true, Nat.reduceAdd, Nat.reduceLT, Nat.reduceEqDiff, Nat.reduceLeDiff, Nat.reduceBEq, Nat.zero_add, Nat.lt_add_one, Bool.false_eq_true, Bool.or_false, Bool.or_true, Bool.or_self, Nat.zero_ne_one, Nat.one_ne_zero, ite_true, ite_false, ne_eq, Nat.reduceSub, Nat.succ_eq_add_one, Nat.zero_lt_succ, Nat.add_one_ne_zero, false_or, or_false, mX5_readKeys_c, mX5_readKeys_n, mX5_readKeys_r, mX5_readKeys_l, dX5_readKeys_0, dX5_readKeys_1, dX5_readKeys_4, bc_59, dX5_readKeys_6, tg_6_5, cnd2_eq, dX5_readKeys_9, ic_0, dX5_readKeys_10, dX5_readKeys_11, dX5_readKeys_12, dX5_readKeys_13, fl_5_19_5, dX5_readKeys_16, ic_1, dX5_readKeys_17, dX5_readKeys_18, dX5_readKeys_21, dX5_readKeys_22, dX5_readKeys_23, dX5_readKeys_24, ic_4, dX5_readKeys_25, tg_25_64, cnd2_ge, dX5_readKeys_28, dX5_readKeys_29, dX5_readKeys_32, dX5_readKeys_33, dX5_readKeys_34, bc_45, dX5_readKeys_36, tg_36_16, dX5_readKeys_39, dX5_readKeys_40, dX5_readKeys_41, bc_48, dX5_readKeys_43, dX5_readKeys_44, dX5_readKeys_47, tg_47_5, cnd1_ne, dX5_readKeys_50, dX5_readKeys_51, dX5_readKeys_52, dX5_readKeys_53, fl_5_77_0, dX5_readKeys_56, dX5_readKeys_57, dX5_readKeys_58, dX5_readKeys_60, tg_60_8, cnd2_ne, dX5_readKeys_63, bc_m4, dX5_readKeys_65, tg_65_7, dX5_readKeys_68, dX5_readKeys_69, dX5_readKeys_71, dX5_readKeys_72, dX5_readKeys_73, dX5_readKeys_74, dX5_readKeys_75, dX5_readKeys_78, dX5_readKeys_79, dX5_readKeys_80, dX5_readKeys_83, dX5_readKeys_86, tg_86_m63, dX5_readKeys_89, dX5_readKeys_90, jX5_readKeys_0_32, jX5_readKeys_0_74, st_aload_n, st_bipush, st_dup, st_getfield, st_goto, st_iadd, st_iastore, st_iconst, st_ifCond, st_if_icmp, st_iinc, st_iload_n, st_invokevirtual, st_ireturn, st_istore_n, st_isub, st_putfield]
        exact hsub _ _ hi
      have hC2 := hCn (w, k1, kd, day, gone, draw, P, rule, gd) g
      have hno : ¬ (ltr l len g = 45 ∨ inr (ltr l len g - 48) 0 (nI P - 1) = true) → K (some (.int 0)) (NF Γ (a, tl) (b, bw, bk, bd) len (w, k1, kd, day, gone, draw, P, rule, gd) g σ) := by
        intro z
        simp only [if_neg z] at hk
        exact hk _ (fun z => by cases z)
      generalize NF Γ (a, tl) (b, bw, bk, bd) len (w, k1, kd, day, gone, draw, P, rule, gd) g σ = σ1 at hC2 hno store ⊢
      obtain ⟨⟨v1, v2, v3, v4⟩, f1, f2, f3, f4⟩ := hC2
      simp only [ColE] at v1 f1
      refine yvc_ok (uX5_readKeys Γ) (S := [23, 72]) 40 _ _ _ _ ?_
      simp only [v1, f1, sp_X0_has, bI_eq0, Bool.not_eq_false, yvc_s, s1i, s2i, s1l, s2l, sil, s1r, sir, siir, slir, srir, svr, sd1, sd2, lg, lput, ldel, isL_i, isL_r, isL_l, jmp, obj, obj1, fI, fR, arI, arL, arR, hput, f4_0, f4_1, f4_2, f4_3, lc_0, lc_1, rok_i, rok_b, rok_y, strF, fput_1, fput_2, csum_nil, csum_i, csum_l, csum_r, va_up_self, bx_uu, Int.reduceAdd, List.elem_nil, List.elem_cons, List.take_succ_cons, List.take_zero, List.drop_succ_cons, List.drop_zero, List.take_nil, List.drop_nil, List.reverse_cons, List.reverse_nil, List.nil_append, List.cons_append, List.append_nil, Option.toList_some, Option.toList_none, List.getElem?_cons_zero, List.getElem?_cons_succ, List.set_cons_zero, List.set_cons_succ, List.length_cons, List.length_nil, reduceIte, reduceCtorEq, and_true, true_and, and_self, or_true, true_or, false_and, and_false, not_true_eq_false, not_false_eq_true, true_implies, false_implies, implies_true, Nat.reduceAdd, Nat.reduceLT, Nat.reduceEqDiff, Nat.reduceLeDiff, Nat.reduceBEq, Nat.zero_add, Nat.lt_add_one, Bool.false_eq_true, Bool.or_false, Bool.or_true, Bool.or_self, Nat.zero_ne_one, Nat.one_ne_zero, ite_true, ite_false, ne_eq, Nat.reduceSub, Nat.succ_eq_add_one, Nat.zero_lt_succ, Nat.add_one_ne_zero, false_or, or_false, mX5_readKeys_c, mX5_readKeys_n, mX5_readKeys_r, mX5_readKeys_l, dX5_readKeys_0, dX5_readKeys_1, dX5_readKeys_4, bc_59, dX5_readKeys_6, tg_6_5, cnd2_eq, dX5_readKeys_9, ic_0, dX5_readKeys_10, dX5_readKeys_11, dX5_readKeys_12, dX5_readKeys_13, fl_5_19_5, dX5_readKeys_16, ic_1, dX5_readKeys_17, dX5_readKeys_18, dX5_readKeys_21, dX5_readKeys_22, dX5_readKeys_23, dX5_readKeys_24, ic_4, dX5_readKeys_25, tg_25_64, cnd2_ge, dX5_readKeys_28, dX5_readKeys_29, dX5_readKeys_32, dX5_readKeys_33, dX5_readKeys_34, bc_45, dX5_readKeys_36, tg_36_16, dX5_readKeys_39, dX5_readKeys_40, dX5_readKeys_41, bc_48, dX5_readKeys_43, dX5_readKeys_44, dX5_readKeys_47, tg_47_5, cnd1_ne, dX5_readKeys_50, dX5_readKeys_51, dX5_readKeys_52, dX5_readKeys_53, fl_5_77_0, dX5_readKeys_56, dX5_readKeys_57, dX5_readKeys_58, dX5_readKeys_60, tg_60_8, cnd2_ne, dX5_readKeys_63, bc_m4, dX5_readKeys_65, tg_65_7, dX5_readKeys_68, dX5_readKeys_69, dX5_readKeys_71, dX5_readKeys_72, dX5_readKeys_73, dX5_readKeys_74, dX5_readKeys_75, dX5_readKeys_78, dX5_readKeys_79, dX5_readKeys_80, dX5_readKeys_83, dX5_readKeys_86, tg_86_m63, dX5_readKeys_89, dX5_readKeys_90, jX5_readKeys_0_32, jX5_readKeys_0_74, st_aload_n, st_bipush, st_dup, st_getfield, st_goto, st_iadd, st_iastore, st_iconst, st_ifCond, st_if_icmp, st_iinc, st_iload_n, st_invokevirtual, st_ireturn, st_istore_n, st_isub, st_putfield]
      refine ⟨fun cc => ⟨fun c4 => absurd cc c4, fun c4 => ?_⟩, fun cc => ⟨fun c4 => ⟨fun c5 => ?_, fun c5 => absurd (Classical.not_not.mp c5) cc⟩, fun c4 => ?_⟩⟩
      · exact store _ (by rw [if_pos cc]) (Or.inl cc)
      · exact store _ (by rw [if_neg cc]) (Or.inr c4)
      · exact hno (fun z => z.elim cc c4)
  refine ⟨Nat.le_of_ble_eq_true rfl, yvc_ok (uX5_readKeys Γ) (S := []) 40 _ _ _ _ ?_⟩
  simp only [lv_args, Value.category, yvc_s, s1i, s2i, s1l, s2l, sil, s1r, sir, siir, slir, srir, svr, sd1, sd2, lg, lput, ldel, isL_i, isL_r, isL_l, jmp, obj, obj1, fI, fR, arI, arL, arR, hput, f4_0, f4_1, f4_2, f4_3, lc_0, lc_1, rok_i, rok_b, rok_y, strF, fput_1, fput_2, csum_nil, csum_i, csum_l, csum_r, va_up_self, bx_uu, Int.reduceAdd, List.elem_nil, List.elem_cons, List.take_succ_cons, List.take_zero, List.drop_succ_cons, List.drop_zero, List.take_nil, List.drop_nil, List.reverse_cons, List.reverse_nil, List.nil_append, List.cons_append, List.append_nil, Option.toList_some, Option.toList_none, List.getElem?_cons_zero, List.getElem?_cons_succ, List.set_cons_zero, List.set_cons_succ, List.length_cons, List.length_nil, reduceIte, reduceCtorEq, and_true, true_and, and_self, or_true, true_or, false_and, and_false, not_true_eq_false, not_false_eq_true, true_implies, false_implies, implies_true, Nat.reduceAdd, Nat.reduceLT, Nat.reduceEqDiff, Nat.reduceLeDiff, Nat.reduceBEq, Nat.zero_add, Nat.lt_add_one, Bool.false_eq_true, Bool.or_false, Bool.or_true, Bool.or_self, Nat.zero_ne_one, Nat.one_ne_zero, ite_true, ite_false, ne_eq, Nat.reduceSub, Nat.succ_eq_add_one, Nat.zero_lt_succ, Nat.add_one_ne_zero, false_or, or_false, mX5_readKeys_c, mX5_readKeys_n, mX5_readKeys_r, mX5_readKeys_l, dX5_readKeys_0, dX5_readKeys_1, dX5_readKeys_4, bc_59, dX5_readKeys_6, tg_6_5, cnd2_eq, dX5_readKeys_9, ic_0, dX5_readKeys_10, dX5_readKeys_11, dX5_readKeys_12, dX5_readKeys_13, fl_5_19_5, dX5_readKeys_16, ic_1, dX5_readKeys_17, dX5_readKeys_18, dX5_readKeys_21, dX5_readKeys_22, dX5_readKeys_23, dX5_readKeys_24, ic_4, dX5_readKeys_25, tg_25_64, cnd2_ge, dX5_readKeys_28, dX5_readKeys_29, dX5_readKeys_32, dX5_readKeys_33, dX5_readKeys_34, bc_45, dX5_readKeys_36, tg_36_16, dX5_readKeys_39, dX5_readKeys_40, dX5_readKeys_41, bc_48, dX5_readKeys_43, dX5_readKeys_44, dX5_readKeys_47, tg_47_5, cnd1_ne, dX5_readKeys_50, dX5_readKeys_51, dX5_readKeys_52, dX5_readKeys_53, fl_5_77_0, dX5_readKeys_56, dX5_readKeys_57, dX5_readKeys_58, dX5_readKeys_60, tg_60_8, cnd2_ne, dX5_readKeys_63, bc_m4, dX5_readKeys_65, tg_65_7, dX5_readKeys_68, dX5_readKeys_69, dX5_readKeys_71, dX5_readKeys_72, dX5_readKeys_73, dX5_readKeys_74, dX5_readKeys_75, dX5_readKeys_78, dX5_readKeys_79, dX5_readKeys_80, dX5_readKeys_83, dX5_readKeys_86, tg_86_m63, dX5_readKeys_89, dX5_readKeys_90, jX5_readKeys_0_32, jX5_readKeys_0_74, st_aload_n, st_bipush, st_dup, st_getfield, st_goto, st_iadd, st_iastore, st_iconst, st_ifCond, st_if_icmp, st_iinc, st_iload_n, st_invokevirtual, st_ireturn, st_istore_n, st_isub, st_putfield]
  refine ⟨(a, tl), l, len, p, rfl, hT, hl, hp, ?_⟩
  rw [hfe]
  have hσ : hput σ a (TpE tl len f) = NF Γ (a, tl) (b, bw, bk, bd) len (w, kp, kd, day, gone, draw, P, rule, gd) f σ := by unfold NF; rw [hC.self]
  rw [hσ]
  have hT3 := hTn (w, kp, kd, day, gone, draw, P, rule, gd) f
  have hnp := nf_p (Γ := Γ) (A := (a, tl)) (B := (b, bw, bk, bd)) (len := len) (p := f) (p' := f + 1) (s := (w, kp, kd, day, gone, draw, P, rule, gd)) (σ := σ)
  have hno : ¬ ltr l len f = 59 → K (some (.int 0)) (NF Γ (a, tl) (b, bw, bk, bd) len (w, kp, kd, day, gone, draw, P, rule, gd) f σ) := by
    intro z
    simp only [if_neg z] at h
    exact h _ (fun z => by cases z)
  simp only at hT3 hnp
  generalize NF Γ (a, tl) (b, bw, bk, bd) len (w, kp, kd, day, gone, draw, P, rule, gd) f σ = σ1 at hT3 hnp hno ⊢
  obtain ⟨⟨m1, m2⟩, e1, e2⟩ := hT3
  simp only [TpE, hput] at m1 e1 hnp
  refine yvc_ok (uX5_readKeys Γ) (S := [23]) 40 _ _ _ _ ?_
  simp only [m1, e1, nI_1, hnp, yvc_s, s1i, s2i, s1l, s2l, sil, s1r, sir, siir, slir, srir, svr, sd1, sd2, lg, lput, ldel, isL_i, isL_r, isL_l, jmp, obj, obj1, fI, fR, arI, arL, arR, hput, f4_0, f4_1, f4_2, f4_3, lc_0, lc_1, rok_i, rok_b, rok_y, strF, fput_1, fput_2, csum_nil, csum_i, csum_l, csum_r, va_up_self, bx_uu, Int.reduceAdd, List.elem_nil, List.elem_cons, List.take_succ_cons, List.take_zero, List.drop_succ_cons, List.drop_zero, List.take_nil, List.drop_nil, List.reverse_cons, List.reverse_nil, List.nil_append, List.cons_append, List.append_nil, Option.toList_some, Option.toList_none, List.getElem?_cons_zero, List.getElem?_cons_succ, List.set_cons_zero, List.set_cons_succ, List.length_cons, List.length_nil, reduceIte, reduceCtorEq, and_true, true_and, and_self, or_true, true_or, false_and, and_false, not_true_eq_false, not_false_eq_true, true_implies, false_implies, implies_true, Nat.reduceAdd, Nat.reduceLT, Nat.reduceEqDiff, Nat.reduceLeDiff, Nat.reduceBEq, Nat.zero_add, Nat.lt_add_one, Bool.false_eq_true, Bool.or_false, Bool.or_true, Bool.or_self, Nat.zero_ne_one, Nat.one_ne_zero, ite_true, ite_false, ne_eq, Nat.reduceSub, Nat.succ_eq_add_one, Nat.zero_lt_succ, Nat.add_one_ne_zero, false_or, or_false, mX5_readKeys_c, mX5_readKeys_n, mX5_readKeys_r, mX5_readKeys_l, dX5_readKeys_0, dX5_readKeys_1, dX5_readKeys_4, bc_59, dX5_readKeys_6, tg_6_5, cnd2_eq, dX5_readKeys_9, ic_0, dX5_readKeys_10, dX5_readKeys_11, dX5_readKeys_12, dX5_readKeys_13, fl_5_19_5, dX5_readKeys_16, ic_1, dX5_readKeys_17, dX5_readKeys_18, dX5_readKeys_21, dX5_readKeys_22, dX5_readKeys_23, dX5_readKeys_24, ic_4, dX5_readKeys_25, tg_25_64, cnd2_ge, dX5_readKeys_28, dX5_readKeys_29, dX5_readKeys_32, dX5_readKeys_33, dX5_readKeys_34, bc_45, dX5_readKeys_36, tg_36_16, dX5_readKeys_39, dX5_readKeys_40, dX5_readKeys_41, bc_48, dX5_readKeys_43, dX5_readKeys_44, dX5_readKeys_47, tg_47_5, cnd1_ne, dX5_readKeys_50, dX5_readKeys_51, dX5_readKeys_52, dX5_readKeys_53, fl_5_77_0, dX5_readKeys_56, dX5_readKeys_57, dX5_readKeys_58, dX5_readKeys_60, tg_60_8, cnd2_ne, dX5_readKeys_63, bc_m4, dX5_readKeys_65, tg_65_7, dX5_readKeys_68, dX5_readKeys_69, dX5_readKeys_71, dX5_readKeys_72, dX5_readKeys_73, dX5_readKeys_74, dX5_readKeys_75, dX5_readKeys_78, dX5_readKeys_79, dX5_readKeys_80, dX5_readKeys_83, dX5_readKeys_86, tg_86_m63, dX5_readKeys_89, dX5_readKeys_90, jX5_readKeys_0_32, jX5_readKeys_0_74, st_aload_n, st_bipush, st_dup, st_getfield, st_goto, st_iadd, st_iastore, st_iconst, st_ifCond, st_if_icmp, st_iinc, st_iload_n, st_invokevirtual, st_ireturn, st_istore_n, st_isub, st_putfield]
  refine ⟨fun cc => ?_, fun cc => hno cc⟩
  simp only [if_pos cc] at h
  exact loop 4 0 kp (f + 1) rfl (c47_lt cc (by decide)) h
/-- what the whole reading comes to: well, the place, the college -/
def RdR (l : Nat → Int32) (len : Nat) (s : CS) (ok : Bool) (p : Nat) (s' : CS) : Prop :=
  ((rR l len 0).1 = false ∧ ok = false ∧ p = (rR l len 0).2.2) ∨
  ((rR l len 0).1 = true ∧ ∃ r, r = ppl l len 5 (0, s.2.2.1, s.1, (rR l len 0).2.2) ∧
    ((okP r = false ∧ ok = false ∧ p = r.2.2.2.2) ∨
    (okP r = true ∧ ∃ k, k = rK l len r.2.1 s.2.1 r.2.2.2.2 ∧
      ((k.1 = false ∧ ok = false ∧ p = k.2.2) ∨
      (k.1 = true ∧ p = nx l len k.2.2 ∧ ok = decide (ltr l len (nx l len k.2.2) = -1) ∧ s' = kS (pS (rRs s (rR l len 0)) r.2) k.2.1)))))
theorem rR_le {l : Nat → Int32} {len p : Nat} (h : p ≤ len) : (rR l len p).2.2 ≤ len := by
  unfold rR
  split
  · exact rn_le _ _ _ (nx_le h)
  · exact nx_le h
def sp_X5_read (Γ : Cx) : YSp := fun av σ K => ∃ (A : Nat × Nat) (B : CA) (l : Nat → Int32) (len p0 : Nat) (s : CS), av = [.ref A.1, .ref B.1] ∧ Tp Γ A l len p0 σ ∧ Col Γ B s σ ∧ (∀ q, SF A q → ¬ CF B q) ∧ len ≤ 50 ∧ ∀ (ok : Bool) (p : Nat) (s' : CS), RdR l len s ok p s' → K (some (.int (if ok = true then 0 else -20 - nI p))) (NF Γ A B len s' p σ)
theorem rv_X5_read {Γ : Cx} : Recv (sp_X5_read Γ) 1 5 := by
  intro av σ K h
  obtain ⟨A, B, l, len, p, s, rfl, hc, -⟩ := h
  obtain ⟨fs, h1, h2⟩ := tp_rv hc
  exact ⟨_, _, fs, rfl, rfl, h1, h2⟩
theorem nf_nf {Γ : Cx} {A : Nat × Nat} {B : CA} {len p p' : Nat} {s s' : CS} {σ : Hp} (hd : ∀ q, SF A q → ¬ CF B q) : NF Γ A B len s' p' (NF Γ A B len s p σ) = NF Γ A B len s' p' σ := by
  rw [show NF Γ A B len s' p' (NF Γ A B len s p σ) = hput (cset Γ B s' (NF Γ A B len s p σ)) A.1 (TpE A.2 len p') from rfl, nf_s hd]
  exact nf_p
theorem bw_333 : Cond.code yX5_readRule cX5_readRule 4 (some .boolean) ∈ BW := bw_i 333 (by decide +kernel) (by decide +kernel)
theorem no_X5_readRule : NameOK yX5_readRule 1 := by unfold NameOK; decide +kernel
theorem bw_330 : Cond.methodLink RX5 22 yX5_readRule ∈ BW := bw_i 330 (by decide +kernel) (by decide +kernel)
theorem bw_332 : Cond.instanceMethod yX5_readRule ∈ BW := bw_i 332 (by decide +kernel) (by decide +kernel)
theorem bw_2 : Cond.selects RX5 yX5_readRule yX5_readRule ∈ BW := bw_i 2 (by decide +kernel) (by decide +kernel)
theorem bw_349 : Cond.code yX5_readPeople cX5_readPeople 3 (some .boolean) ∈ BW := bw_i 349 (by decide +kernel) (by decide +kernel)
theorem no_X5_readPeople : NameOK yX5_readPeople 1 := by unfold NameOK; decide +kernel
theorem bw_346 : Cond.methodLink RX5 26 yX5_readPeople ∈ BW := bw_i 346 (by decide +kernel) (by decide +kernel)
theorem bw_348 : Cond.instanceMethod yX5_readPeople ∈ BW := bw_i 348 (by decide +kernel) (by decide +kernel)
theorem bw_5 : Cond.selects RX5 yX5_readPeople yX5_readPeople ∈ BW := bw_i 5 (by decide +kernel) (by decide +kernel)
theorem bw_446 : Cond.code yX5_readKeys cX5_readKeys 4 (some .boolean) ∈ BW := bw_i 446 (by decide +kernel) (by decide +kernel)
theorem no_X5_readKeys : NameOK yX5_readKeys 1 := by unfold NameOK; decide +kernel
theorem bw_443 : Cond.methodLink RX5 29 yX5_readKeys ∈ BW := bw_i 443 (by decide +kernel) (by decide +kernel)
theorem bw_445 : Cond.instanceMethod yX5_readKeys ∈ BW := bw_i 445 (by decide +kernel) (by decide +kernel)
theorem bw_7 : Cond.selects RX5 yX5_readKeys yX5_readKeys ∈ BW := bw_i 7 (by decide +kernel) (by decide +kernel)
theorem tg_10_31 : tgo 10 31 = some 41 := by decide
theorem tg_18_23 : tgo 18 23 = some 41 := by decide
theorem tg_26_15 : tgo 26 15 = some 41 := by decide
theorem tg_34_7 : tgo 34 7 = some 41 := by decide
theorem tg_38_4 : tgo 38 4 = some 42 := by decide
theorem tg_44_7 : tgo 44 7 = some 51 := by decide
theorem tg_48_10 : tgo 48 10 = some 58 := by decide
theorem bc_m20 : (Int8.ofInt (-20)).toInt32 = (-20) := by decide
def mX5_read : Mt := (⟨6, 0, 0, 139⟩, RX5, cX5_read, 3, some .int, (0, 0), none)
theorem mX5_read_c : mX5_read.2.2.1 = cX5_read := rfl
theorem mX5_read_n : mX5_read.2.2.2.1 = 3 := rfl
theorem mX5_read_r : mX5_read.2.2.2.2.1 = some .int := rfl
theorem mX5_read_l : mX5_read.2.2.2.2.2.2 = none := rfl
def jX5_read (Γ : Cx) : List ((Nat × Nat) × Nat × Bool × YSp) := [((0, 22), 2, false, sp_X5_readRule Γ), ((0, 26), 2, false, sp_X5_readPeople Γ), ((0, 29), 2, false, sp_X5_readKeys Γ), ((0, 32), 1, false, sp_X5_nextLetter Γ)]
theorem jX5_read_0_22 (Γ : Cx) : kT (jX5_read Γ) 0 22 = some (2, false, sp_X5_readRule Γ) := rfl
theorem jX5_read_0_26 (Γ : Cx) : kT (jX5_read Γ) 0 26 = some (2, false, sp_X5_readPeople Γ) := rfl
theorem jX5_read_0_29 (Γ : Cx) : kT (jX5_read Γ) 0 29 = some (2, false, sp_X5_readKeys Γ) := rfl
theorem jX5_read_0_32 (Γ : Cx) : kT (jX5_read Γ) 0 32 = some (1, false, sp_X5_nextLetter Γ) := rfl
theorem uX5_read (Γ : Cx) : TbOK Γ mX5_read (fT fX5, cT kX5, kT (jX5_read Γ)) := tb_ok fX5_ok kX5_ok (all_cons ⟨call_V (n := 1) (T := TX5) (N := 3) (ok_X5_readRule Γ) (rv_X5_readRule (Γ := Γ)) rfl bw_333 bw_330 bw_332 bw_2 bw_46 no_X5_readRule ⟨⟨rfl, rfl⟩, ⟨by decide, by decide⟩, ⟨by decide, by decide⟩⟩, fun z => by cases z⟩ (all_cons ⟨call_V (n := 1) (T := TX5) (N := 3) (ok_X5_readPeople Γ) (rv_X5_readPeople (Γ := Γ)) rfl bw_349 bw_346 bw_348 bw_5 bw_46 no_X5_readPeople ⟨⟨rfl, rfl⟩, ⟨by decide, by decide⟩, ⟨by decide, by decide⟩⟩, fun z => by cases z⟩ (all_cons ⟨call_V (n := 1) (T := TX5) (N := 3) (ok_X5_readKeys Γ) (rv_X5_readKeys (Γ := Γ)) rfl bw_446 bw_443 bw_445 bw_7 bw_46 no_X5_readKeys ⟨⟨rfl, rfl⟩, ⟨by decide, by decide⟩, ⟨by decide, by decide⟩⟩, fun z => by cases z⟩ (all_cons ⟨call_V (n := 0) (T := TX5) (N := 3) (ok_X5_nextLetter Γ) (rv_X5_nextLetter (Γ := Γ)) rfl bw_337 bw_334 bw_336 bw_3 bw_46 no_X5_nextLetter ⟨⟨rfl, rfl⟩, ⟨by decide, by decide⟩, ⟨by decide, by decide⟩⟩, fun z => by cases z⟩ (all_nil)))))
set_option maxRecDepth 20000 in
theorem ok_X5_read (Γ : Cx) : Ok Γ yX5_read mX5_read (sp_X5_read Γ) := by
  refine ok_intro (by decide +kernel) rfl rfl ?_
  intro av σ K h
  obtain ⟨⟨a, tl⟩, ⟨b, bw, bk, bd⟩, l, len, p0, s, rfl, hT, hC, hd, hl, h⟩ := h
  have hTn := nf_T hT hd
  have hCn := nf_C (len := len) hC hd
  -- the end: not well
  have bad : ∀ p s', RdR l len s false p s' → YG Γ mX5_read K 41 [(0, .ref a), (1, .ref b)] [] (NF Γ (a, tl) (b, bw, bk, bd) len s' p σ) := by
    intro p s' hr
    have hk := h false p s' hr
    have hT1 := hTn s' p
    simp only [Bool.false_eq_true, if_false] at hk
    generalize NF Γ (a, tl) (b, bw, bk, bd) len s' p σ = σ1 at hT1 hk ⊢
    obtain ⟨⟨m1, m2⟩, e1, e2⟩ := hT1
    simp only [TpE] at m1 e1
    refine yvc_ok (uX5_read Γ) (S := []) 40 _ _ _ _ ?_
    simp only [m1, e1, yvc_s, s1i, s2i, s1l, s2l, sil, s1r, sir, siir, slir, srir, svr, sd1, sd2, lg, lput, ldel, isL_i, isL_r, isL_l, jmp, obj, obj1, fI, fR, arI, arL, arR, hput, f4_0, f4_1, f4_2, f4_3, lc_0, lc_1, rok_i, rok_b, rok_y, strF, fput_1, fput_2, csum_nil, csum_i, csum_l, csum_r, va_up_self, bx_uu, Int.reduceAdd, List.elem_nil, List.elem_cons, List.take_succ_cons, List.take_zero, List.drop_succ_cons, List.drop_zero, List.take_nil, List.drop_nil, List.reverse_cons, List.reverse_nil, List.nil_append, List.cons_append, List.append_nil, Option.toList_some, Option.toList_none, List.getElem?_cons_zero, List.getElem?_cons_succ, List.set_cons_zero, List.set_cons_succ, List.length_cons, List.length_nil, reduceIte, reduceCtorEq, and_true, true_and, and_self, or_true, true_or, false_and, and_false, not_true_eq_false, not_false_eq_true, true_implies, false_implies, implies_true, Nat.reduceAdd, Nat.reduceLT, Nat.reduceEqDiff, Nat.reduceLeDiff, Nat.reduceBEq, Nat.zero_add, Nat.lt_add_one, Bool.false_eq_true, Bool.or_false, Bool.or_true, Bool.or_self, Nat.zero_ne_one, Nat.one_ne_zero, ite_true, ite_false, ne_eq, Nat.reduceSub, Nat.succ_eq_add_one, Nat.zero_lt_succ, Nat.add_one_ne_zero, false_or, or_false, mX5_read_c, mX5_read_n, mX5_read_r, mX5_read_l, dX5_read_0, dX5_read_1, ic_0, dX5_read_2, fl_5_19_5, dX5_read_5, dX5_read_6, dX5_read_7, dX5_read_10, tg_10_31, cnd1_eq, dX5_read_13, dX5_read_14, dX5_read_15, dX5_read_18, tg_18_23, dX5_read_21, dX5_read_22, dX5_read_23, dX5_read_26, tg_26_15, dX5_read_29, dX5_read_30, dX5_read_33, ic_m1, dX5_read_34, tg_34_7, cnd2_ne, dX5_read_37, ic_1, dX5_read_38, tg_38_4, dX5_read_41, dX5_read_42, dX5_read_43, dX5_read_44, tg_44_7, dX5_read_47, dX5_read_48, tg_48_10, dX5_read_51, bc_m20, dX5_read_53, dX5_read_54, dX5_read_57, dX5_read_58, jX5_read_0_22, jX5_read_0_26, jX5_read_0_29, jX5_read_0_32, st_aload_n, st_bipush, st_getfield, st_goto, st_iconst, st_ifCond, st_if_icmp, st_iload_n, st_invokevirtual, st_ireturn, st_istore_n, st_isub, st_putfield]
    exact hk
  have h0 : hput σ a (TpE tl len 0) = NF Γ (a, tl) (b, bw, bk, bd) len s 0 σ := by unfold NF; rw [hC.self]
  have hT0 := hTn s 0
  have hC0 := hCn s 0
  obtain ⟨⟨m1, m2⟩, e1, e2⟩ := id hT
  simp only [TpE, hput, nI_0] at m1 e1 h0
  refine ⟨Nat.le_of_ble_eq_true rfl, yvc_ok (uX5_read Γ) (S := []) 40 _ _ _ _ ?_⟩
  simp only [lv_args, Value.category, m1, e1, h0, yvc_s, s1i, s2i, s1l, s2l, sil, s1r, sir, siir, slir, srir, svr, sd1, sd2, lg, lput, ldel, isL_i, isL_r, isL_l, jmp, obj, obj1, fI, fR, arI, arL, arR, hput, f4_0, f4_1, f4_2, f4_3, lc_0, lc_1, rok_i, rok_b, rok_y, strF, fput_1, fput_2, csum_nil, csum_i, csum_l, csum_r, va_up_self, bx_uu, Int.reduceAdd, List.elem_nil, List.elem_cons, List.take_succ_cons, List.take_zero, List.drop_succ_cons, List.drop_zero, List.take_nil, List.drop_nil, List.reverse_cons, List.reverse_nil, List.nil_append, List.cons_append, List.append_nil, Option.toList_some, Option.toList_none, List.getElem?_cons_zero, List.getElem?_cons_succ, List.set_cons_zero, List.set_cons_succ, List.length_cons, List.length_nil, reduceIte, reduceCtorEq, and_true, true_and, and_self, or_true, true_or, false_and, and_false, not_true_eq_false, not_false_eq_true, true_implies, false_implies, implies_true, Nat.reduceAdd, Nat.reduceLT, Nat.reduceEqDiff, Nat.reduceLeDiff, Nat.reduceBEq, Nat.zero_add, Nat.lt_add_one, Bool.false_eq_true, Bool.or_false, Bool.or_true, Bool.or_self, Nat.zero_ne_one, Nat.one_ne_zero, ite_true, ite_false, ne_eq, Nat.reduceSub, Nat.succ_eq_add_one, Nat.zero_lt_succ, Nat.add_one_ne_zero, false_or, or_false, mX5_read_c, mX5_read_n, mX5_read_r, mX5_read_l, dX5_read_0, dX5_read_1, ic_0, dX5_read_2, fl_5_19_5, dX5_read_5, dX5_read_6, dX5_read_7, dX5_read_10, tg_10_31, cnd1_eq, dX5_read_13, dX5_read_14, dX5_read_15, dX5_read_18, tg_18_23, dX5_read_21, dX5_read_22, dX5_read_23, dX5_read_26, tg_26_15, dX5_read_29, dX5_read_30, dX5_read_33, ic_m1, dX5_read_34, tg_34_7, cnd2_ne, dX5_read_37, ic_1, dX5_read_38, tg_38_4, dX5_read_41, dX5_read_42, dX5_read_43, dX5_read_44, tg_44_7, dX5_read_47, dX5_read_48, tg_48_10, dX5_read_51, bc_m20, dX5_read_53, dX5_read_54, dX5_read_57, dX5_read_58, jX5_read_0_22, jX5_read_0_26, jX5_read_0_29, jX5_read_0_32, st_aload_n, st_bipush, st_getfield, st_goto, st_iconst, st_ifCond, st_if_icmp, st_iload_n, st_invokevirtual, st_ireturn, st_istore_n, st_isub, st_putfield]
  refine ⟨(a, tl), (b, bw, bk, bd), l, len, 0, s, ⟨rfl, hT0, hC0, hd, hl, Nat.zero_le _⟩, ?_⟩
  rw [nf_nf hd]
  have hle := rR_le (l := l) (Nat.zero_le len)
  refine yvc_ok (uX5_read Γ) (S := [41]) 40 _ _ _ _ ?_
  simp only [bI_eq0, Bool.not_eq_false, yvc_s, s1i, s2i, s1l, s2l, sil, s1r, sir, siir, slir, srir, svr, sd1, sd2, lg, lput, ldel, isL_i, isL_r, isL_l, jmp, obj, obj1, fI, fR, arI, arL, arR, hput, f4_0, f4_1, f4_2, f4_3, lc_0, lc_1, rok_i, rok_b, rok_y, strF, fput_1, fput_2, csum_nil, csum_i, csum_l, csum_r, va_up_self, bx_uu, Int.reduceAdd, List.elem_nil, List.elem_cons, List.take_succ_cons, List.take_zero, List.drop_succ_cons, List.drop_zero, List.take_nil, List.drop_nil, List.reverse_cons, List.reverse_nil, List.nil_append, List.cons_append, List.append_nil, Option.toList_some, Option.toList_none, List.getElem?_cons_zero, List.getElem?_cons_succ, List.set_cons_zero, List.set_cons_succ, List.length_cons, List.length_nil, reduceIte, reduceCtorEq, and_true, true_and, and_self, or_true, true_or, false_and, and_false, not_true_eq_false, not_false_eq_true, true_implies, false_implies, implies_true, Nat.reduceAdd, Nat.reduceLT, Nat.reduceEqDiff, Nat.reduceLeDiff, Nat.reduceBEq, Nat.zero_add, Nat.lt_add_one, Bool.false_eq_true, Bool.or_false, Bool.or_true, Bool.or_self, Nat.zero_ne_one, Nat.one_ne_zero, ite_true, ite_false, ne_eq, Nat.reduceSub, Nat.succ_eq_add_one, Nat.zero_lt_succ, Nat.add_one_ne_zero, false_or, or_false, mX5_read_c, mX5_read_n, mX5_read_r, mX5_read_l, dX5_read_0, dX5_read_1, ic_0, dX5_read_2, fl_5_19_5, dX5_read_5, dX5_read_6, dX5_read_7, dX5_read_10, tg_10_31, cnd1_eq, dX5_read_13, dX5_read_14, dX5_read_15, dX5_read_18, tg_18_23, dX5_read_21, dX5_read_22, dX5_read_23, dX5_read_26, tg_26_15, dX5_read_29, dX5_read_30, dX5_read_33, ic_m1, dX5_read_34, tg_34_7, cnd2_ne, dX5_read_37, ic_1, dX5_read_38, tg_38_4, dX5_read_41, dX5_read_42, dX5_read_43, dX5_read_44, tg_44_7, dX5_read_47, dX5_read_48, tg_48_10, dX5_read_51, bc_m20, dX5_read_53, dX5_read_54, dX5_read_57, dX5_read_58, jX5_read_0_22, jX5_read_0_26, jX5_read_0_29, jX5_read_0_32, st_aload_n, st_bipush, st_getfield, st_goto, st_iconst, st_ifCond, st_if_icmp, st_iload_n, st_invokevirtual, st_ireturn, st_istore_n, st_isub, st_putfield]
  refine ⟨fun c1 => ?_, fun c1 => ?_⟩
  · refine bad _ _ (Or.inl ⟨c1, rfl, rfl⟩)
  have e3 : (rRs s (rR l len 0)).2.2.1 = s.2.2.1 := by unfold rRs; split <;> rfl
  have e4 : (rRs s (rR l len 0)).1 = s.1 := by unfold rRs; split <;> rfl
  have e5 : (rRs s (rR l len 0)).2.1 = s.2.1 := by unfold rRs; split <;> rfl
  refine ⟨(a, tl), (b, bw, bk, bd), l, len, (rR l len 0).2.2, rRs s (rR l len 0), ⟨rfl, hTn _ _, hCn _ _, hd, hl, hle⟩, ?_⟩
  intro s2 hs2
  rw [e3, e4] at hs2 ⊢
  rw [nf_nf hd]
  have hle2 := ppl_le (l := l) (len := len) 5 (0, s.2.2.1, s.1, (rR l len 0).2.2) hle
  generalize hr2 : ppl l len 5 (0, s.2.2.1, s.1, (rR l len 0).2.2) = r2 at hs2 hle2 ⊢
  refine yvc_ok (uX5_read Γ) (S := [41]) 40 _ _ _ _ ?_
  simp only [bI_eq0, Bool.not_eq_false, yvc_s, s1i, s2i, s1l, s2l, sil, s1r, sir, siir, slir, srir, svr, sd1, sd2, lg, lput, ldel, isL_i, isL_r, isL_l, jmp, obj, obj1, fI, fR, arI, arL, arR, hput, f4_0, f4_1, f4_2, f4_3, lc_0, lc_1, rok_i, rok_b, rok_y, strF, fput_1, fput_2, csum_nil, csum_i, csum_l, csum_r, va_up_self, bx_uu, Int.reduceAdd, List.elem_nil, List.elem_cons, List.take_succ_cons, List.take_zero, List.drop_succ_cons, List.drop_zero, List.take_nil, List.drop_nil, List.reverse_cons, List.reverse_nil, List.nil_append, List.cons_append, List.append_nil, Option.toList_some, Option.toList_none, List.getElem?_cons_zero, List.getElem?_cons_succ, List.set_cons_zero, List.set_cons_succ, List.length_cons, List.length_nil, reduceIte, reduceCtorEq, and_true, true_and, and_self, or_true, true_or, false_and, and_false, not_true_eq_false, not_false_eq_true, true_implies, false_implies, implies_true, Nat.reduceAdd, Nat.reduceLT, Nat.reduceEqDiff, Nat.reduceLeDiff, Nat.reduceBEq, Nat.zero_add, Nat.lt_add_one, Bool.false_eq_true, Bool.or_false, Bool.or_true, Bool.or_self, Nat.zero_ne_one, Nat.one_ne_zero, ite_true, ite_false, ne_eq, Nat.reduceSub, Nat.succ_eq_add_one, Nat.zero_lt_succ, Nat.add_one_ne_zero, false_or, or_false, mX5_read_c, mX5_read_n, mX5_read_r, mX5_read_l, dX5_read_0, dX5_read_1, ic_0, dX5_read_2, fl_5_19_5, dX5_read_5, dX5_read_6, dX5_read_7, dX5_read_10, tg_10_31, cnd1_eq, dX5_read_13, dX5_read_14, dX5_read_15, dX5_read_18, tg_18_23, dX5_read_21, dX5_read_22, dX5_read_23, dX5_read_26, tg_26_15, dX5_read_29, dX5_read_30, dX5_read_33, ic_m1, dX5_read_34, tg_34_7, cnd2_ne, dX5_read_37, ic_1, dX5_read_38, tg_38_4, dX5_read_41, dX5_read_42, dX5_read_43, dX5_read_44, tg_44_7, dX5_read_47, dX5_read_48, tg_48_10, dX5_read_51, bc_m20, dX5_read_53, dX5_read_54, dX5_read_57, dX5_read_58, jX5_read_0_22, jX5_read_0_26, jX5_read_0_29, jX5_read_0_32, st_aload_n, st_bipush, st_getfield, st_goto, st_iconst, st_ifCond, st_if_icmp, st_iload_n, st_invokevirtual, st_ireturn, st_istore_n, st_isub, st_putfield]
  refine ⟨fun c2 => ?_, fun c2 => ?_⟩
  · exact bad _ _ (Or.inr ⟨c1, _, rfl, Or.inl ⟨by rw [hr2]; exact c2, rfl, by rw [hr2]⟩⟩)
  have hs2' := hs2 c2
  subst hs2'
  refine ⟨(a, tl), (b, bw, bk, bd), l, len, r2.2.2.2.2, _, ⟨rfl, hTn _ _, hCn _ _, hd, hl, hle2⟩, ?_⟩
  intro s3 hs3
  have e6 : (pS (rRs s (rR l len 0)) r2.2).2.2.2.2.2.2.1 = r2.2.1 := rfl
  have e7 : (pS (rRs s (rR l len 0)) r2.2).2.1 = s.2.1 := e5
  rw [e6, e7] at hs3 ⊢
  rw [nf_nf hd]
  have hle3 := rK_le (l := l) (P := r2.2.1) (k := s.2.1) hle2
  generalize hr3 : rK l len r2.2.1 s.2.1 r2.2.2.2.2 = r3 at hs3 hle3 ⊢
  refine yvc_ok (uX5_read Γ) (S := [41]) 40 _ _ _ _ ?_
  simp only [bI_eq0, Bool.not_eq_false, yvc_s, s1i, s2i, s1l, s2l, sil, s1r, sir, siir, slir, srir, svr, sd1, sd2, lg, lput, ldel, isL_i, isL_r, isL_l, jmp, obj, obj1, fI, fR, arI, arL, arR, hput, f4_0, f4_1, f4_2, f4_3, lc_0, lc_1, rok_i, rok_b, rok_y, strF, fput_1, fput_2, csum_nil, csum_i, csum_l, csum_r, va_up_self, bx_uu, Int.reduceAdd, List.elem_nil, List.elem_cons, List.take_succ_cons, List.take_zero, List.drop_succ_cons, List.drop_zero, List.take_nil, List.drop_nil, List.reverse_cons, List.reverse_nil, List.nil_append, List.cons_append, List.append_nil, Option.toList_some, Option.toList_none, List.getElem?_cons_zero, List.getElem?_cons_succ, List.set_cons_zero, List.set_cons_succ, List.length_cons, List.length_nil, reduceIte, reduceCtorEq, and_true, true_and, and_self, or_true, true_or, false_and, and_false, not_true_eq_false, not_false_eq_true, true_implies, false_implies, implies_true, Nat.reduceAdd, Nat.reduceLT, Nat.reduceEqDiff, Nat.reduceLeDiff, Nat.reduceBEq, Nat.zero_add, Nat.lt_add_one, Bool.false_eq_true, Bool.or_false, Bool.or_true, Bool.or_self, Nat.zero_ne_one, Nat.one_ne_zero, ite_true, ite_false, ne_eq, Nat.reduceSub, Nat.succ_eq_add_one, Nat.zero_lt_succ, Nat.add_one_ne_zero, false_or, or_false, mX5_read_c, mX5_read_n, mX5_read_r, mX5_read_l, dX5_read_0, dX5_read_1, ic_0, dX5_read_2, fl_5_19_5, dX5_read_5, dX5_read_6, dX5_read_7, dX5_read_10, tg_10_31, cnd1_eq, dX5_read_13, dX5_read_14, dX5_read_15, dX5_read_18, tg_18_23, dX5_read_21, dX5_read_22, dX5_read_23, dX5_read_26, tg_26_15, dX5_read_29, dX5_read_30, dX5_read_33, ic_m1, dX5_read_34, tg_34_7, cnd2_ne, dX5_read_37, ic_1, dX5_read_38, tg_38_4, dX5_read_41, dX5_read_42, dX5_read_43, dX5_read_44, tg_44_7, dX5_read_47, dX5_read_48, tg_48_10, dX5_read_51, bc_m20, dX5_read_53, dX5_read_54, dX5_read_57, dX5_read_58, jX5_read_0_22, jX5_read_0_26, jX5_read_0_29, jX5_read_0_32, st_aload_n, st_bipush, st_getfield, st_goto, st_iconst, st_ifCond, st_if_icmp, st_iload_n, st_invokevirtual, st_ireturn, st_istore_n, st_isub, st_putfield]
  refine ⟨fun c3 => ?_, fun c3 => ?_⟩
  · exact bad _ _ (Or.inr ⟨c1, _, rfl, Or.inr ⟨by rw [hr2]; exact c2, _, rfl, Or.inl ⟨by rw [hr2, hr3]; exact c3, rfl, by rw [hr2, hr3]⟩⟩⟩)
  have hs3' := hs3 c3
  subst hs3'
  refine ⟨(a, tl), l, len, r3.2.2, rfl, hTn _ _, hl, hle3, ?_⟩
  rw [nf_p]
  have hR : ∀ ok, ok = decide (ltr l len (nx l len r3.2.2) = -1) → RdR l len s ok (nx l len r3.2.2) (kS (pS (rRs s (rR l len 0)) r2.2) r3.2.1) := fun ok hok => Or.inr ⟨c1, _, rfl, Or.inr ⟨by rw [hr2]; exact c2, _, rfl, Or.inr ⟨by rw [hr2, hr3]; exact c3, by rw [hr2, hr3], by rw [hr2, hr3]; exact hok, by rw [hr2, hr3]⟩⟩⟩
  refine yvc_ok (uX5_read Γ) (S := [41]) 40 _ _ _ _ ?_
  simp only [i1ne0, yvc_s, s1i, s2i, s1l, s2l, sil, s1r, sir, siir, slir, srir, svr, sd1, sd2, lg, lput, ldel, isL_i, isL_r, isL_l, jmp, obj, obj1, fI, fR, arI, arL, arR, hput, f4_0, f4_1, f4_2, f4_3, lc_0, lc_1, rok_i, rok_b, rok_y, strF, fput_1, fput_2, csum_nil, csum_i, csum_l, csum_r, va_up_self, bx_uu, Int.reduceAdd, List.elem_nil, List.elem_cons, List.take_succ_cons, List.take_zero, List.drop_succ_cons, List.drop_zero, List.take_nil, List.drop_nil, List.reverse_cons, List.reverse_nil, List.nil_append, List.cons_append, List.append_nil, Option.toList_some, Option.toList_none, List.getElem?_cons_zero, List.getElem?_cons_succ, List.set_cons_zero, List.set_cons_succ, List.length_cons, List.length_nil, reduceIte, reduceCtorEq, and_true, true_and, and_self, or_true, true_or, false_and, and_false, not_true_eq_false, not_false_eq_true, true_implies, false_implies, implies_true, Nat.reduceAdd, Nat.reduceLT, Nat.reduceEqDiff, Nat.reduceLeDiff, Nat.reduceBEq, Nat.zero_add, Nat.lt_add_one, Bool.false_eq_true, Bool.or_false, Bool.or_true, Bool.or_self, Nat.zero_ne_one, Nat.one_ne_zero, ite_true, ite_false, ne_eq, Nat.reduceSub, Nat.succ_eq_add_one, Nat.zero_lt_succ, Nat.add_one_ne_zero, false_or, or_false, mX5_read_c, mX5_read_n, mX5_read_r, mX5_read_l, dX5_read_0, dX5_read_1, ic_0, dX5_read_2, fl_5_19_5, dX5_read_5, dX5_read_6, dX5_read_7, dX5_read_10, tg_10_31, cnd1_eq, dX5_read_13, dX5_read_14, dX5_read_15, dX5_read_18, tg_18_23, dX5_read_21, dX5_read_22, dX5_read_23, dX5_read_26, tg_26_15, dX5_read_29, dX5_read_30, dX5_read_33, ic_m1, dX5_read_34, tg_34_7, cnd2_ne, dX5_read_37, ic_1, dX5_read_38, tg_38_4, dX5_read_41, dX5_read_42, dX5_read_43, dX5_read_44, tg_44_7, dX5_read_47, dX5_read_48, tg_48_10, dX5_read_51, bc_m20, dX5_read_53, dX5_read_54, dX5_read_57, dX5_read_58, jX5_read_0_22, jX5_read_0_26, jX5_read_0_29, jX5_read_0_32, st_aload_n, st_bipush, st_getfield, st_goto, st_iconst, st_ifCond, st_if_icmp, st_iload_n, st_invokevirtual, st_ireturn, st_istore_n, st_isub, st_putfield]
  refine ⟨fun c4 => ?_, fun c4 => ?_⟩
  · exact bad _ _ (hR false (decide_eq_false c4).symm)
  · have hk := h true _ _ (hR true (decide_eq_true (Classical.not_not.mp c4)).symm)
    simp only [if_true] at hk
    exact hk
