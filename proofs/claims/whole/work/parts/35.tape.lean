/-! ===== Tape: reading ===== -/
def TpE (tl len p : Nat) : va_E := .inr (5, [.ref tl, .int (nI len), .int (nI p)])
def Tp (Γ : Cx) (A : Nat × Nat) (l : Nat → Int32) (len p : Nat) (σ : Hp) : Prop := (A.1 ∈ σ.1 ∧ A.2 ∈ σ.1) ∧ σ.2 A.1 = TpE A.2 len p ∧ σ.2 A.2 = iA Γ 50 l
theorem tpE_iA {Γ : Cx} {tl len p n : Nat} {f : Nat → Int32} : TpE tl len p ≠ iA Γ n f := fun e => by unfold TpE iA at e; cases e
theorem Tp.ne {Γ : Cx} {A : Nat × Nat} {l : Nat → Int32} {len p : Nat} {σ : Hp} (h : Tp Γ A l len p σ) : A.1 ≠ A.2 := ne_of h.2.1 h.2.2 tpE_iA
theorem Tp.put {Γ : Cx} {A : Nat × Nat} {l : Nat → Int32} {len p : Nat} {σ : Hp} (h : Tp Γ A l len p σ) (len' p' : Nat) : Tp Γ A l len' p' (hput σ A.1 (TpE A.2 len' p')) := by
  refine ⟨h.1, by simp only [hput, va_up_self], ?_⟩
  simp only [hput]
  rw [va_up_ne _ _ h.ne.symm]
  exact h.2.2
theorem Tp.keep {Γ : Cx} {A : Nat × Nat} {l : Nat → Int32} {len p : Nat} {σ σ' : Hp} (h : Tp Γ A l len p σ) (h1 : σ'.1 = σ.1) (h2 : ∀ q, SF A q → σ'.2 q = σ.2 q) : Tp Γ A l len p σ' := by
  obtain ⟨m, e1, e2⟩ := h
  exact ⟨by rw [h1]; exact m, (h2 _ (Or.inl rfl)).trans e1, (h2 _ (Or.inr rfl)).trans e2⟩
theorem tp_rv {Γ : Cx} {A : Nat × Nat} {l : Nat → Int32} {len p : Nat} {σ : Hp} (h : Tp Γ A l len p σ) : ∃ fs, A.1 ∈ σ.1 ∧ σ.2 A.1 = .inr (5, fs) := ⟨_, h.1.1, h.2.1⟩
theorem hput_hput {σ : Hp} {a : Nat} {e e' : va_E} : hput (hput σ a e) a e' = hput σ a e' := by
  simp only [hput, bx_uu]
theorem cset_hput {Γ : Cx} {B : CA} {s : CS} {σ : Hp} {a : Nat} {e : va_E} (h : ¬ CF B a) : cset Γ B s (hput σ a e) = hput (cset Γ B s σ) a e := by
  refine Prod.ext rfl (funext fun q => ?_)
  simp only [cset, hput, va_up]
  by_cases c : q = a
  · subst c
    rw [if_neg (fun z => h (Or.inr (Or.inr (Or.inr z)))), if_neg (fun z => h (Or.inr (Or.inr (Or.inl z)))), if_neg (fun z => h (Or.inr (Or.inl z))), if_neg (fun z => h (Or.inl z)), if_pos rfl]
    simp only [↓reduceIte]
  · simp only [if_neg c]
/-- the letter at a place: -1 at the end -/
def ltr (l : Nat → Int32) (len p : Nat) : Int32 := if p < len then l p else -1
def skp (l : Nat → Int32) (len : Nat) : Nat → Nat → Nat
  | 0, p => p
  | n + 1, p => if p < len ∧ l p = 32 then skp l len n (p + 1) else p
/-- behind blanks -/
def nx (l : Nat → Int32) (len p : Nat) : Nat := skp l len (len - p) p
theorem nx_b {l : Nat → Int32} {len p : Nat} (h : p < len) (h2 : l p = 32) : nx l len p = nx l len (p + 1) := by
  unfold nx
  rw [show len - p = (len - (p + 1)) + 1 by omega, skp, if_pos ⟨h, h2⟩]
theorem nx_s {l : Nat → Int32} {len p : Nat} (h : ¬ (p < len ∧ l p = 32)) : nx l len p = p := by
  unfold nx
  cases hn : len - p with
  | zero => rfl
  | succ n => rw [skp, if_neg h]
theorem skp_le {l : Nat → Int32} {len : Nat} : ∀ n p : Nat, p ≤ len → skp l len n p ≤ len
  | 0, p, h => h
  | n + 1, p, h => by
    unfold skp
    split
    · next c => exact skp_le n (p + 1) (by omega)
    · exact h
theorem nx_le {l : Nat → Int32} {len p : Nat} (h : p ≤ len) : nx l len p ≤ len := skp_le _ _ h
theorem ltr_lt {l : Nat → Int32} {len p : Nat} (h : ¬ ltr l len p = -1) : p < len := by
  unfold ltr at h
  rcases Nat.lt_or_ge p len with z | z
  · exact z
  · exact absurd (if_neg (by omega)) h
def sp_X5_letterHere (Γ : Cx) : YSp := fun av σ K => ∃ (A : Nat × Nat) (l : Nat → Int32) (len p : Nat), av = [.ref A.1] ∧ Tp Γ A l len p σ ∧ len ≤ 50 ∧ p < 100 ∧ K (some (.int (ltr l len p))) σ
theorem rv_X5_letterHere {Γ : Cx} : Recv (sp_X5_letterHere Γ) 0 5 := by
  intro av σ K h
  obtain ⟨A, l, len, p, rfl, hc, -⟩ := h
  obtain ⟨fs, h1, h2⟩ := tp_rv hc
  exact ⟨_, _, fs, rfl, rfl, h1, h2⟩
theorem pl_ge {p len : Nat} (h1 : len ≤ 50) (h2 : p < 100) : nI len ≤ nI p ↔ ¬ p < len := by
  rw [nI_leI (by omega) (by omega)]; omega
theorem in50 {p len : Nat} (h1 : len ≤ 50) (h2 : p < len) : vp_in (nI p) 50 := vp_in_nI (by omega) (by decide)
theorem cl50 {p : Nat} (h2 : p < 100) : (nI p).toNatClampNeg = p := nI_clamp (by omega)
theorem tg_8_15 : tgo 8 15 = some 23 := by decide
theorem tg_20_4 : tgo 20 4 = some 24 := by decide
def mX5_letterHere : Mt := (⟨0, 0, 0, 0⟩, RX5, cX5_letterHere, 1, some .int, (0, 0), none)
theorem mX5_letterHere_c : mX5_letterHere.2.2.1 = cX5_letterHere := rfl
theorem mX5_letterHere_n : mX5_letterHere.2.2.2.1 = 1 := rfl
theorem mX5_letterHere_r : mX5_letterHere.2.2.2.2.1 = some .int := rfl
theorem mX5_letterHere_l : mX5_letterHere.2.2.2.2.2.2 = none := rfl
def jX5_letterHere (Γ : Cx) : List ((Nat × Nat) × Nat × Bool × YSp) := []
theorem uX5_letterHere (Γ : Cx) : TbOK Γ mX5_letterHere (fT fX5, cT kX5, kT (jX5_letterHere Γ)) := tb_ok fX5_ok kX5_ok (all_nil)
set_option maxRecDepth 20000 in
theorem ok_X5_letterHere (Γ : Cx) : Ok Γ yX5_letterHere mX5_letterHere (sp_X5_letterHere Γ) := by
  refine ok_intro (by decide +kernel) rfl rfl ?_
  intro av σ K h
  obtain ⟨⟨a, tl⟩, l, len, p, rfl, hT, hl, hp, h⟩ := h
  obtain ⟨⟨m1, m2⟩, e1, e2⟩ := hT
  simp only [TpE, iA] at m1 m2 e1 e2
  unfold ltr at h
  refine ⟨Nat.le_of_ble_eq_true rfl, yvc_ok (uX5_letterHere Γ) (S := []) 40 _ _ _ _ ?_⟩
  simp only [lv_args, Value.category, m1, m2, e1, e2, pl_ge hl hp, cl50 hp, Classical.not_not, yvc_s, s1i, s2i, s1l, s2l, sil, s1r, sir, siir, slir, srir, svr, sd1, sd2, lg, lput, ldel, isL_i, isL_r, isL_l, jmp, obj, obj1, fI, fR, arI, arL, arR, hput, f4_0, f4_1, f4_2, f4_3, lc_0, lc_1, rok_i, rok_b, rok_y, strF, fput_1, fput_2, csum_nil, csum_i, csum_l, csum_r, va_up_self, bx_uu, Int.reduceAdd, List.elem_nil, List.elem_cons, List.take_succ_cons, List.take_zero, List.drop_succ_cons, List.drop_zero, List.take_nil, List.drop_nil, List.reverse_cons, List.reverse_nil, List.nil_append, List.cons_append, List.append_nil, Option.toList_some, Option.toList_none, List.getElem?_cons_zero, List.getElem?_cons_succ, List.set_cons_zero, List.set_cons_succ, List.length_cons, List.length_nil, reduceIte, reduceCtorEq, and_true, true_and, and_self, or_true, true_or, false_and, and_false, not_true_eq_false, not_false_eq_true, true_implies, false_implies, implies_true, Nat.reduceAdd, Nat.reduceLT, Nat.reduceEqDiff, Nat.reduceLeDiff, Nat.reduceBEq, Nat.zero_add, Nat.lt_add_one, Bool.false_eq_true, Bool.or_false, Bool.or_true, Bool.or_self, Nat.zero_ne_one, Nat.one_ne_zero, ite_true, ite_false, ne_eq, Nat.reduceSub, Nat.succ_eq_add_one, Nat.zero_lt_succ, Nat.add_one_ne_zero, false_or, or_false, mX5_letterHere_c, mX5_letterHere_n, mX5_letterHere_r, mX5_letterHere_l, dX5_letterHere_0, dX5_letterHere_1, fl_5_19_5, dX5_letterHere_4, dX5_letterHere_5, fl_5_15_5, dX5_letterHere_8, tg_8_15, cnd2_ge, dX5_letterHere_11, dX5_letterHere_12, fl_5_9_5, dX5_letterHere_15, dX5_letterHere_16, dX5_letterHere_19, dX5_letterHere_20, tg_20_4, dX5_letterHere_23, ic_m1, dX5_letterHere_24, st_aload_n, st_getfield, st_goto, st_iaload, st_iconst, st_if_icmp, st_ireturn]
  refine ⟨fun c => ?_, fun c => ⟨in50 hl c, ?_⟩⟩
  · rw [if_neg c] at h
    exact h
  · rw [if_pos c] at h
    exact h
def sp_X5_nextLetter (Γ : Cx) : YSp := fun av σ K => ∃ (A : Nat × Nat) (l : Nat → Int32) (len p : Nat), av = [.ref A.1] ∧ Tp Γ A l len p σ ∧ len ≤ 50 ∧ p ≤ len ∧ K (some (.int (ltr l len (nx l len p)))) (hput σ A.1 (TpE A.2 len (nx l len p)))
theorem rv_X5_nextLetter {Γ : Cx} : Recv (sp_X5_nextLetter Γ) 0 5 := by
  intro av σ K h
  obtain ⟨A, l, len, p, rfl, hc, -⟩ := h
  obtain ⟨fs, h1, h2⟩ := tp_rv hc
  exact ⟨_, _, fs, rfl, rfl, h1, h2⟩
theorem bw_341 : Cond.code yX5_letterHere cX5_letterHere 1 (some .int) ∈ BW := bw_i 341 (by decide +kernel) (by decide +kernel)
theorem bw_46 : Cond.initialized RX5 ∈ BW := bw_i 46 (by decide +kernel) (by decide +kernel)
theorem no_X5_letterHere : NameOK yX5_letterHere 0 := by unfold NameOK; decide +kernel
theorem bw_338 : Cond.methodLink RX5 36 yX5_letterHere ∈ BW := bw_i 338 (by decide +kernel) (by decide +kernel)
theorem bw_340 : Cond.instanceMethod yX5_letterHere ∈ BW := bw_i 340 (by decide +kernel) (by decide +kernel)
theorem bw_4 : Cond.selects RX5 yX5_letterHere yX5_letterHere ∈ BW := bw_i 4 (by decide +kernel) (by decide +kernel)
theorem tg_8_30 : tgo 8 30 = some 38 := by decide
theorem bc_32 : (Int8.ofInt 32).toInt32 = 32 := by decide
theorem tg_22_16 : tgo 22 16 = some 38 := by decide
theorem tg_35_m35 : tgo 35 (-35) = some 0 := by decide
def mX5_nextLetter : Mt := (⟨1, 0, 0, 20⟩, RX5, cX5_nextLetter, 1, some .int, (0, 0), none)
theorem mX5_nextLetter_c : mX5_nextLetter.2.2.1 = cX5_nextLetter := rfl
theorem mX5_nextLetter_n : mX5_nextLetter.2.2.2.1 = 1 := rfl
theorem mX5_nextLetter_r : mX5_nextLetter.2.2.2.2.1 = some .int := rfl
theorem mX5_nextLetter_l : mX5_nextLetter.2.2.2.2.2.2 = none := rfl
def jX5_nextLetter (Γ : Cx) : List ((Nat × Nat) × Nat × Bool × YSp) := [((0, 36), 1, false, sp_X5_letterHere Γ)]
theorem jX5_nextLetter_0_36 (Γ : Cx) : kT (jX5_nextLetter Γ) 0 36 = some (1, false, sp_X5_letterHere Γ) := rfl
theorem uX5_nextLetter (Γ : Cx) : TbOK Γ mX5_nextLetter (fT fX5, cT kX5, kT (jX5_nextLetter Γ)) := tb_ok fX5_ok kX5_ok (all_cons ⟨call_V (n := 0) (T := TX5) (N := 3) (ok_X5_letterHere Γ) (rv_X5_letterHere (Γ := Γ)) rfl bw_341 bw_338 bw_340 bw_4 bw_46 no_X5_letterHere ⟨⟨rfl, rfl⟩, ⟨by decide, by decide⟩, ⟨by decide, by decide⟩⟩, fun z => by cases z⟩ (all_nil))
set_option maxRecDepth 20000 in
theorem ok_X5_nextLetter (Γ : Cx) : Ok Γ yX5_nextLetter mX5_nextLetter (sp_X5_nextLetter Γ) := by
  refine ok_intro (by decide +kernel) rfl rfl ?_
  intro av σ K h
  obtain ⟨⟨a, tl⟩, l, len, p0, rfl, hT, hl, hp0, h⟩ := h
  have loop : ∀ n p : Nat, p + n = len → nx l len p = nx l len p0 → YG Γ mX5_nextLetter K 0 [(0, .ref a)] [] (hput σ a (TpE tl len p)) := by
    intro n
    have fin : ∀ p, p ≤ len → nx l len p = nx l len p0 → ¬ (p < len ∧ l p = 32) → YG Γ mX5_nextLetter K 38 [(0, .ref a)] [] (hput σ a (TpE tl len p)) := by
      intro p hp hn hc
      rw [nx_s hc] at hn
      have hT1 := hT.put len p
      refine yvc1_ok (uX5_nextLetter Γ) (S := [0, 38]) 40 ?_
      simp only [yvc1, yvc_s, s1i, s2i, s1l, s2l, sil, s1r, sir, siir, slir, srir, svr, sd1, sd2, lg, lput, ldel, isL_i, isL_r, isL_l, jmp, obj, obj1, fI, fR, arI, arL, arR, hput, f4_0, f4_1, f4_2, f4_3, lc_0, lc_1, rok_i, rok_b, rok_y, strF, fput_1, fput_2, csum_nil, csum_i, csum_l, csum_r, va_up_self, bx_uu, Int.reduceAdd, List.elem_nil, List.elem_cons, List.take_succ_cons, List.take_zero, List.drop_succ_cons, List.drop_zero, List.take_nil, List.drop_nil, List.reverse_cons, List.reverse_nil, List.nil_append, List.cons_append, List.append_nil, Option.toList_some, Option.toList_none, List.getElem?_cons_zero, List.getElem?_cons_succ, List.set_cons_zero, List.set_cons_succ, List.length_cons, List.length_nil, reduceIte, reduceCtorEq, and_true, true_and, and_self, or_true, true_or, false_and, and_false, not_true_eq_false, not_false_eq_true, true_implies, false_implies, implies_true, Nat.reduceAdd, Nat.reduceLT, Nat.reduceEqDiff, Nat.reduceLeDiff, Nat.reduceBEq, Nat.zero_add, Nat.lt_add_one, Bool.false_eq_true, Bool.or_false, Bool.or_true, Bool.or_self, Nat.zero_ne_one, Nat.one_ne_zero, ite_true, ite_false, ne_eq, Nat.reduceSub, Nat.succ_eq_add_one, Nat.zero_lt_succ, Nat.add_one_ne_zero, false_or, or_false, mX5_nextLetter_c, mX5_nextLetter_n, mX5_nextLetter_r, mX5_nextLetter_l, dX5_nextLetter_0, dX5_nextLetter_1, fl_5_19_5, dX5_nextLetter_4, dX5_nextLetter_5, fl_5_15_5, dX5_nextLetter_8, tg_8_30, cnd2_ge, dX5_nextLetter_11, dX5_nextLetter_12, fl_5_9_5, dX5_nextLetter_15, dX5_nextLetter_16, dX5_nextLetter_19, dX5_nextLetter_20, bc_32, dX5_nextLetter_22, tg_22_16, cnd2_ne, dX5_nextLetter_25, dX5_nextLetter_26, dX5_nextLetter_27, dX5_nextLetter_30, ic_1, dX5_nextLetter_31, dX5_nextLetter_32, dX5_nextLetter_35, tg_35_m35, dX5_nextLetter_38, dX5_nextLetter_39, dX5_nextLetter_42, jX5_nextLetter_0_36, st_aload_n, st_bipush, st_dup, st_getfield, st_goto, st_iadd, st_iaload, st_iconst, st_if_icmp, st_invokevirtual, st_ireturn, st_putfield]
      refine ⟨(a, tl), l, len, p, rfl, hT1, hl, by omega, ?_⟩
      rw [← hn] at h
      refine yvc_ok (uX5_nextLetter Γ) (S := []) 40 _ _ _ _ ?_
      simp only [yvc_s, s1i, s2i, s1l, s2l, sil, s1r, sir, siir, slir, srir, svr, sd1, sd2, lg, lput, ldel, isL_i, isL_r, isL_l, jmp, obj, obj1, fI, fR, arI, arL, arR, hput, f4_0, f4_1, f4_2, f4_3, lc_0, lc_1, rok_i, rok_b, rok_y, strF, fput_1, fput_2, csum_nil, csum_i, csum_l, csum_r, va_up_self, bx_uu, Int.reduceAdd, List.elem_nil, List.elem_cons, List.take_succ_cons, List.take_zero, List.drop_succ_cons, List.drop_zero, List.take_nil, List.drop_nil, List.reverse_cons, List.reverse_nil, List.nil_append, List.cons_append, List.append_nil, Option.toList_some, Option.toList_none, List.getElem?_cons_zero, List.getElem?_cons_succ, List.set_cons_zero, List.set_cons_succ, List.length_cons, List.length_nil, reduceIte, reduceCtorEq, and_true, true_and, and_self, or_true, true_or, false_and, and_false, not_true_eq_false, not_false_eq_true, true_implies, false_implies, implies_true, Nat.reduceAdd, Nat.reduceLT, Nat.reduceEqDiff, Nat.reduceLeDiff, Nat.reduceBEq, Nat.zero_add, Nat.lt_add_one, Bool.false_eq_true, Bool.or_false, Bool.or_true, Bool.or_self, Nat.zero_ne_one, Nat.one_ne_zero, ite_true, ite_false, ne_eq, Nat.reduceSub, Nat.succ_eq_add_one, Nat.zero_lt_succ, Nat.add_one_ne_zero, false_or, or_false, mX5_nextLetter_c, mX5_nextLetter_n, mX5_nextLetter_r, mX5_nextLetter_l, dX5_nextLetter_0, dX5_nextLetter_1, fl_5_19_5, dX5_nextLetter_4, dX5_nextLetter_5, fl_5_15_5, dX5_nextLetter_8, tg_8_30, cnd2_ge, dX5_nextLetter_11, dX5_nextLetter_12, fl_5_9_5, dX5_nextLetter_15, dX5_nextLetter_16, dX5_nextLetter_19, dX5_nextLetter_20, bc_32, dX5_nextLetter_22, tg_22_16, cnd2_ne, dX5_nextLetter_25, dX5_nextLetter_26, dX5_nextLetter_27, dX5_nextLetter_30, ic_1, dX5_nextLetter_31, dX5_nextLetter_32, dX5_nextLetter_35, tg_35_m35, dX5_nextLetter_38, dX5_nextLetter_39, dX5_nextLetter_42, jX5_nextLetter_0_36, st_aload_n, st_bipush, st_dup, st_getfield, st_goto, st_iadd, st_iaload, st_iconst, st_if_icmp, st_invokevirtual, st_ireturn, st_putfield]
      exact h
    induction n with
    | zero =>
      intro p hp hn
      have hf := fin p (by omega) hn (by omega)
      have hT1 := hT.put len p
      clear fin
      simp only at hT1 hf ⊢
      generalize hput σ a (TpE tl len p) = σ1 at hT1 hf ⊢
      obtain ⟨⟨m1, m2⟩, e1, e2⟩ := hT1
      simp only [TpE, iA] at m1 m2 e1 e2
      refine yvc1_ok (uX5_nextLetter Γ) (S := [0, 38]) 40 ?_
      simp only [yvc1, m1, m2, e1, e2, pl_ge hl (show p < 100 by omega), show ¬ p < len by omega, yvc_s, s1i, s2i, s1l, s2l, sil, s1r, sir, siir, slir, srir, svr, sd1, sd2, lg, lput, ldel, isL_i, isL_r, isL_l, jmp, obj, obj1, fI, fR, arI, arL, arR, hput, f4_0, f4_1, f4_2, f4_3, lc_0, lc_1, rok_i, rok_b, rok_y, strF, fput_1, fput_2, csum_nil, csum_i, csum_l, csum_r, va_up_self, bx_uu, Int.reduceAdd, List.elem_nil, List.elem_cons, List.take_succ_cons, List.take_zero, List.drop_succ_cons, List.drop_zero, List.take_nil, List.drop_nil, List.reverse_cons, List.reverse_nil, List.nil_append, List.cons_append, List.append_nil, Option.toList_some, Option.toList_none, List.getElem?_cons_zero, List.getElem?_cons_succ, List.set_cons_zero, List.set_cons_succ, List.length_cons, List.length_nil, reduceIte, reduceCtorEq, and_true, true_and, and_self, or_true, true_or, false_and, and_false, not_true_eq_false, not_false_eq_true, true_implies, false_implies, implies_true, Nat.reduceAdd, Nat.reduceLT, Nat.reduceEqDiff, Nat.reduceLeDiff, Nat.reduceBEq, Nat.zero_add, Nat.lt_add_one, Bool.false_eq_true, Bool.or_false, Bool.or_true, Bool.or_self, Nat.zero_ne_one, Nat.one_ne_zero, ite_true, ite_false, ne_eq, Nat.reduceSub, Nat.succ_eq_add_one, Nat.zero_lt_succ, Nat.add_one_ne_zero, false_or, or_false, mX5_nextLetter_c, mX5_nextLetter_n, mX5_nextLetter_r, mX5_nextLetter_l, dX5_nextLetter_0, dX5_nextLetter_1, fl_5_19_5, dX5_nextLetter_4, dX5_nextLetter_5, fl_5_15_5, dX5_nextLetter_8, tg_8_30, cnd2_ge, dX5_nextLetter_11, dX5_nextLetter_12, fl_5_9_5, dX5_nextLetter_15, dX5_nextLetter_16, dX5_nextLetter_19, dX5_nextLetter_20, bc_32, dX5_nextLetter_22, tg_22_16, cnd2_ne, dX5_nextLetter_25, dX5_nextLetter_26, dX5_nextLetter_27, dX5_nextLetter_30, ic_1, dX5_nextLetter_31, dX5_nextLetter_32, dX5_nextLetter_35, tg_35_m35, dX5_nextLetter_38, dX5_nextLetter_39, dX5_nextLetter_42, jX5_nextLetter_0_36, st_aload_n, st_bipush, st_dup, st_getfield, st_goto, st_iadd, st_iaload, st_iconst, st_if_icmp, st_invokevirtual, st_ireturn, st_putfield]
      exact hf
    | succ n ih =>
      intro p hp hn
      have hf := fun hc => fin p (by omega) hn hc
      have hT1 := hT.put len p
      have hi := ih (p + 1) (by omega)
      have hh : hput (hput σ a (TpE tl len p)) a (TpE tl len (p + 1)) = hput σ a (TpE tl len (p + 1)) := hput_hput
      rw [← hh] at hi
      clear hh ih fin
      simp only at hT1 hf hi ⊢
      generalize hput σ a (TpE tl len p) = σ1 at hT1 hf hi ⊢
      obtain ⟨⟨m1, m2⟩, e1, e2⟩ := hT1
      simp only [TpE, iA, hput] at m1 m2 e1 e2 hi
      refine yvc1_ok (uX5_nextLetter Γ) (S := [0, 38]) 40 ?_
      simp only [yvc1, m1, m2, e1, e2, pl_ge hl (show p < 100 by omega), show p < len by omega, in50 hl (show p < len by omega), cl50 (show p < 100 by omega), nI_1, yvc_s, s1i, s2i, s1l, s2l, sil, s1r, sir, siir, slir, srir, svr, sd1, sd2, lg, lput, ldel, isL_i, isL_r, isL_l, jmp, obj, obj1, fI, fR, arI, arL, arR, hput, f4_0, f4_1, f4_2, f4_3, lc_0, lc_1, rok_i, rok_b, rok_y, strF, fput_1, fput_2, csum_nil, csum_i, csum_l, csum_r, va_up_self, bx_uu, Int.reduceAdd, List.elem_nil, List.elem_cons, List.take_succ_cons, List.take_zero, List.drop_succ_cons, List.drop_zero, List.take_nil, List.drop_nil, List.reverse_cons, List.reverse_nil, List.nil_append, List.cons_append, List.append_nil, Option.toList_some, Option.toList_none, List.getElem?_cons_zero, List.getElem?_cons_succ, List.set_cons_zero, List.set_cons_succ, List.length_cons, List.length_nil, reduceIte, reduceCtorEq, and_true, true_and, and_self, or_true, true_or, false_and, and_false, not_true_eq_false, not_false_eq_true, true_implies, false_implies, implies_true, Nat.reduceAdd, Nat.reduceLT, Nat.reduceEqDiff, Nat.reduceLeDiff, Nat.reduceBEq, Nat.zero_add, Nat.lt_add_one, Bool.false_eq_true, Bool.or_false, Bool.or_true, Bool.or_self, Nat.zero_ne_one, Nat.one_ne_zero, ite_true, ite_false, ne_eq, Nat.reduceSub, Nat.succ_eq_add_one, Nat.zero_lt_succ, Nat.add_one_ne_zero, false_or, or_false, mX5_nextLetter_c, mX5_nextLetter_n, mX5_nextLetter_r, mX5_nextLetter_l, dX5_nextLetter_0, dX5_nextLetter_1, fl_5_19_5, dX5_nextLetter_4, dX5_nextLetter_5, fl_5_15_5, dX5_nextLetter_8, tg_8_30, cnd2_ge, dX5_nextLetter_11, dX5_nextLetter_12, fl_5_9_5, dX5_nextLetter_15, dX5_nextLetter_16, dX5_nextLetter_19, dX5_nextLetter_20, bc_32, dX5_nextLetter_22, tg_22_16, cnd2_ne, dX5_nextLetter_25, dX5_nextLetter_26, dX5_nextLetter_27, dX5_nextLetter_30, ic_1, dX5_nextLetter_31, dX5_nextLetter_32, dX5_nextLetter_35, tg_35_m35, dX5_nextLetter_38, dX5_nextLetter_39, dX5_nextLetter_42, jX5_nextLetter_0_36, st_aload_n, st_bipush, st_dup, st_getfield, st_goto, st_iadd, st_iaload, st_iconst, st_if_icmp, st_invokevirtual, st_ireturn, st_putfield]
      refine ⟨fun c => hf (fun z => c z.2), fun c => hi ?_⟩
      rw [← nx_b (by omega) (Classical.not_not.mp c)]
      exact hn
  have hl0 := loop (len - p0) p0 (by omega) rfl
  rw [hput_self hT.2.1] at hl0
  refine ⟨Nat.le_of_ble_eq_true rfl, ?_⟩
  simp only [lv_args, Value.category]
  exact hl0
def isd (x : Int32) : Bool := inr x 48 57
def sp_X5_isDigit (_ : Cx) : YSp := fun av σ K => match av with | [.int v] => K (some (.int (bI (isd v)))) σ | _ => False
theorem mono_X5_isDigit {Γ : Cx} : Mono (sp_X5_isDigit Γ) := by
  intro av σ K K' hk h
  unfold sp_X5_isDigit at h ⊢
  split at h
  · exact hk _ _ h
  · exact h.elim
theorem rv_X5_isDigit {Γ : Cx} : Args (sp_X5_isDigit Γ) 1 := by
  intro av σ K h
  unfold sp_X5_isDigit at h
  split at h
  · rfl
  · exact h.elim
theorem nw_345 : Cond.methodLinkNest RX5 39 yX6_within "YawnKeys" ∈ nestW := List.mem_filter.mpr ⟨List.mem_of_getElem? (i := 345) (by decide +kernel), rfl⟩
theorem bc_48 : (Int8.ofInt 48).toInt32 = 48 := by decide
theorem bc_57 : (Int8.ofInt 57).toInt32 = 57 := by decide
def mX5_isDigit : Mt := (⟨1, 0, 0, 22⟩, RX5, cX5_isDigit, 1, some .boolean, (0, 0), none)
theorem mX5_isDigit_c : mX5_isDigit.2.2.1 = cX5_isDigit := rfl
theorem mX5_isDigit_n : mX5_isDigit.2.2.2.1 = 1 := rfl
theorem mX5_isDigit_r : mX5_isDigit.2.2.2.2.1 = some .boolean := rfl
theorem mX5_isDigit_l : mX5_isDigit.2.2.2.2.2.2 = none := rfl
def jX5_isDigit (Γ : Cx) : List ((Nat × Nat) × Nat × Bool × YSp) := [((1, 39), 3, true, sp_X6_within Γ)]
theorem jX5_isDigit_1_39 (Γ : Cx) : kT (jX5_isDigit Γ) 1 39 = some (3, true, sp_X6_within Γ) := rfl
theorem uX5_isDigit (Γ : Cx) : TbOK Γ mX5_isDigit (fT fX5, cT kX5, kT (jX5_isDigit Γ)) := tb_ok fX5_ok kX5_ok (all_cons ⟨call_SN (n := 3) (ok_X6_within Γ) (rv_X6_within (Γ := Γ)) bw_241 nw_345 bw_240 bw_42 no_X6_within ⟨⟨rfl, rfl⟩, ⟨by decide, by decide⟩, ⟨by decide, by decide⟩⟩, fun _ => mono_X6_within (Γ := Γ)⟩ (all_nil))
set_option maxRecDepth 20000 in
theorem ok_X5_isDigit (Γ : Cx) : Ok Γ yX5_isDigit mX5_isDigit (sp_X5_isDigit Γ) := by
  refine ok_intro (by decide +kernel) rfl rfl ?_
  intro av σ K h
  unfold sp_X5_isDigit at h
  split at h
  · next v =>
    refine ⟨Nat.le_of_ble_eq_true rfl, yvc_ok (uX5_isDigit Γ) (S := []) 40 _ _ _ _ ?_⟩
    simp only [lv_args, Value.category, sp_X6_within, yvc_s, s1i, s2i, s1l, s2l, sil, s1r, sir, siir, slir, srir, svr, sd1, sd2, lg, lput, ldel, isL_i, isL_r, isL_l, jmp, obj, obj1, fI, fR, arI, arL, arR, hput, f4_0, f4_1, f4_2, f4_3, lc_0, lc_1, rok_i, rok_b, rok_y, strF, fput_1, fput_2, csum_nil, csum_i, csum_l, csum_r, va_up_self, bx_uu, Int.reduceAdd, List.elem_nil, List.elem_cons, List.take_succ_cons, List.take_zero, List.drop_succ_cons, List.drop_zero, List.take_nil, List.drop_nil, List.reverse_cons, List.reverse_nil, List.nil_append, List.cons_append, List.append_nil, Option.toList_some, Option.toList_none, List.getElem?_cons_zero, List.getElem?_cons_succ, List.set_cons_zero, List.set_cons_succ, List.length_cons, List.length_nil, reduceIte, reduceCtorEq, and_true, true_and, and_self, or_true, true_or, false_and, and_false, not_true_eq_false, not_false_eq_true, true_implies, false_implies, implies_true, Nat.reduceAdd, Nat.reduceLT, Nat.reduceEqDiff, Nat.reduceLeDiff, Nat.reduceBEq, Nat.zero_add, Nat.lt_add_one, Bool.false_eq_true, Bool.or_false, Bool.or_true, Bool.or_self, Nat.zero_ne_one, Nat.one_ne_zero, ite_true, ite_false, ne_eq, Nat.reduceSub, Nat.succ_eq_add_one, Nat.zero_lt_succ, Nat.add_one_ne_zero, false_or, or_false, mX5_isDigit_c, mX5_isDigit_n, mX5_isDigit_r, mX5_isDigit_l, dX5_isDigit_0, dX5_isDigit_1, bc_48, dX5_isDigit_3, bc_57, dX5_isDigit_5, dX5_isDigit_8, jX5_isDigit_1_39, st_bipush, st_iload_n, st_invokestatic, st_ireturn]
    exact ⟨bI_01, h⟩
  · exact h.elim
def sp_X5_append (Γ : Cx) : YSp := fun av σ K => ∃ (A : Nat × Nat) (l : Nat → Int32) (len p : Nat) (x : Int32), av = [.ref A.1, .int x] ∧ Tp Γ A l len p σ ∧ len < 50 ∧ ∀ σ', frm (SF A) σ σ' → Tp Γ A (upd l len x) (len + 1) p σ' → K (some (.int (nI (len + 1)))) σ'
theorem rv_X5_append {Γ : Cx} : Recv (sp_X5_append Γ) 1 5 := by
  intro av σ K h
  obtain ⟨A, l, len, p, x, rfl, hc, -⟩ := h
  obtain ⟨fs, h1, h2⟩ := tp_rv hc
  exact ⟨_, _, fs, rfl, rfl, h1, h2⟩
def mX5_append : Mt := (⟨0, 0, 0, 0⟩, RX5, cX5_append, 2, some .int, (0, 0), none)
theorem mX5_append_c : mX5_append.2.2.1 = cX5_append := rfl
theorem mX5_append_n : mX5_append.2.2.2.1 = 2 := rfl
theorem mX5_append_r : mX5_append.2.2.2.2.1 = some .int := rfl
theorem mX5_append_l : mX5_append.2.2.2.2.2.2 = none := rfl
def jX5_append (Γ : Cx) : List ((Nat × Nat) × Nat × Bool × YSp) := []
theorem uX5_append (Γ : Cx) : TbOK Γ mX5_append (fT fX5, cT kX5, kT (jX5_append Γ)) := tb_ok fX5_ok kX5_ok (all_nil)
set_option maxRecDepth 20000 in
theorem ok_X5_append (Γ : Cx) : Ok Γ yX5_append mX5_append (sp_X5_append Γ) := by
  refine ok_intro (by decide +kernel) rfl rfl ?_
  intro av σ K h
  obtain ⟨⟨a, tl⟩, l, len, p, x, rfl, hT, hl, h⟩ := h
  have hne := hT.ne
  have hT1 : Tp Γ (a, tl) (upd l len x) len p (hput σ tl (iA Γ 50 (upd l len x))) := ⟨hT.1, by simp only [hput]; rw [va_up_ne _ _ hne]; exact hT.2.1, by simp only [hput, va_up_self]⟩
  have hk := h _ ((hput_frm (F := SF (a, tl)) (Or.inr rfl)).tr (hput_frm (Or.inl rfl))) (hT1.put (len + 1) p)
  obtain ⟨⟨m1, m2⟩, e1, e2⟩ := hT
  simp only [TpE, iA, hput] at m1 m2 e1 e2 hk hne
  refine ⟨Nat.le_of_ble_eq_true rfl, yvc_ok (uX5_append Γ) (S := []) 40 _ _ _ _ ?_⟩
  simp only [lv_args, Value.category, m1, m2, e1, e2, in50 (show len + 1 ≤ 50 by omega) (show len < len + 1 by omega), cl50 (show len < 100 by omega), nI_1, va_up_ne, ne_eq, hne, not_false_eq_true, yvc_s, s1i, s2i, s1l, s2l, sil, s1r, sir, siir, slir, srir, svr, sd1, sd2, lg, lput, ldel, isL_i, isL_r, isL_l, jmp, obj, obj1, fI, fR, arI, arL, arR, hput, f4_0, f4_1, f4_2, f4_3, lc_0, lc_1, rok_i, rok_b, rok_y, strF, fput_1, fput_2, csum_nil, csum_i, csum_l, csum_r, va_up_self, bx_uu, Int.reduceAdd, List.elem_nil, List.elem_cons, List.take_succ_cons, List.take_zero, List.drop_succ_cons, List.drop_zero, List.take_nil, List.drop_nil, List.reverse_cons, List.reverse_nil, List.nil_append, List.cons_append, List.append_nil, Option.toList_some, Option.toList_none, List.getElem?_cons_zero, List.getElem?_cons_succ, List.set_cons_zero, List.set_cons_succ, List.length_cons, List.length_nil, reduceIte, reduceCtorEq, and_true, true_and, and_self, or_true, true_or, false_and, and_false, not_true_eq_false, not_false_eq_true, true_implies, false_implies, implies_true, Nat.reduceAdd, Nat.reduceLT, Nat.reduceEqDiff, Nat.reduceLeDiff, Nat.reduceBEq, Nat.zero_add, Nat.lt_add_one, Bool.false_eq_true, Bool.or_false, Bool.or_true, Bool.or_self, Nat.zero_ne_one, Nat.one_ne_zero, ite_true, ite_false, ne_eq, Nat.reduceSub, Nat.succ_eq_add_one, Nat.zero_lt_succ, Nat.add_one_ne_zero, false_or, or_false, mX5_append_c, mX5_append_n, mX5_append_r, mX5_append_l, dX5_append_0, dX5_append_1, fl_5_9_5, dX5_append_4, dX5_append_5, fl_5_15_5, dX5_append_8, dX5_append_9, dX5_append_10, dX5_append_11, dX5_append_12, dX5_append_15, ic_1, dX5_append_16, dX5_append_17, dX5_append_20, dX5_append_21, dX5_append_24, st_aload_n, st_dup, st_getfield, st_iadd, st_iastore, st_iconst, st_iload_n, st_ireturn, st_putfield]
  exact hk
