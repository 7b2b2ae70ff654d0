/-! ===== Sheet ===== -/
/-- items, lane, size -/
abbrev SS : Type := (Nat → Int64) × Int32 × Int32
def ShE (ai : Nat) (s : SS) : va_E := .inr (4, [.ref ai, .int s.2.1, .int s.2.2])
def Sh (Γ : Cx) (A : Nat × Nat) (s : SS) (σ : Hp) : Prop := (A.1 ∈ σ.1 ∧ A.2 ∈ σ.1) ∧ σ.2 A.1 = ShE A.2 s ∧ σ.2 A.2 = lA Γ 24 s.1
def shset (Γ : Cx) (A : Nat × Nat) (s : SS) (σ : Hp) : Hp := (σ.1, va_up (va_up σ.2 A.1 (ShE A.2 s)) A.2 (lA Γ 24 s.1))
theorem shE_lA {Γ : Cx} {ai : Nat} {s : SS} {n : Nat} {f : Nat → Int64} : ShE ai s ≠ lA Γ n f := fun e => by unfold ShE lA at e; cases e
theorem Sh.ne {Γ : Cx} {A : Nat × Nat} {s : SS} {σ : Hp} (h : Sh Γ A s σ) : A.1 ≠ A.2 := ne_of h.2.1 h.2.2 shE_lA
theorem Sh.set {Γ : Cx} {A : Nat × Nat} {s : SS} {σ : Hp} (h : Sh Γ A s σ) (s' : SS) : Sh Γ A s' (shset Γ A s' σ) := by
  refine ⟨h.1, ?_, ?_⟩
  · simp only [shset, va_up, if_neg h.ne, ↓reduceIte]
  · simp only [shset, va_up, ↓reduceIte]
theorem shset_shset {Γ : Cx} {A : Nat × Nat} {s s' : SS} {σ : Hp} : shset Γ A s' (shset Γ A s σ) = shset Γ A s' σ := by
  refine Prod.ext rfl (funext fun q => ?_)
  simp only [shset, va_up]
  by_cases c2 : q = A.2 <;> by_cases c1 : q = A.1 <;> simp only [c1, c2, ↓reduceIte]
theorem Sh.self {Γ : Cx} {A : Nat × Nat} {s : SS} {σ : Hp} (h : Sh Γ A s σ) : shset Γ A s σ = σ := by
  refine Prod.ext rfl (funext fun q => ?_)
  simp only [shset, va_up]
  by_cases c2 : q = A.2
  · rw [if_pos c2, c2]; exact h.2.2.symm
  · rw [if_neg c2]
    by_cases c1 : q = A.1
    · rw [if_pos c1, c1]; exact h.2.1.symm
    · rw [if_neg c1]
theorem Sh.putO {Γ : Cx} {A : Nat × Nat} {s : SS} {σ : Hp} (h : Sh Γ A s σ) (x : Int32 × Int32) : hput σ A.1 (ShE A.2 (s.1, x)) = shset Γ A (s.1, x) σ := by
  refine Prod.ext rfl (funext fun q => ?_)
  simp only [shset, hput, va_up]
  by_cases c2 : q = A.2
  · rw [if_pos c2, if_neg (c2 ▸ h.ne.symm), c2]; exact h.2.2
  · rw [if_neg c2]
theorem Sh.putA {Γ : Cx} {A : Nat × Nat} {s : SS} {σ : Hp} (h : Sh Γ A s σ) (f : Nat → Int64) : hput σ A.2 (lA Γ 24 f) = shset Γ A (f, s.2) σ := by
  refine Prod.ext rfl (funext fun q => ?_)
  simp only [shset, hput, va_up]
  by_cases c2 : q = A.2
  · rw [if_pos c2, if_pos c2]
  · rw [if_neg c2, if_neg c2]
    by_cases c1 : q = A.1
    · rw [if_pos c1, c1]; exact h.2.1
    · rw [if_neg c1]
def SF (A : Nat × Nat) (q : Nat) : Prop := q = A.1 ∨ q = A.2
theorem shset_frm {Γ : Cx} {A : Nat × Nat} {s : SS} {σ : Hp} : frm (SF A) σ (shset Γ A s σ) := ⟨rfl, fun q hq => by
  simp only [shset, va_up]
  rw [if_neg (fun z => hq (Or.inr z)), if_neg (fun z => hq (Or.inl z))]⟩
theorem Sh.keep {Γ : Cx} {A : Nat × Nat} {s : SS} {σ σ' : Hp} (h : Sh Γ A s σ) (h1 : σ'.1 = σ.1) (h2 : ∀ q, SF A q → σ'.2 q = σ.2 q) : Sh Γ A s σ' := by
  obtain ⟨m, e1, e2⟩ := h
  exact ⟨by rw [h1]; exact m, (h2 _ (Or.inl rfl)).trans e1, (h2 _ (Or.inr rfl)).trans e2⟩
theorem sh_rv {Γ : Cx} {A : Nat × Nat} {s : SS} {σ : Hp} (h : Sh Γ A s σ) : ∃ fs, A.1 ∈ σ.1 ∧ σ.2 A.1 = .inr (4, fs) := ⟨_, h.1.1, h.2.1⟩
def sp_X4_isMissing (_ : Cx) : YSp := fun av σ K => match av with | [.ref a] => obj1 σ a 4 fun fs => fI fs 2 fun z => K (some (.int (bI (decide (z = -1))))) σ | _ => False
theorem mono_X4_isMissing {Γ : Cx} : Mono (sp_X4_isMissing Γ) := by
  intro av σ K K' hk h
  unfold sp_X4_isMissing at h ⊢
  split at h
  · exact obj1_mono (fun _ h => fI_mono (fun _ h => hk _ _ h) h) h
  · exact h.elim
theorem rv_X4_isMissing {Γ : Cx} : Recv (sp_X4_isMissing Γ) 0 4 := by
  intro av σ K h
  unfold sp_X4_isMissing at h
  split at h
  · obtain ⟨fs, h1, h2, -⟩ := obj1_recv h
    exact ⟨_, _, fs, rfl, rfl, h1, h2⟩
  · exact h.elim
theorem ic_m1 : Int32.ofInt (-1) = (-1) := by decide
theorem tg_5_7 : tgo 5 7 = some 12 := by decide
theorem tg_9_4 : tgo 9 4 = some 13 := by decide
def mX4_isMissing : Mt := (⟨0, 0, 0, 0⟩, RX4, cX4_isMissing, 1, some .boolean, (0, 0), none)
theorem mX4_isMissing_c : mX4_isMissing.2.2.1 = cX4_isMissing := rfl
theorem mX4_isMissing_n : mX4_isMissing.2.2.2.1 = 1 := rfl
theorem mX4_isMissing_r : mX4_isMissing.2.2.2.2.1 = some .boolean := rfl
theorem mX4_isMissing_l : mX4_isMissing.2.2.2.2.2.2 = none := rfl
def jX4_isMissing (Γ : Cx) : List ((Nat × Nat) × Nat × Bool × YSp) := []
theorem uX4_isMissing (Γ : Cx) : TbOK Γ mX4_isMissing (fT fX4, cT kX4, kT (jX4_isMissing Γ)) := tb_ok fX4_ok kX4_ok (all_nil)
set_option maxRecDepth 20000 in
theorem ok_X4_isMissing (Γ : Cx) : Ok Γ yX4_isMissing mX4_isMissing (sp_X4_isMissing Γ) := by
  refine ok_intro (by decide +kernel) rfl rfl ?_
  intro av σ K h
  unfold sp_X4_isMissing at h
  split at h
  · next a =>
    obtain ⟨fs, h1, h2, h⟩ := obj1_recv h
    obtain ⟨z, h3, h⟩ := fI_recv h
    refine ⟨Nat.le_of_ble_eq_true rfl, yvc_ok (uX4_isMissing Γ) (S := []) 40 _ _ _ _ ?_⟩
    simp only [lv_args, Value.category, h1, h2, h3, yvc_s, s1i, s2i, s1l, s2l, sil, s1r, sir, siir, slir, srir, svr, sd1, sd2, lg, lput, ldel, isL_i, isL_r, isL_l, jmp, obj, obj1, fI, fR, arI, arL, arR, hput, f4_0, f4_1, f4_2, f4_3, lc_0, lc_1, rok_i, rok_b, rok_y, strF, fput_1, fput_2, csum_nil, csum_i, csum_l, csum_r, va_up_self, bx_uu, Int.reduceAdd, List.elem_nil, List.elem_cons, List.take_succ_cons, List.take_zero, List.drop_succ_cons, List.drop_zero, List.take_nil, List.drop_nil, List.reverse_cons, List.reverse_nil, List.nil_append, List.cons_append, List.append_nil, Option.toList_some, Option.toList_none, List.getElem?_cons_zero, List.getElem?_cons_succ, List.set_cons_zero, List.set_cons_succ, List.length_cons, List.length_nil, reduceIte, reduceCtorEq, and_true, true_and, and_self, or_true, true_or, false_and, and_false, not_true_eq_false, not_false_eq_true, true_implies, false_implies, implies_true, Nat.reduceAdd, Nat.reduceLT, Nat.reduceEqDiff, Nat.reduceLeDiff, Nat.reduceBEq, Nat.zero_add, Nat.lt_add_one, Bool.false_eq_true, Bool.or_false, Bool.or_true, Bool.or_self, Nat.zero_ne_one, Nat.one_ne_zero, ite_true, ite_false, ne_eq, Nat.reduceSub, Nat.succ_eq_add_one, Nat.zero_lt_succ, Nat.add_one_ne_zero, false_or, or_false, mX4_isMissing_c, mX4_isMissing_n, mX4_isMissing_r, mX4_isMissing_l, dX4_isMissing_0, dX4_isMissing_1, fl_4_19_4, dX4_isMissing_4, ic_m1, dX4_isMissing_5, tg_5_7, cnd2_ne, dX4_isMissing_8, ic_1, dX4_isMissing_9, tg_9_4, dX4_isMissing_12, ic_0, dX4_isMissing_13, st_aload_n, st_getfield, st_goto, st_iconst, st_if_icmp, st_ireturn]
    refine ⟨fun c => ?_, fun c => ?_⟩
    · rw [decide_eq_false c] at h
      exact h
    · rw [decide_eq_true (Classical.not_not.mp c)] at h
      exact h
  · exact h.elim
def spn (z i n : Int32) : Bool := decide (0 ≤ n) && (decide (0 ≤ i) && decide (i ≤ z - n))
def sp_X4_spans (_ : Cx) : YSp := fun av σ K => match av with | [.ref a, .int i, .int n] => obj1 σ a 4 fun fs => fI fs 2 fun z => K (some (.int (bI (spn z i n)))) σ | _ => False
theorem mono_X4_spans {Γ : Cx} : Mono (sp_X4_spans Γ) := by
  intro av σ K K' hk h
  unfold sp_X4_spans at h ⊢
  split at h
  · exact obj1_mono (fun _ h => fI_mono (fun _ h => hk _ _ h) h) h
  · exact h.elim
theorem rv_X4_spans {Γ : Cx} : Recv (sp_X4_spans Γ) 2 4 := by
  intro av σ K h
  unfold sp_X4_spans at h
  split at h
  · obtain ⟨fs, h1, h2, -⟩ := obj1_recv h
    exact ⟨_, _, fs, rfl, rfl, h1, h2⟩
  · exact h.elim
theorem tg_1_21 : tgo 1 21 = some 22 := by decide
theorem tg_5_17 : tgo 5 17 = some 22 := by decide
theorem tg_15_7 : tgo 15 7 = some 22 := by decide
theorem tg_19_4 : tgo 19 4 = some 23 := by decide
def mX4_spans : Mt := (⟨0, 0, 0, 0⟩, RX4, cX4_spans, 3, some .boolean, (0, 0), none)
theorem mX4_spans_c : mX4_spans.2.2.1 = cX4_spans := rfl
theorem mX4_spans_n : mX4_spans.2.2.2.1 = 3 := rfl
theorem mX4_spans_r : mX4_spans.2.2.2.2.1 = some .boolean := rfl
theorem mX4_spans_l : mX4_spans.2.2.2.2.2.2 = none := rfl
def jX4_spans (Γ : Cx) : List ((Nat × Nat) × Nat × Bool × YSp) := []
theorem uX4_spans (Γ : Cx) : TbOK Γ mX4_spans (fT fX4, cT kX4, kT (jX4_spans Γ)) := tb_ok fX4_ok kX4_ok (all_nil)
set_option maxRecDepth 20000 in
theorem ok_X4_spans (Γ : Cx) : Ok Γ yX4_spans mX4_spans (sp_X4_spans Γ) := by
  refine ok_intro (by decide +kernel) rfl rfl ?_
  intro av σ K h
  unfold sp_X4_spans at h
  split at h
  · next a i n =>
    obtain ⟨fs, h1, h2, h⟩ := obj1_recv h
    obtain ⟨z, h3, h⟩ := fI_recv h
    refine ⟨Nat.le_of_ble_eq_true rfl, yvc_ok (uX4_spans Γ) (S := []) 40 _ _ _ _ ?_⟩
    simp only [lv_args, Value.category, h1, h2, h3, yvc_s, s1i, s2i, s1l, s2l, sil, s1r, sir, siir, slir, srir, svr, sd1, sd2, lg, lput, ldel, isL_i, isL_r, isL_l, jmp, obj, obj1, fI, fR, arI, arL, arR, hput, f4_0, f4_1, f4_2, f4_3, lc_0, lc_1, rok_i, rok_b, rok_y, strF, fput_1, fput_2, csum_nil, csum_i, csum_l, csum_r, va_up_self, bx_uu, Int.reduceAdd, List.elem_nil, List.elem_cons, List.take_succ_cons, List.take_zero, List.drop_succ_cons, List.drop_zero, List.take_nil, List.drop_nil, List.reverse_cons, List.reverse_nil, List.nil_append, List.cons_append, List.append_nil, Option.toList_some, Option.toList_none, List.getElem?_cons_zero, List.getElem?_cons_succ, List.set_cons_zero, List.set_cons_succ, List.length_cons, List.length_nil, reduceIte, reduceCtorEq, and_true, true_and, and_self, or_true, true_or, false_and, and_false, not_true_eq_false, not_false_eq_true, true_implies, false_implies, implies_true, Nat.reduceAdd, Nat.reduceLT, Nat.reduceEqDiff, Nat.reduceLeDiff, Nat.reduceBEq, Nat.zero_add, Nat.lt_add_one, Bool.false_eq_true, Bool.or_false, Bool.or_true, Bool.or_self, Nat.zero_ne_one, Nat.one_ne_zero, ite_true, ite_false, ne_eq, Nat.reduceSub, Nat.succ_eq_add_one, Nat.zero_lt_succ, Nat.add_one_ne_zero, false_or, or_false, mX4_spans_c, mX4_spans_n, mX4_spans_r, mX4_spans_l, dX4_spans_0, dX4_spans_1, tg_1_21, cnd1_lt, dX4_spans_4, dX4_spans_5, tg_5_17, dX4_spans_8, dX4_spans_9, dX4_spans_10, fl_4_19_4, dX4_spans_13, dX4_spans_14, dX4_spans_15, tg_15_7, cnd2_gt, dX4_spans_18, ic_1, dX4_spans_19, tg_19_4, dX4_spans_22, ic_0, dX4_spans_23, st_aload_n, st_getfield, st_goto, st_iconst, st_ifCond, st_if_icmp, st_iload_n, st_ireturn, st_isub]
    unfold spn at h
    refine ⟨fun c => ?_, fun c => ⟨fun d => ?_, fun d => ⟨fun e => ?_, fun e => ?_⟩⟩⟩
    · rw [decide_eq_false (i_nle.mpr c), Bool.false_and] at h
      exact h
    · rw [decide_eq_true (i_nlt.mp c), decide_eq_false (i_nle.mpr d), Bool.false_and, Bool.and_false] at h
      exact h
    · rw [decide_eq_true (i_nlt.mp c), decide_eq_true (i_nlt.mp d), decide_eq_false (i_nle.mpr e)] at h
      exact h
    · rw [decide_eq_true (i_nlt.mp c), decide_eq_true (i_nlt.mp d), decide_eq_true (i_nlt.mp e)] at h
      exact h
  · exact h.elim
def rfz (lane z l i n : Int32) : Int32 := if z = -1 then -11 else if l = lane then (if spn z i n = true then 0 else -13) else -12
def sp_X4_refusal (_ : Cx) : YSp := fun av σ K => match av with | [.ref a, .int l, .int i, .int n] => obj1 σ a 4 fun fs => fI fs 1 fun lane => fI fs 2 fun z => K (some (.int (rfz lane z l i n))) σ | _ => False
theorem mono_X4_refusal {Γ : Cx} : Mono (sp_X4_refusal Γ) := by
  intro av σ K K' hk h
  unfold sp_X4_refusal at h ⊢
  split at h
  · exact obj1_mono (fun _ h => fI_mono (fun _ h => fI_mono (fun _ h => hk _ _ h) h) h) h
  · exact h.elim
theorem rv_X4_refusal {Γ : Cx} : Recv (sp_X4_refusal Γ) 3 4 := by
  intro av σ K h
  unfold sp_X4_refusal at h
  split at h
  · obtain ⟨fs, h1, h2, -⟩ := obj1_recv h
    exact ⟨_, _, fs, rfl, rfl, h1, h2⟩
  · exact h.elim
theorem bw_654 : Cond.code yX4_isMissing cX4_isMissing 1 (some .boolean) ∈ BW := bw_i 654 (by decide +kernel) (by decide +kernel)
theorem bw_48 : Cond.initialized RX4 ∈ BW := bw_i 48 (by decide +kernel) (by decide +kernel)
theorem no_X4_isMissing : NameOK yX4_isMissing 0 := by unfold NameOK; decide +kernel
theorem bw_651 : Cond.methodLink RX4 22 yX4_isMissing ∈ BW := bw_i 651 (by decide +kernel) (by decide +kernel)
theorem bw_652 : Cond.instanceMethod yX4_isMissing ∈ BW := bw_i 652 (by decide +kernel) (by decide +kernel)
theorem bw_653 : Cond.selects RX4 yX4_isMissing yX4_isMissing ∈ BW := bw_i 653 (by decide +kernel) (by decide +kernel)
theorem bw_658 : Cond.code yX4_spans cX4_spans 3 (some .boolean) ∈ BW := bw_i 658 (by decide +kernel) (by decide +kernel)
theorem no_X4_spans : NameOK yX4_spans 2 := by unfold NameOK; decide +kernel
theorem bw_655 : Cond.methodLink RX4 26 yX4_spans ∈ BW := bw_i 655 (by decide +kernel) (by decide +kernel)
theorem bw_656 : Cond.instanceMethod yX4_spans ∈ BW := bw_i 656 (by decide +kernel) (by decide +kernel)
theorem bw_657 : Cond.selects RX4 yX4_spans yX4_spans ∈ BW := bw_i 657 (by decide +kernel) (by decide +kernel)
theorem tg_4_6 : tgo 4 6 = some 10 := by decide
theorem bc_m11 : (Int8.ofInt (-11)).toInt32 = (-11) := by decide
theorem tg_15_6 : tgo 15 6 = some 21 := by decide
theorem bc_m12 : (Int8.ofInt (-12)).toInt32 = (-12) := by decide
theorem tg_27_7 : tgo 27 7 = some 34 := by decide
theorem tg_31_5 : tgo 31 5 = some 36 := by decide
theorem bc_m13 : (Int8.ofInt (-13)).toInt32 = (-13) := by decide
def mX4_refusal : Mt := (⟨1, 0, 0, 22⟩, RX4, cX4_refusal, 4, some .int, (0, 0), none)
theorem mX4_refusal_c : mX4_refusal.2.2.1 = cX4_refusal := rfl
theorem mX4_refusal_n : mX4_refusal.2.2.2.1 = 4 := rfl
theorem mX4_refusal_r : mX4_refusal.2.2.2.2.1 = some .int := rfl
theorem mX4_refusal_l : mX4_refusal.2.2.2.2.2.2 = none := rfl
def jX4_refusal (Γ : Cx) : List ((Nat × Nat) × Nat × Bool × YSp) := [((0, 22), 1, true, sp_X4_isMissing Γ), ((0, 26), 3, true, sp_X4_spans Γ)]
theorem jX4_refusal_0_22 (Γ : Cx) : kT (jX4_refusal Γ) 0 22 = some (1, true, sp_X4_isMissing Γ) := rfl
theorem jX4_refusal_0_26 (Γ : Cx) : kT (jX4_refusal Γ) 0 26 = some (3, true, sp_X4_spans Γ) := rfl
theorem uX4_refusal (Γ : Cx) : TbOK Γ mX4_refusal (fT fX4, cT kX4, kT (jX4_refusal Γ)) := tb_ok fX4_ok kX4_ok (all_cons ⟨call_V (n := 0) (T := TX4) (N := 3) (ok_X4_isMissing Γ) (rv_X4_isMissing (Γ := Γ)) rfl bw_654 bw_651 bw_652 bw_653 bw_48 no_X4_isMissing ⟨⟨rfl, rfl⟩, ⟨by decide, by decide⟩, ⟨by decide, by decide⟩⟩, fun _ => mono_X4_isMissing (Γ := Γ)⟩ (all_cons ⟨call_V (n := 2) (T := TX4) (N := 3) (ok_X4_spans Γ) (rv_X4_spans (Γ := Γ)) rfl bw_658 bw_655 bw_656 bw_657 bw_48 no_X4_spans ⟨⟨rfl, rfl⟩, ⟨by decide, by decide⟩, ⟨by decide, by decide⟩⟩, fun _ => mono_X4_spans (Γ := Γ)⟩ (all_nil)))
set_option maxRecDepth 20000 in
theorem ok_X4_refusal (Γ : Cx) : Ok Γ yX4_refusal mX4_refusal (sp_X4_refusal Γ) := by
  refine ok_intro (by decide +kernel) rfl rfl ?_
  intro av σ K h
  unfold sp_X4_refusal at h
  split at h
  · next a l i n =>
    obtain ⟨fs, h1, h2, h⟩ := obj1_recv h
    obtain ⟨lane, h3, h⟩ := fI_recv h
    obtain ⟨z, h4, h⟩ := fI_recv h
    refine ⟨Nat.le_of_ble_eq_true rfl, yvc_ok (uX4_refusal Γ) (S := []) 40 _ _ _ _ ?_⟩
    simp only [lv_args, Value.category, h1, h2, h3, h4, sp_X4_isMissing, sp_X4_spans, bI_eq0, yvc_s, s1i, s2i, s1l, s2l, sil, s1r, sir, siir, slir, srir, svr, sd1, sd2, lg, lput, ldel, isL_i, isL_r, isL_l, jmp, obj, obj1, fI, fR, arI, arL, arR, hput, f4_0, f4_1, f4_2, f4_3, lc_0, lc_1, rok_i, rok_b, rok_y, strF, fput_1, fput_2, csum_nil, csum_i, csum_l, csum_r, va_up_self, bx_uu, Int.reduceAdd, List.elem_nil, List.elem_cons, List.take_succ_cons, List.take_zero, List.drop_succ_cons, List.drop_zero, List.take_nil, List.drop_nil, List.reverse_cons, List.reverse_nil, List.nil_append, List.cons_append, List.append_nil, Option.toList_some, Option.toList_none, List.getElem?_cons_zero, List.getElem?_cons_succ, List.set_cons_zero, List.set_cons_succ, List.length_cons, List.length_nil, reduceIte, reduceCtorEq, and_true, true_and, and_self, or_true, true_or, false_and, and_false, not_true_eq_false, not_false_eq_true, true_implies, false_implies, implies_true, Nat.reduceAdd, Nat.reduceLT, Nat.reduceEqDiff, Nat.reduceLeDiff, Nat.reduceBEq, Nat.zero_add, Nat.lt_add_one, Bool.false_eq_true, Bool.or_false, Bool.or_true, Bool.or_self, Nat.zero_ne_one, Nat.one_ne_zero, ite_true, ite_false, ne_eq, Nat.reduceSub, Nat.succ_eq_add_one, Nat.zero_lt_succ, Nat.add_one_ne_zero, false_or, or_false, mX4_refusal_c, mX4_refusal_n, mX4_refusal_r, mX4_refusal_l, dX4_refusal_0, dX4_refusal_1, dX4_refusal_4, tg_4_6, cnd1_eq, dX4_refusal_7, bc_m11, dX4_refusal_9, dX4_refusal_10, dX4_refusal_11, dX4_refusal_12, fl_4_15_4, dX4_refusal_15, tg_15_6, cnd2_eq, dX4_refusal_18, bc_m12, dX4_refusal_20, dX4_refusal_21, dX4_refusal_22, dX4_refusal_23, dX4_refusal_24, dX4_refusal_27, tg_27_7, dX4_refusal_30, ic_0, dX4_refusal_31, tg_31_5, dX4_refusal_34, bc_m13, dX4_refusal_36, jX4_refusal_0_22, jX4_refusal_0_26, st_aload_n, st_bipush, st_getfield, st_goto, st_iconst, st_ifCond, st_if_icmp, st_iload_n, st_invokevirtual, st_ireturn]
    unfold rfz at h
    refine ⟨fun c => ?_, fun c => ?_⟩
    · rw [if_neg (of_decide_eq_false c)] at h
      refine ⟨fun d => ?_, fun d => ?_⟩
      · rw [if_pos d] at h
        refine ⟨fun e => ?_, fun e => ?_⟩
        · rw [if_neg (by rw [e]; decide)] at h
          exact h
        · rw [if_pos (by cases q : spn z i n <;> simp_all)] at h
          exact h
      · rw [if_neg d] at h
        exact h
    · rw [if_pos (by cases q : decide (z = -1) <;> simp_all)] at h
      exact h
  · exact h.elim
def sp_X4_empty (Γ : Cx) : YSp := fun av σ K => ∃ (A : Nat × Nat) (s : SS), av = [.ref A.1] ∧ Sh Γ A s σ ∧ K (some (.int s.2.2)) (shset Γ A (s.1, s.2.1, -1) σ)
theorem rv_X4_empty {Γ : Cx} : Recv (sp_X4_empty Γ) 0 4 := by
  intro av σ K h
  obtain ⟨A, s, rfl, hc, -⟩ := h
  obtain ⟨fs, h1, h2⟩ := sh_rv hc
  exact ⟨_, _, fs, rfl, rfl, h1, h2⟩
def mX4_empty : Mt := (⟨0, 0, 0, 0⟩, RX4, cX4_empty, 2, some .int, (0, 0), none)
theorem mX4_empty_c : mX4_empty.2.2.1 = cX4_empty := rfl
theorem mX4_empty_n : mX4_empty.2.2.2.1 = 2 := rfl
theorem mX4_empty_r : mX4_empty.2.2.2.2.1 = some .int := rfl
theorem mX4_empty_l : mX4_empty.2.2.2.2.2.2 = none := rfl
def jX4_empty (Γ : Cx) : List ((Nat × Nat) × Nat × Bool × YSp) := []
theorem uX4_empty (Γ : Cx) : TbOK Γ mX4_empty (fT fX4, cT kX4, kT (jX4_empty Γ)) := tb_ok fX4_ok kX4_ok (all_nil)
set_option maxRecDepth 20000 in
theorem ok_X4_empty (Γ : Cx) : Ok Γ yX4_empty mX4_empty (sp_X4_empty Γ) := by
  refine ok_intro (by decide +kernel) rfl rfl ?_
  intro av σ K h
  obtain ⟨⟨a, ai⟩, ⟨it, lane, z⟩, rfl, hc, h⟩ := h
  have hp := hc.putO (lane, -1)
  obtain ⟨⟨m1, m2⟩, e1, e2⟩ := hc
  simp only [ShE, lA, hput] at e1 e2 m1 m2 hp h
  rw [← hp] at h
  refine ⟨Nat.le_of_ble_eq_true rfl, yvc_ok (uX4_empty Γ) (S := []) 40 _ _ _ _ ?_⟩
  simp only [lv_args, Value.category, m1, m2, e1, e2, yvc_s, s1i, s2i, s1l, s2l, sil, s1r, sir, siir, slir, srir, svr, sd1, sd2, lg, lput, ldel, isL_i, isL_r, isL_l, jmp, obj, obj1, fI, fR, arI, arL, arR, hput, f4_0, f4_1, f4_2, f4_3, lc_0, lc_1, rok_i, rok_b, rok_y, strF, fput_1, fput_2, csum_nil, csum_i, csum_l, csum_r, va_up_self, bx_uu, Int.reduceAdd, List.elem_nil, List.elem_cons, List.take_succ_cons, List.take_zero, List.drop_succ_cons, List.drop_zero, List.take_nil, List.drop_nil, List.reverse_cons, List.reverse_nil, List.nil_append, List.cons_append, List.append_nil, Option.toList_some, Option.toList_none, List.getElem?_cons_zero, List.getElem?_cons_succ, List.set_cons_zero, List.set_cons_succ, List.length_cons, List.length_nil, reduceIte, reduceCtorEq, and_true, true_and, and_self, or_true, true_or, false_and, and_false, not_true_eq_false, not_false_eq_true, true_implies, false_implies, implies_true, Nat.reduceAdd, Nat.reduceLT, Nat.reduceEqDiff, Nat.reduceLeDiff, Nat.reduceBEq, Nat.zero_add, Nat.lt_add_one, Bool.false_eq_true, Bool.or_false, Bool.or_true, Bool.or_self, Nat.zero_ne_one, Nat.one_ne_zero, ite_true, ite_false, ne_eq, Nat.reduceSub, Nat.succ_eq_add_one, Nat.zero_lt_succ, Nat.add_one_ne_zero, false_or, or_false, mX4_empty_c, mX4_empty_n, mX4_empty_r, mX4_empty_l, dX4_empty_0, dX4_empty_1, fl_4_19_4, dX4_empty_4, dX4_empty_5, dX4_empty_6, ic_m1, dX4_empty_7, dX4_empty_10, dX4_empty_11, st_aload_n, st_getfield, st_iconst, st_iload_n, st_ireturn, st_istore_n, st_putfield]
  exact h
def zer (f : Nat → Int64) : Nat → Nat → Int64
  | 0 => f
  | n + 1 => vp_updL (zer f n) n 0
theorem zer_in {f : Nat → Int64} : ∀ {n k : Nat}, k < n → zer f n k = 0
  | 0, k, h => absurd h (Nat.not_lt_zero _)
  | n + 1, k, h => by
    unfold zer
    by_cases e : k = n
    · subst e; exact pk_uLs
    · rw [pk_uLn e]; exact zer_in (by omega)
def sp_X4_renew (Γ : Cx) : YSp := fun av σ K => ∃ (A : Nat × Nat) (s : SS) (l n : Int32), av = [.ref A.1, .int l, .int n] ∧ Sh Γ A s σ ∧ K none (shset Γ A (zer s.1 24, l, n) σ)
theorem rv_X4_renew {Γ : Cx} : Recv (sp_X4_renew Γ) 2 4 := by
  intro av σ K h
  obtain ⟨A, s, l, n, rfl, hc, -⟩ := h
  obtain ⟨fs, h1, h2⟩ := sh_rv hc
  exact ⟨_, _, fs, rfl, rfl, h1, h2⟩
theorem lt24 {j : Nat} (h : j < 24) : (¬ (24 : Int32) ≤ nI j) ∧ vp_in (nI j) 24 ∧ (nI j).toNatClampNeg = j := ⟨nI_ge h (by decide), vp_in_nI h (by decide), nI_clamp (by omega)⟩
theorem ge24 : (24 : Int32) ≤ nI 24 := by decide
theorem bc_24 : (Int8.ofInt 24).toInt32 = 24 := by decide
theorem tg_15_16 : tgo 15 16 = some 31 := by decide
theorem tg_28_m16 : tgo 28 (-16) = some 12 := by decide
def mX4_renew : Mt := (⟨0, 0, 0, 0⟩, RX4, cX4_renew, 4, none, (0, 0), none)
theorem mX4_renew_c : mX4_renew.2.2.1 = cX4_renew := rfl
theorem mX4_renew_n : mX4_renew.2.2.2.1 = 4 := rfl
theorem mX4_renew_r : mX4_renew.2.2.2.2.1 = none := rfl
theorem mX4_renew_l : mX4_renew.2.2.2.2.2.2 = none := rfl
def jX4_renew (Γ : Cx) : List ((Nat × Nat) × Nat × Bool × YSp) := []
theorem uX4_renew (Γ : Cx) : TbOK Γ mX4_renew (fT fX4, cT kX4, kT (jX4_renew Γ)) := tb_ok fX4_ok kX4_ok (all_nil)
set_option maxRecDepth 20000 in
theorem ok_X4_renew (Γ : Cx) : Ok Γ yX4_renew mX4_renew (sp_X4_renew Γ) := by
  refine ok_intro (by decide +kernel) rfl rfl ?_
  intro av σ K h
  obtain ⟨⟨a, ai⟩, ⟨it, lane, z⟩, l, n, rfl, hc, h⟩ := h
  have loop : ∀ k j : Nat, j + k = 24 → YG Γ mX4_renew K 12 [(0, .ref a), (1, .int l), (2, .int n), (3, .int (nI j))] [] (shset Γ (a, ai) (zer it j, l, n) σ) := by
    intro k
    induction k with
    | zero =>
      intro j hj
      obtain rfl : j = 24 := by omega
      refine yvc1_ok (uX4_renew Γ) (S := [12]) 40 ?_
      simp only [yvc1, ge24, yvc_s, s1i, s2i, s1l, s2l, sil, s1r, sir, siir, slir, srir, svr, sd1, sd2, lg, lput, ldel, isL_i, isL_r, isL_l, jmp, obj, obj1, fI, fR, arI, arL, arR, hput, f4_0, f4_1, f4_2, f4_3, lc_0, lc_1, rok_i, rok_b, rok_y, strF, fput_1, fput_2, csum_nil, csum_i, csum_l, csum_r, va_up_self, bx_uu, Int.reduceAdd, List.elem_nil, List.elem_cons, List.take_succ_cons, List.take_zero, List.drop_succ_cons, List.drop_zero, List.take_nil, List.drop_nil, List.reverse_cons, List.reverse_nil, List.nil_append, List.cons_append, List.append_nil, Option.toList_some, Option.toList_none, List.getElem?_cons_zero, List.getElem?_cons_succ, List.set_cons_zero, List.set_cons_succ, List.length_cons, List.length_nil, reduceIte, reduceCtorEq, and_true, true_and, and_self, or_true, true_or, false_and, and_false, not_true_eq_false, not_false_eq_true, true_implies, false_implies, implies_true, Nat.reduceAdd, Nat.reduceLT, Nat.reduceEqDiff, Nat.reduceLeDiff, Nat.reduceBEq, Nat.zero_add, Nat.lt_add_one, Bool.false_eq_true, Bool.or_false, Bool.or_true, Bool.or_self, Nat.zero_ne_one, Nat.one_ne_zero, ite_true, ite_false, ne_eq, Nat.reduceSub, Nat.succ_eq_add_one, Nat.zero_lt_succ, Nat.add_one_ne_zero, false_or, or_false, mX4_renew_c, mX4_renew_n, mX4_renew_r, mX4_renew_l, dX4_renew_0, dX4_renew_1, dX4_renew_2, fl_4_15_4, dX4_renew_5, dX4_renew_6, dX4_renew_7, fl_4_19_4, dX4_renew_10, ic_0, dX4_renew_11, dX4_renew_12, dX4_renew_13, bc_24, dX4_renew_15, tg_15_16, cnd2_ge, dX4_renew_18, dX4_renew_19, fl_4_9_4, dX4_renew_22, dX4_renew_23, dX4_renew_24, dX4_renew_25, ic_1, dX4_renew_28, tg_28_m16, dX4_renew_31, st_aload_n, st_bipush, st_getfield, st_goto, st_iconst, st_if_icmp, st_iinc, st_iload_n, st_istore_n, st_lastore, st_lconst, st_putfield, st_return]
      exact h
    | succ k ih =>
      intro j hj
      obtain ⟨c1, c2, c3⟩ := lt24 (show j < 24 by omega)
      have hj1 := ih (j + 1) (by omega)
      have hc' := hc.set (zer it j, l, n)
      have hp := hc'.putA (vp_updL (zer it j) j 0)
      rw [shset_shset] at hp
      rw [show zer it (j + 1) = vp_updL (zer it j) j 0 from rfl] at hj1
      have hp' : hput (shset Γ (a, ai) (zer it j, l, n) σ) ai (lA Γ 24 (vp_updL (zer it j) j 0)) = shset Γ (a, ai) (vp_updL (zer it j) j 0, l, n) σ := hp
      rw [← hp'] at hj1
      obtain ⟨⟨m1, m2⟩, e1, e2⟩ := hc'
      simp only [ShE, lA, hput] at e1 e2 m1 m2 hj1
      refine yvc1_ok (uX4_renew Γ) (S := [12]) 40 ?_
      simp only [yvc1, c1, c2, c3, m1, m2, e1, e2, nI_1, yvc_s, s1i, s2i, s1l, s2l, sil, s1r, sir, siir, slir, srir, svr, sd1, sd2, lg, lput, ldel, isL_i, isL_r, isL_l, jmp, obj, obj1, fI, fR, arI, arL, arR, hput, f4_0, f4_1, f4_2, f4_3, lc_0, lc_1, rok_i, rok_b, rok_y, strF, fput_1, fput_2, csum_nil, csum_i, csum_l, csum_r, va_up_self, bx_uu, Int.reduceAdd, List.elem_nil, List.elem_cons, List.take_succ_cons, List.take_zero, List.drop_succ_cons, List.drop_zero, List.take_nil, List.drop_nil, List.reverse_cons, List.reverse_nil, List.nil_append, List.cons_append, List.append_nil, Option.toList_some, Option.toList_none, List.getElem?_cons_zero, List.getElem?_cons_succ, List.set_cons_zero, List.set_cons_succ, List.length_cons, List.length_nil, reduceIte, reduceCtorEq, and_true, true_and, and_self, or_true, true_or, false_and, and_false, not_true_eq_false, not_false_eq_true, true_implies, false_implies, implies_true, Nat.reduceAdd, Nat.reduceLT, Nat.reduceEqDiff, Nat.reduceLeDiff, Nat.reduceBEq, Nat.zero_add, Nat.lt_add_one, Bool.false_eq_true, Bool.or_false, Bool.or_true, Bool.or_self, Nat.zero_ne_one, Nat.one_ne_zero, ite_true, ite_false, ne_eq, Nat.reduceSub, Nat.succ_eq_add_one, Nat.zero_lt_succ, Nat.add_one_ne_zero, false_or, or_false, mX4_renew_c, mX4_renew_n, mX4_renew_r, mX4_renew_l, dX4_renew_0, dX4_renew_1, dX4_renew_2, fl_4_15_4, dX4_renew_5, dX4_renew_6, dX4_renew_7, fl_4_19_4, dX4_renew_10, ic_0, dX4_renew_11, dX4_renew_12, dX4_renew_13, bc_24, dX4_renew_15, tg_15_16, cnd2_ge, dX4_renew_18, dX4_renew_19, fl_4_9_4, dX4_renew_22, dX4_renew_23, dX4_renew_24, dX4_renew_25, ic_1, dX4_renew_28, tg_28_m16, dX4_renew_31, st_aload_n, st_bipush, st_getfield, st_goto, st_iconst, st_if_icmp, st_iinc, st_iload_n, st_istore_n, st_lastore, st_lconst, st_putfield, st_return]
      exact hj1
  have hl := loop 24 0 rfl
  have hp := hc.putO (l, n)
  rw [show zer it 0 = it from rfl] at hl
  have hp' : hput σ a (ShE ai (it, l, n)) = shset Γ (a, ai) (it, l, n) σ := hp
  rw [← hp'] at hl
  obtain ⟨⟨m1, m2⟩, e1, e2⟩ := hc
  simp only [ShE, lA, hput] at e1 e2 m1 m2 hl
  refine ⟨Nat.le_of_ble_eq_true rfl, yvc_ok (uX4_renew Γ) (S := [12]) 40 _ _ _ _ ?_⟩
  simp only [lv_args, Value.category, m1, m2, e1, e2, yvc_s, s1i, s2i, s1l, s2l, sil, s1r, sir, siir, slir, srir, svr, sd1, sd2, lg, lput, ldel, isL_i, isL_r, isL_l, jmp, obj, obj1, fI, fR, arI, arL, arR, hput, f4_0, f4_1, f4_2, f4_3, lc_0, lc_1, rok_i, rok_b, rok_y, strF, fput_1, fput_2, csum_nil, csum_i, csum_l, csum_r, va_up_self, bx_uu, Int.reduceAdd, List.elem_nil, List.elem_cons, List.take_succ_cons, List.take_zero, List.drop_succ_cons, List.drop_zero, List.take_nil, List.drop_nil, List.reverse_cons, List.reverse_nil, List.nil_append, List.cons_append, List.append_nil, Option.toList_some, Option.toList_none, List.getElem?_cons_zero, List.getElem?_cons_succ, List.set_cons_zero, List.set_cons_succ, List.length_cons, List.length_nil, reduceIte, reduceCtorEq, and_true, true_and, and_self, or_true, true_or, false_and, and_false, not_true_eq_false, not_false_eq_true, true_implies, false_implies, implies_true, Nat.reduceAdd, Nat.reduceLT, Nat.reduceEqDiff, Nat.reduceLeDiff, Nat.reduceBEq, Nat.zero_add, Nat.lt_add_one, Bool.false_eq_true, Bool.or_false, Bool.or_true, Bool.or_self, Nat.zero_ne_one, Nat.one_ne_zero, ite_true, ite_false, ne_eq, Nat.reduceSub, Nat.succ_eq_add_one, Nat.zero_lt_succ, Nat.add_one_ne_zero, false_or, or_false, mX4_renew_c, mX4_renew_n, mX4_renew_r, mX4_renew_l, dX4_renew_0, dX4_renew_1, dX4_renew_2, fl_4_15_4, dX4_renew_5, dX4_renew_6, dX4_renew_7, fl_4_19_4, dX4_renew_10, ic_0, dX4_renew_11, dX4_renew_12, dX4_renew_13, bc_24, dX4_renew_15, tg_15_16, cnd2_ge, dX4_renew_18, dX4_renew_19, fl_4_9_4, dX4_renew_22, dX4_renew_23, dX4_renew_24, dX4_renew_25, ic_1, dX4_renew_28, tg_28_m16, dX4_renew_31, st_aload_n, st_bipush, st_getfield, st_goto, st_iconst, st_if_icmp, st_iinc, st_iload_n, st_istore_n, st_lastore, st_lconst, st_putfield, st_return]
  exact hl
def cutL (lane : Int32) (v : Int64) : Int64 := if lane = 0 then v.toInt32.toInt8.toInt32.toInt64 else if lane = 1 then v.toInt32.toInt16.toInt32.toInt64 else if lane = 2 then v.toInt32.toInt64 else v
def sp_X4_put (Γ : Cx) : YSp := fun av σ K => ∃ (A : Nat × Nat) (s : SS) (i : Nat) (v : Int64), av = [.ref A.1, .int (nI i), .long v] ∧ i < 24 ∧ Sh Γ A s σ ∧ K none (shset Γ A (vp_updL s.1 i (cutL s.2.1 v), s.2) σ)
theorem rv_X4_put {Γ : Cx} : Recv (sp_X4_put Γ) 2 4 := by
  intro av σ K h
  obtain ⟨A, s, i, v, rfl, -, hc, -⟩ := h
  obtain ⟨fs, h1, h2⟩ := sh_rv hc
  exact ⟨_, _, fs, rfl, rfl, h1, h2⟩
theorem tg_4_66 : tgo 4 66 = some 70 := by decide
theorem tg_4_28 : tgo 4 28 = some 32 := by decide
theorem tg_4_41 : tgo 4 41 = some 45 := by decide
theorem tg_4_54 : tgo 4 54 = some 58 := by decide
theorem tg_42_35 : tgo 42 35 = some 77 := by decide
theorem tg_55_22 : tgo 55 22 = some 77 := by decide
theorem tg_67_10 : tgo 67 10 = some 77 := by decide
def mX4_put : Mt := (⟨0, 0, 0, 0⟩, RX4, cX4_put, 4, none, (0, 0), none)
theorem mX4_put_c : mX4_put.2.2.1 = cX4_put := rfl
theorem mX4_put_n : mX4_put.2.2.2.1 = 4 := rfl
theorem mX4_put_r : mX4_put.2.2.2.2.1 = none := rfl
theorem mX4_put_l : mX4_put.2.2.2.2.2.2 = none := rfl
def jX4_put (Γ : Cx) : List ((Nat × Nat) × Nat × Bool × YSp) := []
theorem uX4_put (Γ : Cx) : TbOK Γ mX4_put (fT fX4, cT kX4, kT (jX4_put Γ)) := tb_ok fX4_ok kX4_ok (all_nil)
set_option maxRecDepth 20000 in
theorem ok_X4_put (Γ : Cx) : Ok Γ yX4_put mX4_put (sp_X4_put Γ) := by
  refine ok_intro (by decide +kernel) rfl rfl ?_
  intro av σ K h
  obtain ⟨⟨a, ai⟩, ⟨it, lane, z⟩, i, v, rfl, hi, hc, h⟩ := h
  have hp := hc.putA (vp_updL it i (cutL lane v))
  obtain ⟨⟨m1, m2⟩, e1, e2⟩ := hc
  obtain ⟨c1, c2, c3⟩ := lt24 hi
  simp only [ShE, lA, hput] at e1 e2 m1 m2 hp h
  rw [← hp] at h
  unfold cutL at h
  refine ⟨Nat.le_of_ble_eq_true rfl, yvc_ok (uX4_put Γ) (S := []) 40 _ _ _ _ ?_⟩
  simp only [lv_args, Value.category, m1, m2, e1, e2, c1, c2, c3, yvc_s, s1i, s2i, s1l, s2l, sil, s1r, sir, siir, slir, srir, svr, sd1, sd2, lg, lput, ldel, isL_i, isL_r, isL_l, jmp, obj, obj1, fI, fR, arI, arL, arR, hput, f4_0, f4_1, f4_2, f4_3, lc_0, lc_1, rok_i, rok_b, rok_y, strF, fput_1, fput_2, csum_nil, csum_i, csum_l, csum_r, va_up_self, bx_uu, Int.reduceAdd, List.elem_nil, List.elem_cons, List.take_succ_cons, List.take_zero, List.drop_succ_cons, List.drop_zero, List.take_nil, List.drop_nil, List.reverse_cons, List.reverse_nil, List.nil_append, List.cons_append, List.append_nil, Option.toList_some, Option.toList_none, List.getElem?_cons_zero, List.getElem?_cons_succ, List.set_cons_zero, List.set_cons_succ, List.length_cons, List.length_nil, reduceIte, reduceCtorEq, and_true, true_and, and_self, or_true, true_or, false_and, and_false, not_true_eq_false, not_false_eq_true, true_implies, false_implies, implies_true, Nat.reduceAdd, Nat.reduceLT, Nat.reduceEqDiff, Nat.reduceLeDiff, Nat.reduceBEq, Nat.zero_add, Nat.lt_add_one, Bool.false_eq_true, Bool.or_false, Bool.or_true, Bool.or_self, Nat.zero_ne_one, Nat.one_ne_zero, ite_true, ite_false, ne_eq, Nat.reduceSub, Nat.succ_eq_add_one, Nat.zero_lt_succ, Nat.add_one_ne_zero, false_or, or_false, mX4_put_c, mX4_put_n, mX4_put_r, mX4_put_l, dX4_put_0, dX4_put_1, fl_4_15_4, dX4_put_4, tg_4_66, tg_4_28, tg_4_41, tg_4_54, swl, ic_0, ic_1, ic_2, dX4_put_32, dX4_put_33, fl_4_9_4, dX4_put_36, dX4_put_37, dX4_put_38, dX4_put_39, dX4_put_40, dX4_put_41, dX4_put_42, tg_42_35, dX4_put_45, dX4_put_46, dX4_put_49, dX4_put_50, dX4_put_51, dX4_put_52, dX4_put_53, dX4_put_54, dX4_put_55, tg_55_22, dX4_put_58, dX4_put_59, dX4_put_62, dX4_put_63, dX4_put_64, dX4_put_65, dX4_put_66, dX4_put_67, tg_67_10, dX4_put_70, dX4_put_71, dX4_put_74, dX4_put_75, dX4_put_76, dX4_put_77, st_aload_n, st_getfield, st_goto, st_i2b, st_i2l, st_i2s, st_iload_n, st_l2i, st_lastore, st_lload_n, st_return, st_tableswitch]
  refine ⟨rfl, ⟨?_, ?_, ?_⟩, ?_⟩
  · intro c
    rw [if_pos c] at h
    exact h
  · intro c
    rw [if_neg (by rw [c]; decide), if_pos c] at h
    exact h
  · intro c
    rw [if_neg (by rw [c]; decide), if_neg (by rw [c]; decide), if_pos c] at h
    exact h
  · intro c
    have n1 : ¬ lane = 0 := c.elim (fun z => toInt_lo z (by decide)) (fun z => toInt_hi z (by decide))
    have n2 : ¬ lane = 1 := c.elim (fun z => toInt_lo z (by decide)) (fun z => toInt_hi z (by decide))
    have n3 : ¬ lane = 2 := c.elim (fun z => toInt_lo z (by decide)) (fun z => toInt_hi z (by decide))
    rw [if_neg n1, if_neg n2, if_neg n3] at h
    exact h
/-- from day j on, m days: the items are the wants -/
def tlB (s : CS) (it : Nat → Int64) (p d : Int32) (i : Nat) : Nat → Nat → Bool
  | 0, _ => true
  | m + 1, j => decide (it (i + j) = ((daysC s (j + 1)).1 (ix p d)).toInt64) && tlB s it p d i m (j + 1)
def sp_X4_tells (Γ : Cx) : YSp := fun av σ K => ∃ (A : Nat × Nat) (t : SS) (B : CA) (s : CS) (p d i n : Nat), av = [.ref A.1, .ref B.1, .int (nI p), .int (nI d), .int (nI i), .int (nI n)] ∧ (p < 5 ∧ d < 4 ∧ i + n ≤ 24) ∧ WfC s ∧ Sh Γ A t σ ∧ Col Γ B s σ ∧ (∀ q, SF A q → ¬ CF B q) ∧ ∀ s', K (some (.int (bI (tlB s t.1 (nI p) (nI d) i n 0)))) (cset Γ B s' σ)
theorem rv_X4_tells {Γ : Cx} : Recv (sp_X4_tells Γ) 5 4 := by
  intro av σ K h
  obtain ⟨A, t, B, s, p, d, i, n, rfl, -, -, hc, -⟩ := h
  obtain ⟨fs, h1, h2⟩ := sh_rv hc
  exact ⟨_, _, fs, rfl, rfl, h1, h2⟩
theorem bw_668 : Cond.methodLink RX4 30 yX0_passDay ∈ BW := bw_i 668 (by decide +kernel) (by decide +kernel)
theorem bw_669 : Cond.methodLink RX4 35 yX0_wantOf ∈ BW := bw_i 669 (by decide +kernel) (by decide +kernel)
theorem tg_7_36 : tgo 7 36 = some 43 := by decide
theorem tg_32_5 : tgo 32 5 = some 37 := by decide
theorem tg_40_m37 : tgo 40 (-37) = some 3 := by decide
def mX4_tells : Mt := (⟨4, 0, 0, 90⟩, RX4, cX4_tells, 7, some .boolean, (0, 0), none)
theorem mX4_tells_c : mX4_tells.2.2.1 = cX4_tells := rfl
theorem mX4_tells_n : mX4_tells.2.2.2.1 = 7 := rfl
theorem mX4_tells_r : mX4_tells.2.2.2.2.1 = some .boolean := rfl
theorem mX4_tells_l : mX4_tells.2.2.2.2.2.2 = none := rfl
def jX4_tells (Γ : Cx) : List ((Nat × Nat) × Nat × Bool × YSp) := [((0, 30), 1, false, sp_X0_passDay Γ), ((0, 35), 3, true, sp_X0_wantOf Γ)]
theorem jX4_tells_0_30 (Γ : Cx) : kT (jX4_tells Γ) 0 30 = some (1, false, sp_X0_passDay Γ) := rfl
theorem jX4_tells_0_35 (Γ : Cx) : kT (jX4_tells Γ) 0 35 = some (3, true, sp_X0_wantOf Γ) := rfl
theorem uX4_tells (Γ : Cx) : TbOK Γ mX4_tells (fT fX4, cT kX4, kT (jX4_tells Γ)) := tb_ok fX4_ok kX4_ok (all_cons ⟨call_V (n := 0) (T := TX0) (N := 9) (ok_X0_passDay Γ) (rv_X0_passDay (Γ := Γ)) rfl bw_517 bw_668 bw_515 bw_516 bw_44 no_X0_passDay ⟨⟨rfl, rfl⟩, ⟨by decide, by decide⟩, ⟨by decide, by decide⟩⟩, fun z => by cases z⟩ (all_cons ⟨call_V (n := 2) (T := TX0) (N := 9) (ok_X0_wantOf Γ) (rv_X0_wantOf (Γ := Γ)) rfl bw_273 bw_669 bw_271 bw_272 bw_44 no_X0_wantOf ⟨⟨rfl, rfl⟩, ⟨by decide, by decide⟩, ⟨by decide, by decide⟩⟩, fun _ => mono_X0_wantOf (Γ := Γ)⟩ (all_nil)))
set_option maxRecDepth 20000 in
theorem ok_X4_tells (Γ : Cx) : Ok Γ yX4_tells mX4_tells (sp_X4_tells Γ) := by
  refine ok_intro (by decide +kernel) rfl rfl ?_
  intro av σ K h
  obtain ⟨⟨a, ai⟩, ⟨it, lane, z⟩, ⟨b, bw, bk, bd⟩, s, p, d, i, N, rfl, ⟨hp, hd, hin⟩, hw, hA, hB, hdis, h⟩ := h
  have loop : ∀ m j : Nat, j + m = N → (∀ s', K (some (.int (bI (tlB s it (nI p) (nI d) i m j)))) (cset Γ (b, bw, bk, bd) s' σ)) → YG Γ mX4_tells K 3 [(0, .ref a), (1, .ref b), (2, .int (nI p)), (3, .int (nI d)), (4, .int (nI i)), (5, .int (nI N)), (6, .int (nI j))] [] (cset Γ (b, bw, bk, bd) (daysC s j) σ) := by
    intro m
    induction m with
    | zero =>
      intro j hj hk
      obtain rfl : j = N := by omega
      refine yvc1_ok (uX4_tells Γ) (S := [3]) 40 ?_
      simp only [yvc1, geP, yvc_s, s1i, s2i, s1l, s2l, sil, s1r, sir, siir, slir, srir, svr, sd1, sd2, lg, lput, ldel, isL_i, isL_r, isL_l, jmp, obj, obj1, fI, fR, arI, arL, arR, hput, f4_0, f4_1, f4_2, f4_3, lc_0, lc_1, rok_i, rok_b, rok_y, strF, fput_1, fput_2, csum_nil, csum_i, csum_l, csum_r, va_up_self, bx_uu, Int.reduceAdd, List.elem_nil, List.elem_cons, List.take_succ_cons, List.take_zero, List.drop_succ_cons, List.drop_zero, List.take_nil, List.drop_nil, List.reverse_cons, List.reverse_nil, List.nil_append, List.cons_append, List.append_nil, Option.toList_some, Option.toList_none, List.getElem?_cons_zero, List.getElem?_cons_succ, List.set_cons_zero, List.set_cons_succ, List.length_cons, List.length_nil, reduceIte, reduceCtorEq, and_true, true_and, and_self, or_true, true_or, false_and, and_false, not_true_eq_false, not_false_eq_true, true_implies, false_implies, implies_true, Nat.reduceAdd, Nat.reduceLT, Nat.reduceEqDiff, Nat.reduceLeDiff, Nat.reduceBEq, Nat.zero_add, Nat.lt_add_one, Bool.false_eq_true, Bool.or_false, Bool.or_true, Bool.or_self, Nat.zero_ne_one, Nat.one_ne_zero, ite_true, ite_false, ne_eq, Nat.reduceSub, Nat.succ_eq_add_one, Nat.zero_lt_succ, Nat.add_one_ne_zero, false_or, or_false, mX4_tells_c, mX4_tells_n, mX4_tells_r, mX4_tells_l, dX4_tells_0, ic_0, dX4_tells_1, dX4_tells_3, dX4_tells_5, dX4_tells_7, tg_7_36, cnd2_ge, dX4_tells_10, dX4_tells_11, dX4_tells_14, dX4_tells_15, fl_4_9_4, dX4_tells_18, dX4_tells_20, dX4_tells_22, dX4_tells_23, dX4_tells_24, dX4_tells_25, dX4_tells_26, dX4_tells_27, dX4_tells_30, dX4_tells_31, dX4_tells_32, tg_32_5, cnd1_eq, dX4_tells_35, dX4_tells_36, dX4_tells_37, ic_1, dX4_tells_40, tg_40_m37, dX4_tells_43, dX4_tells_44, jX4_tells_0_30, jX4_tells_0_35, st_aload_n, st_getfield, st_goto, st_i2l, st_iadd, st_iconst, st_ifCond, st_if_icmp, st_iinc, st_iload, st_iload_n, st_invokevirtual, st_ireturn, st_istore, st_laload, st_lcmp]
      exact hk _
    | succ m ih =>
      intro j hj hk
      have c1 := ltN (show j < N by omega) (by omega)
      have hw' := (daysC_wf hw j).1
      have hB' := hB.set (daysC s j)
      have hB2 := hB.set (daysC s (j + 1))
      have hA2 : Sh Γ (a, ai) (it, lane, z) (cset Γ (b, bw, bk, bd) (daysC s (j + 1)) σ) := hA.keep rfl (fun q hq => cset_frm.2 q (hdis q hq))
      have c2 : vp_in (nI (i + j)) 24 := vp_in_nI (by omega) (by decide)
      have c3 : (nI (i + j)).toNatClampNeg = i + j := nI_clamp (by omega)
      have hn := fun hh => ih (j + 1) (by omega) hh
      refine yvc1_ok (uX4_tells Γ) (S := [3]) 40 ?_
      simp only [yvc1, c1, yvc_s, s1i, s2i, s1l, s2l, sil, s1r, sir, siir, slir, srir, svr, sd1, sd2, lg, lput, ldel, isL_i, isL_r, isL_l, jmp, obj, obj1, fI, fR, arI, arL, arR, hput, f4_0, f4_1, f4_2, f4_3, lc_0, lc_1, rok_i, rok_b, rok_y, strF, fput_1, fput_2, csum_nil, csum_i, csum_l, csum_r, va_up_self, bx_uu, Int.reduceAdd, List.elem_nil, List.elem_cons, List.take_succ_cons, List.take_zero, List.drop_succ_cons, List.drop_zero, List.take_nil, List.drop_nil, List.reverse_cons, List.reverse_nil, List.nil_append, List.cons_append, List.append_nil, Option.toList_some, Option.toList_none, List.getElem?_cons_zero, List.getElem?_cons_succ, List.set_cons_zero, List.set_cons_succ, List.length_cons, List.length_nil, reduceIte, reduceCtorEq, and_true, true_and, and_self, or_true, true_or, false_and, and_false, not_true_eq_false, not_false_eq_true, true_implies, false_implies, implies_true, Nat.reduceAdd, Nat.reduceLT, Nat.reduceEqDiff, Nat.reduceLeDiff, Nat.reduceBEq, Nat.zero_add, Nat.lt_add_one, Bool.false_eq_true, Bool.or_false, Bool.or_true, Bool.or_self, Nat.zero_ne_one, Nat.one_ne_zero, ite_true, ite_false, ne_eq, Nat.reduceSub, Nat.succ_eq_add_one, Nat.zero_lt_succ, Nat.add_one_ne_zero, false_or, or_false, mX4_tells_c, mX4_tells_n, mX4_tells_r, mX4_tells_l, dX4_tells_0, ic_0, dX4_tells_1, dX4_tells_3, dX4_tells_5, dX4_tells_7, tg_7_36, cnd2_ge, dX4_tells_10, dX4_tells_11, dX4_tells_14, dX4_tells_15, fl_4_9_4, dX4_tells_18, dX4_tells_20, dX4_tells_22, dX4_tells_23, dX4_tells_24, dX4_tells_25, dX4_tells_26, dX4_tells_27, dX4_tells_30, dX4_tells_31, dX4_tells_32, tg_32_5, cnd1_eq, dX4_tells_35, dX4_tells_36, dX4_tells_37, ic_1, dX4_tells_40, tg_40_m37, dX4_tells_43, dX4_tells_44, jX4_tells_0_30, jX4_tells_0_35, st_aload_n, st_getfield, st_goto, st_i2l, st_iadd, st_iconst, st_ifCond, st_if_icmp, st_iinc, st_iload, st_iload_n, st_invokevirtual, st_ireturn, st_istore, st_laload, st_lcmp]
      refine ⟨(b, bw, bk, bd), daysC s j, rfl, hw', hB', ?_⟩
      rw [cset_cset, ← daysC]
      unfold tlB at hk
      generalize daysC s (j + 1) = s2 at hB2 hA2 hk hn ⊢
      obtain ⟨w, kp, kd, day, gone, draw, P, rule, gd⟩ := s2
      obtain ⟨⟨m1, m2, m3, m4⟩, e1, e2, e3, e4⟩ := hB2
      obtain ⟨⟨v1, v2⟩, f1, f2⟩ := hA2
      simp only [ColE, ShE, iA, lA] at e1 e2 e3 e4 m1 m2 m3 m4 v1 v2 f1 f2
      refine yvc_ok (uX4_tells Γ) (S := [3]) 40 _ _ _ _ ?_
      simp only [nI_add, c2, c3, v1, v2, f1, f2, m1, m2, e1, e2, sp_X0_wantOf, lg_cmp_eq, nI_1, yvc_s, s1i, s2i, s1l, s2l, sil, s1r, sir, siir, slir, srir, svr, sd1, sd2, lg, lput, ldel, isL_i, isL_r, isL_l, jmp, obj, obj1, fI, fR, arI, arL, arR, hput, f4_0, f4_1, f4_2, f4_3, lc_0, lc_1, rok_i, rok_b, rok_y, strF, fput_1, fput_2, csum_nil, csum_i, csum_l, csum_r, va_up_self, bx_uu, Int.reduceAdd, List.elem_nil, List.elem_cons, List.take_succ_cons, List.take_zero, List.drop_succ_cons, List.drop_zero, List.take_nil, List.drop_nil, List.reverse_cons, List.reverse_nil, List.nil_append, List.cons_append, List.append_nil, Option.toList_some, Option.toList_none, List.getElem?_cons_zero, List.getElem?_cons_succ, List.set_cons_zero, List.set_cons_succ, List.length_cons, List.length_nil, reduceIte, reduceCtorEq, and_true, true_and, and_self, or_true, true_or, false_and, and_false, not_true_eq_false, not_false_eq_true, true_implies, false_implies, implies_true, Nat.reduceAdd, Nat.reduceLT, Nat.reduceEqDiff, Nat.reduceLeDiff, Nat.reduceBEq, Nat.zero_add, Nat.lt_add_one, Bool.false_eq_true, Bool.or_false, Bool.or_true, Bool.or_self, Nat.zero_ne_one, Nat.one_ne_zero, ite_true, ite_false, ne_eq, Nat.reduceSub, Nat.succ_eq_add_one, Nat.zero_lt_succ, Nat.add_one_ne_zero, false_or, or_false, mX4_tells_c, mX4_tells_n, mX4_tells_r, mX4_tells_l, dX4_tells_0, ic_0, dX4_tells_1, dX4_tells_3, dX4_tells_5, dX4_tells_7, tg_7_36, cnd2_ge, dX4_tells_10, dX4_tells_11, dX4_tells_14, dX4_tells_15, fl_4_9_4, dX4_tells_18, dX4_tells_20, dX4_tells_22, dX4_tells_23, dX4_tells_24, dX4_tells_25, dX4_tells_26, dX4_tells_27, dX4_tells_30, dX4_tells_31, dX4_tells_32, tg_32_5, cnd1_eq, dX4_tells_35, dX4_tells_36, dX4_tells_37, ic_1, dX4_tells_40, tg_40_m37, dX4_tells_43, dX4_tells_44, jX4_tells_0_30, jX4_tells_0_35, st_aload_n, st_getfield, st_goto, st_i2l, st_iadd, st_iconst, st_ifCond, st_if_icmp, st_iinc, st_iload, st_iload_n, st_invokevirtual, st_ireturn, st_istore, st_laload, st_lcmp]
      refine ⟨ix_in hp hd, fun c => ?_, fun c => ?_⟩
      · refine hn (fun s' => ?_)
        have := hk s'
        rw [decide_eq_true c, Bool.true_and] at this
        exact this
      · have := hk (w, kp, kd, day, gone, draw, P, rule, gd)
        rw [decide_eq_false c, Bool.false_and] at this
        exact this
  have hl := loop N 0 (by omega) h
  rw [show daysC s 0 = s from rfl, hB.self] at hl
  refine ⟨Nat.le_of_ble_eq_true rfl, yvc_ok (uX4_tells Γ) (S := [3]) 40 _ _ _ _ ?_⟩
  simp only [lv_args, Value.category, yvc_s, s1i, s2i, s1l, s2l, sil, s1r, sir, siir, slir, srir, svr, sd1, sd2, lg, lput, ldel, isL_i, isL_r, isL_l, jmp, obj, obj1, fI, fR, arI, arL, arR, hput, f4_0, f4_1, f4_2, f4_3, lc_0, lc_1, rok_i, rok_b, rok_y, strF, fput_1, fput_2, csum_nil, csum_i, csum_l, csum_r, va_up_self, bx_uu, Int.reduceAdd, List.elem_nil, List.elem_cons, List.take_succ_cons, List.take_zero, List.drop_succ_cons, List.drop_zero, List.take_nil, List.drop_nil, List.reverse_cons, List.reverse_nil, List.nil_append, List.cons_append, List.append_nil, Option.toList_some, Option.toList_none, List.getElem?_cons_zero, List.getElem?_cons_succ, List.set_cons_zero, List.set_cons_succ, List.length_cons, List.length_nil, reduceIte, reduceCtorEq, and_true, true_and, and_self, or_true, true_or, false_and, and_false, not_true_eq_false, not_false_eq_true, true_implies, false_implies, implies_true, Nat.reduceAdd, Nat.reduceLT, Nat.reduceEqDiff, Nat.reduceLeDiff, Nat.reduceBEq, Nat.zero_add, Nat.lt_add_one, Bool.false_eq_true, Bool.or_false, Bool.or_true, Bool.or_self, Nat.zero_ne_one, Nat.one_ne_zero, ite_true, ite_false, ne_eq, Nat.reduceSub, Nat.succ_eq_add_one, Nat.zero_lt_succ, Nat.add_one_ne_zero, false_or, or_false, mX4_tells_c, mX4_tells_n, mX4_tells_r, mX4_tells_l, dX4_tells_0, ic_0, dX4_tells_1, dX4_tells_3, dX4_tells_5, dX4_tells_7, tg_7_36, cnd2_ge, dX4_tells_10, dX4_tells_11, dX4_tells_14, dX4_tells_15, fl_4_9_4, dX4_tells_18, dX4_tells_20, dX4_tells_22, dX4_tells_23, dX4_tells_24, dX4_tells_25, dX4_tells_26, dX4_tells_27, dX4_tells_30, dX4_tells_31, dX4_tells_32, tg_32_5, cnd1_eq, dX4_tells_35, dX4_tells_36, dX4_tells_37, ic_1, dX4_tells_40, tg_40_m37, dX4_tells_43, dX4_tells_44, jX4_tells_0_30, jX4_tells_0_35, st_aload_n, st_getfield, st_goto, st_i2l, st_iadd, st_iconst, st_ifCond, st_if_icmp, st_iinc, st_iload, st_iload_n, st_invokevirtual, st_ireturn, st_istore, st_laload, st_lcmp]
  exact hl
