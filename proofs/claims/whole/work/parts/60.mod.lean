/-! ===== YawnKeysModel: its cells as one value ===== -/
/-- numbers by field, arrays by field, items -/
abbrev MS : Type := (Nat → Int32) × (Nat → Nat → Int32) × (Nat → Int64)
def isA (k : Nat) : Bool := [2, 3, 4, 5, 8, 9, 10, 12, 13, 15, 18, 24, 25].elem k
def lenM (k : Nat) : Nat := match k with | 2 => 5 | 3 => 27 | 4 => 27 | 5 => 216 | 8 => 8 | 9 => 27 | 10 => 216 | 12 => 4 | 13 => 4 | 15 => 50 | 18 => 4 | 24 => 5 | _ => 24
def ME (ad : Nat → Nat) (c : Nat → Int32) : va_E := .inr (7, [.int (c 0), .int (c 1), .ref (ad 2), .ref (ad 3), .ref (ad 4), .ref (ad 5), .int (c 6), .int (c 7), .ref (ad 8), .ref (ad 9), .ref (ad 10), .ref (ad 11), .ref (ad 12), .ref (ad 13), .int (c 14), .ref (ad 15), .int (c 16), .int (c 17), .ref (ad 18), .int (c 19), .int (c 20), .int (c 21), .int (c 22), .int (c 23), .ref (ad 24), .ref (ad 25)])
def Mod (Γ : Cx) (lab : Nat → Nat) (A : Nat × (Nat → Nat)) (s : MS) (σ : Hp) : Prop :=
  (A.1 ∈ σ.1 ∧ lab A.1 = 30 ∧ A.2 11 ∈ σ.1 ∧ lab (A.2 11) = 30) ∧ σ.2 A.1 = ME A.2 s.1 ∧ σ.2 (A.2 11) = lA Γ 96 s.2.2 ∧ (∀ k, isA k = true → A.2 k ∈ σ.1 ∧ lab (A.2 k) = 30 ∧ σ.2 (A.2 k) = iA Γ (lenM k) (s.2.1 k)) ∧ ∀ j k, isA j = true → isA k = true → j ≠ k → A.2 j ≠ A.2 k
theorem mE_iA {Γ : Cx} {ad : Nat → Nat} {c : Nat → Int32} {n : Nat} {f : Nat → Int32} : ME ad c ≠ iA Γ n f := fun e => by unfold ME iA at e; cases e
theorem mE_lA {Γ : Cx} {ad : Nat → Nat} {c : Nat → Int32} {n : Nat} {f : Nat → Int64} : ME ad c ≠ lA Γ n f := fun e => by unfold ME lA at e; cases e
theorem lA_iA {Γ : Cx} {n k : Nat} {f : Nat → Int64} {g : Nat → Int32} : lA Γ n f ≠ iA Γ k g := fun e => by
  unfold lA iA at e
  simp only [Sum.inl.injEq, Prod.mk.injEq, reduceCtorEq, and_false] at e
def updA (ar : Nat → Nat → Int32) (k : Nat) (f : Nat → Int32) : Nat → Nat → Int32 := fun j => if j = k then f else ar j
theorem updA_at {ar : Nat → Nat → Int32} {k : Nat} {f : Nat → Int32} : updA ar k f k = f := by unfold updA; simp
theorem updA_ne {ar : Nat → Nat → Int32} {k j : Nat} {f : Nat → Int32} (h : j ≠ k) : updA ar k f j = ar j := by unfold updA; simp [h]
theorem updA_updA {ar : Nat → Nat → Int32} {k : Nat} {f g : Nat → Int32} : updA (updA ar k f) k g = updA ar k g := by
  funext j
  unfold updA
  by_cases e : j = k <;> simp [e]
theorem updA_self {ar : Nat → Nat → Int32} {k : Nat} : updA ar k (ar k) = ar := by
  funext j
  unfold updA
  by_cases e : j = k <;> simp [e]
/-- a number is put -/
theorem Mod.putO {Γ : Cx} {lab : Nat → Nat} {A : Nat × (Nat → Nat)} {s : MS} {σ : Hp} (h : Mod Γ lab A s σ) (c : Nat → Int32) : Mod Γ lab A (c, s.2) (hput σ A.1 (ME A.2 c)) := by
  obtain ⟨h0, h1, h2, h3, h4⟩ := h
  refine ⟨h0, by simp only [hput, va_up_self], ?_, fun k hk => ⟨(h3 k hk).1, (h3 k hk).2.1, ?_⟩, h4⟩
  · simp only [hput]; rw [va_up_ne _ _ (ne_of h2 h1 (fun e => mE_lA e.symm))]; exact h2
  · simp only [hput]; rw [va_up_ne _ _ (ne_of (h3 k hk).2.2 h1 (fun e => mE_iA e.symm))]; exact (h3 k hk).2.2
theorem Mod.putA {Γ : Cx} {lab : Nat → Nat} {A : Nat × (Nat → Nat)} {s : MS} {σ : Hp} (h : Mod Γ lab A s σ) {k : Nat} (hk : isA k = true) (f : Nat → Int32) : Mod Γ lab A (s.1, updA s.2.1 k f, s.2.2) (hput σ (A.2 k) (iA Γ (lenM k) f)) := by
  obtain ⟨h0, h1, h2, h3, h4⟩ := h
  refine ⟨h0, ?_, ?_, fun j hj => ⟨(h3 j hj).1, (h3 j hj).2.1, ?_⟩, h4⟩
  · simp only [hput]; rw [va_up_ne _ _ (ne_of h1 (h3 k hk).2.2 mE_iA)]; exact h1
  · simp only [hput]; rw [va_up_ne _ _ (ne_of h2 (h3 k hk).2.2 lA_iA)]; exact h2
  · by_cases e : j = k
    · subst e
      simp only [hput, va_up_self, updA_at]
    · simp only [hput, updA_ne e]; rw [va_up_ne _ _ (h4 j k hj hk e)]; exact (h3 j hj).2.2
theorem Mod.putL {Γ : Cx} {lab : Nat → Nat} {A : Nat × (Nat → Nat)} {s : MS} {σ : Hp} (h : Mod Γ lab A s σ) (f : Nat → Int64) : Mod Γ lab A (s.1, s.2.1, f) (hput σ (A.2 11) (lA Γ 96 f)) := by
  obtain ⟨h0, h1, h2, h3, h4⟩ := h
  refine ⟨h0, ?_, by simp only [hput, va_up_self], fun j hj => ⟨(h3 j hj).1, (h3 j hj).2.1, ?_⟩, h4⟩
  · simp only [hput]; rw [va_up_ne _ _ (ne_of h1 h2 mE_lA)]; exact h1
  · simp only [hput]; rw [va_up_ne _ _ (ne_of (h3 j hj).2.2 h2 (fun e => lA_iA e.symm))]; exact (h3 j hj).2.2
theorem Mod.frO {Γ : Cx} {lab : Nat → Nat} {A : Nat × (Nat → Nat)} {s : MS} {σ : Hp} (h : Mod Γ lab A s σ) {e : va_E} : frm (fL lab 30) σ (hput σ A.1 e) := hput_frm h.1.2.1
theorem Mod.frA {Γ : Cx} {lab : Nat → Nat} {A : Nat × (Nat → Nat)} {s : MS} {σ : Hp} (h : Mod Γ lab A s σ) {k : Nat} (hk : isA k = true) {e : va_E} : frm (fL lab 30) σ (hput σ (A.2 k) e) := hput_frm (h.2.2.2.1 k hk).2.1
theorem Mod.frL {Γ : Cx} {lab : Nat → Nat} {A : Nat × (Nat → Nat)} {s : MS} {σ : Hp} (h : Mod Γ lab A s σ) {e : va_E} : frm (fL lab 30) σ (hput σ (A.2 11) e) := hput_frm h.1.2.2.2
theorem Mod.arr {Γ : Cx} {lab : Nat → Nat} {A : Nat × (Nat → Nat)} {s : MS} {σ : Hp} (h : Mod Γ lab A s σ) (k : Nat) (hk : isA k = true) : A.2 k ∈ σ.1 ∧ σ.2 (A.2 k) = iA Γ (lenM k) (s.2.1 k) := ⟨(h.2.2.2.1 k hk).1, (h.2.2.2.1 k hk).2.2⟩
theorem m_rv {Γ : Cx} {lab : Nat → Nat} {A : Nat × (Nat → Nat)} {s : MS} {σ : Hp} (h : Mod Γ lab A s σ) : ∃ fs, A.1 ∈ σ.1 ∧ σ.2 A.1 = .inr (7, fs) := ⟨_, h.1.1, h.2.1⟩
/-- a method of the model; Rel: what it does, and answers -/
def mq (Γ : Cx) (As : List Value) (Pre : MS → Prop) (Rel : MS → MS → Option Value → Prop) : YSp := fun av σ K => ∃ (lab : Nat → Nat) (A : Nat × (Nat → Nat)) (s : MS), av = .ref A.1 :: As ∧ Mod Γ lab A s σ ∧ Pre s ∧ ∀ (σ' : Hp) (s' : MS) (r : Option Value), Rel s s' r → frm (fL lab 30) σ σ' → Mod Γ lab A s' σ' → K r σ'
theorem rv_mq {Γ : Cx} {As : List Value} {Pre : MS → Prop} {Rel : MS → MS → Option Value → Prop} {av : List Value} {σ : Hp} {K : Option Value → Hp → Prop} (h : mq Γ As Pre Rel av σ K) : ∃ (b : Nat) (fs : List Value), av = .ref b :: As ∧ b ∈ σ.1 ∧ σ.2 b = .inr (7, fs) := by
  obtain ⟨lab, A, s, rfl, hM, -⟩ := h
  obtain ⟨fs, h1, h2⟩ := m_rv hM
  exact ⟨_, fs, rfl, h1, h2⟩
/-! small ones -/
def inL (v a b : Int64) : Bool := decide (a ≤ v) && decide (v ≤ b)
def sp_X7_lies (_ : Cx) : YSp := fun av σ K => match av with | [.long v, .long a, .long b] => K (some (.int (bI (inL v a b)))) σ | _ => False
theorem mono_X7_lies {Γ : Cx} : Mono (sp_X7_lies Γ) := by
  intro av σ K K' hk h
  unfold sp_X7_lies at h ⊢
  split at h
  · exact hk _ _ h
  · exact h.elim
theorem rv_X7_lies {Γ : Cx} : Args (sp_X7_lies Γ) 3 := by
  intro av σ K h
  unfold sp_X7_lies at h
  split at h
  · rfl
  · exact h.elim
def mX7_lies : Mt := (⟨0, 0, 0, 0⟩, RX7, cX7_lies, 6, some .boolean, (0, 0), none)
theorem mX7_lies_c : mX7_lies.2.2.1 = cX7_lies := rfl
theorem mX7_lies_n : mX7_lies.2.2.2.1 = 6 := rfl
theorem mX7_lies_r : mX7_lies.2.2.2.2.1 = some .boolean := rfl
theorem mX7_lies_l : mX7_lies.2.2.2.2.2.2 = none := rfl
def jX7_lies (Γ : Cx) : List ((Nat × Nat) × Nat × Bool × YSp) := []
theorem uX7_lies (Γ : Cx) : TbOK Γ mX7_lies (fT fX7, cT kX7, kT (jX7_lies Γ)) := tb_ok fX7_ok kX7_ok (all_nil)
set_option maxRecDepth 20000 in
theorem ok_X7_lies (Γ : Cx) : Ok Γ yX7_lies mX7_lies (sp_X7_lies Γ) := by
  refine ok_intro (by decide +kernel) rfl rfl ?_
  intro av σ K h
  unfold sp_X7_lies at h
  split at h
  · next v a b =>
    refine ⟨Nat.le_of_ble_eq_true rfl, yvc_ok (uX7_lies Γ) (S := []) 40 _ _ _ _ ?_⟩
    simp only [lv_args, Value.category, lg_cmp_lt, lg_cmp_gt, yvc_s, s1i, s2i, s1l, s2l, sil, s1r, sir, siir, slir, srir, svr, sd1, sd2, lg, lput, ldel, isL_i, isL_r, isL_l, jmp, obj, obj1, fI, fR, arI, arL, arR, hput, f4_0, f4_1, f4_2, f4_3, lc_0, lc_1, rok_i, rok_b, rok_y, strF, fput_1, fput_2, csum_nil, csum_i, csum_l, csum_r, va_up_self, bx_uu, Int.reduceAdd, List.elem_nil, List.elem_cons, List.take_succ_cons, List.take_zero, List.drop_succ_cons, List.drop_zero, List.take_nil, List.drop_nil, List.reverse_cons, List.reverse_nil, List.nil_append, List.cons_append, List.append_nil, Option.toList_some, Option.toList_none, List.getElem?_cons_zero, List.getElem?_cons_succ, List.set_cons_zero, List.set_cons_succ, List.length_cons, List.length_nil, reduceIte, reduceCtorEq, and_true, true_and, and_self, or_true, true_or, false_and, and_false, not_true_eq_false, not_false_eq_true, true_implies, false_implies, implies_true, Nat.reduceAdd, Nat.reduceLT, Nat.reduceEqDiff, Nat.reduceLeDiff, Nat.reduceBEq, Nat.zero_add, Nat.lt_add_one, Bool.false_eq_true, Bool.or_false, Bool.or_true, Bool.or_self, Nat.zero_ne_one, Nat.one_ne_zero, ite_true, ite_false, ne_eq, Nat.reduceSub, Nat.succ_eq_add_one, Nat.zero_lt_succ, Nat.add_one_ne_zero, false_or, or_false, mX7_lies_c, mX7_lies_n, mX7_lies_r, mX7_lies_l, dX7_lies_0, dX7_lies_1, dX7_lies_2, dX7_lies_3, tg_3_14, cnd1_lt, dX7_lies_6, dX7_lies_7, dX7_lies_9, dX7_lies_10, tg_10_7, cnd1_gt, dX7_lies_13, ic_1, dX7_lies_14, tg_14_4, dX7_lies_17, ic_0, dX7_lies_18, st_goto, st_iconst, st_ifCond, st_ireturn, st_lcmp, st_lload, st_lload_n]
    unfold inL at h
    refine ⟨fun c => ?_, fun c => ⟨fun d => ?_, fun d => ?_⟩⟩
    · rw [decide_eq_false (Int64.not_le.mpr c), Bool.false_and] at h
      exact h
    · rw [decide_eq_true (Int64.not_lt.mp c), decide_eq_false (Int64.not_le.mpr d)] at h
      exact h
    · rw [decide_eq_true (Int64.not_lt.mp c), decide_eq_true (Int64.not_lt.mp d)] at h
      exact h
  · exact h.elim
/-- longs out of ints compare as the ints do -/
theorem inL_i {x a b : Int32} : inL x.toInt64 a.toInt64 b.toInt64 = inr x a b := by
  unfold inL inr
  congr 1 <;> simp only [Int64.le_iff_toInt_le, Int32.le_iff_toInt_le, Int32.toInt_toInt64]
theorem l0 : (0 : Int64) = (0 : Int32).toInt64 := by decide
theorem l1 : (1 : Int64) = (1 : Int32).toInt64 := by decide
theorem l2_ : (2 : Int64) = (2 : Int32).toInt64 := by decide
theorem l3_ : (3 : Int64) = (3 : Int32).toInt64 := by decide
theorem l4_ : (4 : Int64) = (4 : Int32).toInt64 := by decide
theorem inL_03 {x : Int32} : inL x.toInt64 0 3 = inr x 0 3 := inL_i (a := 0) (b := 3)
theorem inL_0 {x b : Int32} : inL x.toInt64 0 b.toInt64 = inr x 0 b := inL_i (a := 0)
def sp_X7_isOne (_ : Cx) : YSp := fun av σ K => match av with | [.ref a, .int p] => obj1 σ a 7 fun fs => fI fs 0 fun n => K (some (.int (bI (inr p 0 (n - 1))))) σ | _ => False
theorem mono_X7_isOne {Γ : Cx} : Mono (sp_X7_isOne Γ) := by
  intro av σ K K' hk h
  unfold sp_X7_isOne at h ⊢
  split at h
  · exact obj1_mono (fun _ h => fI_mono (fun _ h => hk _ _ h) h) h
  · exact h.elim
theorem rv_X7_isOne {Γ : Cx} : Recv (sp_X7_isOne Γ) 1 7 := by
  intro av σ K h
  unfold sp_X7_isOne at h
  split at h
  · obtain ⟨fs, h1, h2, -⟩ := obj1_recv h
    exact ⟨_, _, fs, rfl, rfl, h1, h2⟩
  · exact h.elim
theorem bw_797 : Cond.code yX7_lies cX7_lies 6 (some .boolean) ∈ BW := bw_i 797 (by decide +kernel) (by decide +kernel)
theorem bw_49 : Cond.initialized RX7 ∈ BW := bw_i 49 (by decide +kernel) (by decide +kernel)
theorem no_X7_lies : NameOK yX7_lies 3 := by unfold NameOK; decide +kernel
theorem bw_795 : Cond.methodLink RX7 63 yX7_lies ∈ BW := bw_i 795 (by decide +kernel) (by decide +kernel)
theorem bw_796 : Cond.static yX7_lies ∈ BW := bw_i 796 (by decide +kernel) (by decide +kernel)
def mX7_isOne : Mt := (⟨1, 0, 0, 25⟩, RX7, cX7_isOne, 2, some .boolean, (0, 0), none)
theorem mX7_isOne_c : mX7_isOne.2.2.1 = cX7_isOne := rfl
theorem mX7_isOne_n : mX7_isOne.2.2.2.1 = 2 := rfl
theorem mX7_isOne_r : mX7_isOne.2.2.2.2.1 = some .boolean := rfl
theorem mX7_isOne_l : mX7_isOne.2.2.2.2.2.2 = none := rfl
def jX7_isOne (Γ : Cx) : List ((Nat × Nat) × Nat × Bool × YSp) := [((1, 63), 3, true, sp_X7_lies Γ)]
theorem jX7_isOne_1_63 (Γ : Cx) : kT (jX7_isOne Γ) 1 63 = some (3, true, sp_X7_lies Γ) := rfl
theorem uX7_isOne (Γ : Cx) : TbOK Γ mX7_isOne (fT fX7, cT kX7, kT (jX7_isOne Γ)) := tb_ok fX7_ok kX7_ok (all_cons ⟨call_S (n := 3) (ok_X7_lies Γ) (rv_X7_lies (Γ := Γ)) bw_797 bw_795 bw_796 bw_49 no_X7_lies ⟨⟨rfl, rfl⟩, ⟨by decide, by decide⟩, ⟨by decide, by decide⟩⟩, fun _ => mono_X7_lies (Γ := Γ)⟩ (all_nil))
set_option maxRecDepth 20000 in
theorem ok_X7_isOne (Γ : Cx) : Ok Γ yX7_isOne mX7_isOne (sp_X7_isOne Γ) := by
  refine ok_intro (by decide +kernel) rfl rfl ?_
  intro av σ K h
  unfold sp_X7_isOne at h
  split at h
  · next a p =>
    obtain ⟨fs, h1, h2, h⟩ := obj1_recv h
    obtain ⟨n, h3, h⟩ := fI_recv h
    refine ⟨Nat.le_of_ble_eq_true rfl, yvc_ok (uX7_isOne Γ) (S := []) 40 _ _ _ _ ?_⟩
    simp only [lv_args, Value.category, h1, h2, h3, sp_X7_lies, inL_0, yvc_s, s1i, s2i, s1l, s2l, sil, s1r, sir, siir, slir, srir, svr, sd1, sd2, lg, lput, ldel, isL_i, isL_r, isL_l, jmp, obj, obj1, fI, fR, arI, arL, arR, hput, f4_0, f4_1, f4_2, f4_3, lc_0, lc_1, rok_i, rok_b, rok_y, strF, fput_1, fput_2, csum_nil, csum_i, csum_l, csum_r, va_up_self, bx_uu, Int.reduceAdd, List.elem_nil, List.elem_cons, List.take_succ_cons, List.take_zero, List.drop_succ_cons, List.drop_zero, List.take_nil, List.drop_nil, List.reverse_cons, List.reverse_nil, List.nil_append, List.cons_append, List.append_nil, Option.toList_some, Option.toList_none, List.getElem?_cons_zero, List.getElem?_cons_succ, List.set_cons_zero, List.set_cons_succ, List.length_cons, List.length_nil, reduceIte, reduceCtorEq, and_true, true_and, and_self, or_true, true_or, false_and, and_false, not_true_eq_false, not_false_eq_true, true_implies, false_implies, implies_true, Nat.reduceAdd, Nat.reduceLT, Nat.reduceEqDiff, Nat.reduceLeDiff, Nat.reduceBEq, Nat.zero_add, Nat.lt_add_one, Bool.false_eq_true, Bool.or_false, Bool.or_true, Bool.or_self, Nat.zero_ne_one, Nat.one_ne_zero, ite_true, ite_false, ne_eq, Nat.reduceSub, Nat.succ_eq_add_one, Nat.zero_lt_succ, Nat.add_one_ne_zero, false_or, or_false, mX7_isOne_c, mX7_isOne_n, mX7_isOne_r, mX7_isOne_l, dX7_isOne_0, dX7_isOne_1, dX7_isOne_2, dX7_isOne_3, dX7_isOne_4, fl_7_60_7, dX7_isOne_7, ic_1, dX7_isOne_8, dX7_isOne_9, dX7_isOne_10, dX7_isOne_13, jX7_isOne_1_63, st_aload_n, st_getfield, st_i2l, st_iconst, st_iload_n, st_invokestatic, st_ireturn, st_isub, st_lconst]
    exact ⟨bI_01, h⟩
  · exact h.elim
def sp_X7_isDoor : Cx → YSp := sp_X6_isDoor
theorem mono_X7_isDoor {Γ : Cx} : Mono (sp_X7_isDoor Γ) := mono_X6_isDoor
theorem rv_X7_isDoor {Γ : Cx} : Args (sp_X7_isDoor Γ) 1 := rv_X6_isDoor
def mX7_isDoor : Mt := (⟨1, 0, 0, 25⟩, RX7, cX7_isDoor, 1, some .boolean, (0, 0), none)
theorem mX7_isDoor_c : mX7_isDoor.2.2.1 = cX7_isDoor := rfl
theorem mX7_isDoor_n : mX7_isDoor.2.2.2.1 = 1 := rfl
theorem mX7_isDoor_r : mX7_isDoor.2.2.2.2.1 = some .boolean := rfl
theorem mX7_isDoor_l : mX7_isDoor.2.2.2.2.2.2 = none := rfl
def jX7_isDoor (Γ : Cx) : List ((Nat × Nat) × Nat × Bool × YSp) := [((1, 63), 3, true, sp_X7_lies Γ)]
theorem jX7_isDoor_1_63 (Γ : Cx) : kT (jX7_isDoor Γ) 1 63 = some (3, true, sp_X7_lies Γ) := rfl
theorem uX7_isDoor (Γ : Cx) : TbOK Γ mX7_isDoor (fT fX7, cT kX7, kT (jX7_isDoor Γ)) := tb_ok fX7_ok kX7_ok (all_cons ⟨call_S (n := 3) (ok_X7_lies Γ) (rv_X7_lies (Γ := Γ)) bw_797 bw_795 bw_796 bw_49 no_X7_lies ⟨⟨rfl, rfl⟩, ⟨by decide, by decide⟩, ⟨by decide, by decide⟩⟩, fun _ => mono_X7_lies (Γ := Γ)⟩ (all_nil))
set_option maxRecDepth 20000 in
theorem ok_X7_isDoor (Γ : Cx) : Ok Γ yX7_isDoor mX7_isDoor (sp_X7_isDoor Γ) := by
  refine ok_intro (by decide +kernel) rfl rfl ?_
  intro av σ K h
  unfold sp_X7_isDoor sp_X6_isDoor at h
  split at h
  · next v =>
    refine ⟨Nat.le_of_ble_eq_true rfl, yvc_ok (uX7_isDoor Γ) (S := []) 40 _ _ _ _ ?_⟩
    simp only [lv_args, Value.category, sp_X7_lies, inL_03, yvc_s, s1i, s2i, s1l, s2l, sil, s1r, sir, siir, slir, srir, svr, sd1, sd2, lg, lput, ldel, isL_i, isL_r, isL_l, jmp, obj, obj1, fI, fR, arI, arL, arR, hput, f4_0, f4_1, f4_2, f4_3, lc_0, lc_1, rok_i, rok_b, rok_y, strF, fput_1, fput_2, csum_nil, csum_i, csum_l, csum_r, va_up_self, bx_uu, Int.reduceAdd, List.elem_nil, List.elem_cons, List.take_succ_cons, List.take_zero, List.drop_succ_cons, List.drop_zero, List.take_nil, List.drop_nil, List.reverse_cons, List.reverse_nil, List.nil_append, List.cons_append, List.append_nil, Option.toList_some, Option.toList_none, List.getElem?_cons_zero, List.getElem?_cons_succ, List.set_cons_zero, List.set_cons_succ, List.length_cons, List.length_nil, reduceIte, reduceCtorEq, and_true, true_and, and_self, or_true, true_or, false_and, and_false, not_true_eq_false, not_false_eq_true, true_implies, false_implies, implies_true, Nat.reduceAdd, Nat.reduceLT, Nat.reduceEqDiff, Nat.reduceLeDiff, Nat.reduceBEq, Nat.zero_add, Nat.lt_add_one, Bool.false_eq_true, Bool.or_false, Bool.or_true, Bool.or_self, Nat.zero_ne_one, Nat.one_ne_zero, ite_true, ite_false, ne_eq, Nat.reduceSub, Nat.succ_eq_add_one, Nat.zero_lt_succ, Nat.add_one_ne_zero, false_or, or_false, mX7_isDoor_c, mX7_isDoor_n, mX7_isDoor_r, mX7_isDoor_l, dX7_isDoor_0, dX7_isDoor_1, dX7_isDoor_2, dX7_isDoor_3, cl_7_67, dX7_isDoor_6, dX7_isDoor_9, jX7_isDoor_1_63, st_i2l, st_iload_n, st_invokestatic, st_ireturn, st_lconst, st_ldc2_w]
    exact ⟨bI_01, h⟩
  · exact h.elim
def sp_X7_isSheet : Cx → YSp := sp_X6_isDoor
theorem mono_X7_isSheet {Γ : Cx} : Mono (sp_X7_isSheet Γ) := mono_X6_isDoor
theorem rv_X7_isSheet {Γ : Cx} : Args (sp_X7_isSheet Γ) 1 := rv_X6_isDoor
def mX7_isSheet : Mt := (⟨1, 0, 0, 25⟩, RX7, cX7_isSheet, 1, some .boolean, (0, 0), none)
theorem mX7_isSheet_c : mX7_isSheet.2.2.1 = cX7_isSheet := rfl
theorem mX7_isSheet_n : mX7_isSheet.2.2.2.1 = 1 := rfl
theorem mX7_isSheet_r : mX7_isSheet.2.2.2.2.1 = some .boolean := rfl
theorem mX7_isSheet_l : mX7_isSheet.2.2.2.2.2.2 = none := rfl
def jX7_isSheet (Γ : Cx) : List ((Nat × Nat) × Nat × Bool × YSp) := [((1, 63), 3, true, sp_X7_lies Γ)]
theorem jX7_isSheet_1_63 (Γ : Cx) : kT (jX7_isSheet Γ) 1 63 = some (3, true, sp_X7_lies Γ) := rfl
theorem uX7_isSheet (Γ : Cx) : TbOK Γ mX7_isSheet (fT fX7, cT kX7, kT (jX7_isSheet Γ)) := tb_ok fX7_ok kX7_ok (all_cons ⟨call_S (n := 3) (ok_X7_lies Γ) (rv_X7_lies (Γ := Γ)) bw_797 bw_795 bw_796 bw_49 no_X7_lies ⟨⟨rfl, rfl⟩, ⟨by decide, by decide⟩, ⟨by decide, by decide⟩⟩, fun _ => mono_X7_lies (Γ := Γ)⟩ (all_nil))
set_option maxRecDepth 20000 in
theorem ok_X7_isSheet (Γ : Cx) : Ok Γ yX7_isSheet mX7_isSheet (sp_X7_isSheet Γ) := by
  refine ok_intro (by decide +kernel) rfl rfl ?_
  intro av σ K h
  unfold sp_X7_isSheet sp_X6_isDoor at h
  split at h
  · next v =>
    refine ⟨Nat.le_of_ble_eq_true rfl, yvc_ok (uX7_isSheet Γ) (S := []) 40 _ _ _ _ ?_⟩
    simp only [lv_args, Value.category, sp_X7_lies, inL_03, yvc_s, s1i, s2i, s1l, s2l, sil, s1r, sir, siir, slir, srir, svr, sd1, sd2, lg, lput, ldel, isL_i, isL_r, isL_l, jmp, obj, obj1, fI, fR, arI, arL, arR, hput, f4_0, f4_1, f4_2, f4_3, lc_0, lc_1, rok_i, rok_b, rok_y, strF, fput_1, fput_2, csum_nil, csum_i, csum_l, csum_r, va_up_self, bx_uu, Int.reduceAdd, List.elem_nil, List.elem_cons, List.take_succ_cons, List.take_zero, List.drop_succ_cons, List.drop_zero, List.take_nil, List.drop_nil, List.reverse_cons, List.reverse_nil, List.nil_append, List.cons_append, List.append_nil, Option.toList_some, Option.toList_none, List.getElem?_cons_zero, List.getElem?_cons_succ, List.set_cons_zero, List.set_cons_succ, List.length_cons, List.length_nil, reduceIte, reduceCtorEq, and_true, true_and, and_self, or_true, true_or, false_and, and_false, not_true_eq_false, not_false_eq_true, true_implies, false_implies, implies_true, Nat.reduceAdd, Nat.reduceLT, Nat.reduceEqDiff, Nat.reduceLeDiff, Nat.reduceBEq, Nat.zero_add, Nat.lt_add_one, Bool.false_eq_true, Bool.or_false, Bool.or_true, Bool.or_self, Nat.zero_ne_one, Nat.one_ne_zero, ite_true, ite_false, ne_eq, Nat.reduceSub, Nat.succ_eq_add_one, Nat.zero_lt_succ, Nat.add_one_ne_zero, false_or, or_false, mX7_isSheet_c, mX7_isSheet_n, mX7_isSheet_r, mX7_isSheet_l, dX7_isSheet_0, dX7_isSheet_1, dX7_isSheet_2, dX7_isSheet_3, cl_7_67, dX7_isSheet_6, dX7_isSheet_9, jX7_isSheet_1_63, st_i2l, st_iload_n, st_invokestatic, st_ireturn, st_lconst, st_ldc2_w]
    exact ⟨bI_01, h⟩
  · exact h.elim
def sp_X7_isLane : Cx → YSp := sp_X6_isDoor
theorem mono_X7_isLane {Γ : Cx} : Mono (sp_X7_isLane Γ) := mono_X6_isDoor
theorem rv_X7_isLane {Γ : Cx} : Args (sp_X7_isLane Γ) 1 := rv_X6_isDoor
def mX7_isLane : Mt := (⟨1, 0, 0, 25⟩, RX7, cX7_isLane, 1, some .boolean, (0, 0), none)
theorem mX7_isLane_c : mX7_isLane.2.2.1 = cX7_isLane := rfl
theorem mX7_isLane_n : mX7_isLane.2.2.2.1 = 1 := rfl
theorem mX7_isLane_r : mX7_isLane.2.2.2.2.1 = some .boolean := rfl
theorem mX7_isLane_l : mX7_isLane.2.2.2.2.2.2 = none := rfl
def jX7_isLane (Γ : Cx) : List ((Nat × Nat) × Nat × Bool × YSp) := [((1, 63), 3, true, sp_X7_lies Γ)]
theorem jX7_isLane_1_63 (Γ : Cx) : kT (jX7_isLane Γ) 1 63 = some (3, true, sp_X7_lies Γ) := rfl
theorem uX7_isLane (Γ : Cx) : TbOK Γ mX7_isLane (fT fX7, cT kX7, kT (jX7_isLane Γ)) := tb_ok fX7_ok kX7_ok (all_cons ⟨call_S (n := 3) (ok_X7_lies Γ) (rv_X7_lies (Γ := Γ)) bw_797 bw_795 bw_796 bw_49 no_X7_lies ⟨⟨rfl, rfl⟩, ⟨by decide, by decide⟩, ⟨by decide, by decide⟩⟩, fun _ => mono_X7_lies (Γ := Γ)⟩ (all_nil))
set_option maxRecDepth 20000 in
theorem ok_X7_isLane (Γ : Cx) : Ok Γ yX7_isLane mX7_isLane (sp_X7_isLane Γ) := by
  refine ok_intro (by decide +kernel) rfl rfl ?_
  intro av σ K h
  unfold sp_X7_isLane sp_X6_isDoor at h
  split at h
  · next v =>
    refine ⟨Nat.le_of_ble_eq_true rfl, yvc_ok (uX7_isLane Γ) (S := []) 40 _ _ _ _ ?_⟩
    simp only [lv_args, Value.category, sp_X7_lies, inL_03, yvc_s, s1i, s2i, s1l, s2l, sil, s1r, sir, siir, slir, srir, svr, sd1, sd2, lg, lput, ldel, isL_i, isL_r, isL_l, jmp, obj, obj1, fI, fR, arI, arL, arR, hput, f4_0, f4_1, f4_2, f4_3, lc_0, lc_1, rok_i, rok_b, rok_y, strF, fput_1, fput_2, csum_nil, csum_i, csum_l, csum_r, va_up_self, bx_uu, Int.reduceAdd, List.elem_nil, List.elem_cons, List.take_succ_cons, List.take_zero, List.drop_succ_cons, List.drop_zero, List.take_nil, List.drop_nil, List.reverse_cons, List.reverse_nil, List.nil_append, List.cons_append, List.append_nil, Option.toList_some, Option.toList_none, List.getElem?_cons_zero, List.getElem?_cons_succ, List.set_cons_zero, List.set_cons_succ, List.length_cons, List.length_nil, reduceIte, reduceCtorEq, and_true, true_and, and_self, or_true, true_or, false_and, and_false, not_true_eq_false, not_false_eq_true, true_implies, false_implies, implies_true, Nat.reduceAdd, Nat.reduceLT, Nat.reduceEqDiff, Nat.reduceLeDiff, Nat.reduceBEq, Nat.zero_add, Nat.lt_add_one, Bool.false_eq_true, Bool.or_false, Bool.or_true, Bool.or_self, Nat.zero_ne_one, Nat.one_ne_zero, ite_true, ite_false, ne_eq, Nat.reduceSub, Nat.succ_eq_add_one, Nat.zero_lt_succ, Nat.add_one_ne_zero, false_or, or_false, mX7_isLane_c, mX7_isLane_n, mX7_isLane_r, mX7_isLane_l, dX7_isLane_0, dX7_isLane_1, dX7_isLane_2, dX7_isLane_3, cl_7_67, dX7_isLane_6, dX7_isLane_9, jX7_isLane_1_63, st_i2l, st_iload_n, st_invokestatic, st_ireturn, st_lconst, st_ldc2_w]
    exact ⟨bI_01, h⟩
  · exact h.elim
