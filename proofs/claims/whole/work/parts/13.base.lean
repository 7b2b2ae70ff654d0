/-! ===== small words for specs ===== -/
def bI (b : Bool) : Int32 := if b = true then 1 else 0
theorem bI_t : bI true = 1 := rfl
theorem bI_f : bI false = 0 := rfl
theorem bI_eq0 {b : Bool} : bI b = 0 ↔ b = false := by cases b <;> simp [bI]
theorem bI_ne0 {b : Bool} : ¬ bI b = 0 ↔ b = true := by cases b <;> simp [bI]
theorem bI_01 {b : Bool} : bI b = 0 ∨ bI b = 1 := by cases b <;> simp [bI]
/-- a ≤ v ≤ b -/
def inr (v a b : Int32) : Bool := decide (a ≤ v) && decide (v ≤ b)
theorem inr_iff {v a b : Int32} : inr v a b = true ↔ a ≤ v ∧ v ≤ b := by simp [inr]
theorem inr_no {v a b : Int32} : inr v a b = false ↔ ¬ (a ≤ v ∧ v ≤ b) := by
  cases h : inr v a b
  · simp only [true_iff]
    intro z
    rw [inr_iff.mpr z] at h
    cases h
  · simp only [Bool.true_eq_false, false_iff, Classical.not_not]
    exact inr_iff.mp h
/-- an object of class number ci -/
def obj1 (σ : Hp) (a ci : Nat) (k : List Value → Prop) : Prop := a ∈ σ.1 ∧ (match σ.2 a with | .inr (c, fs) => c = ci ∧ k fs | _ => False)
def fI (fs : List Value) (j : Nat) (k : Int32 → Prop) : Prop := match fs[j]? with | some (.int x) => k x | _ => False
def fR (fs : List Value) (j : Nat) (k : Nat → Prop) : Prop := match fs[j]? with | some (.ref x) => k x | _ => False
theorem obj1_mono {σ : Hp} {a ci : Nat} {k k' : List Value → Prop} (hk : ∀ fs, k fs → k' fs) (h : obj1 σ a ci k) : obj1 σ a ci k' := by
  obtain ⟨h1, h2⟩ := h
  refine ⟨h1, ?_⟩
  split at h2
  · exact ⟨h2.1, hk _ h2.2⟩
  · exact h2.elim
theorem obj1_recv {σ : Hp} {a ci : Nat} {k : List Value → Prop} (h : obj1 σ a ci k) : ∃ fs, a ∈ σ.1 ∧ σ.2 a = .inr (ci, fs) ∧ k fs := by
  obtain ⟨h1, h2⟩ := h
  split at h2
  · next c fs e => exact ⟨fs, h1, by rw [e, h2.1], h2.2⟩
  · exact h2.elim
theorem fI_mono {fs : List Value} {j : Nat} {k k' : Int32 → Prop} (hk : ∀ x, k x → k' x) (h : fI fs j k) : fI fs j k' := by
  unfold fI at h ⊢
  split at h
  · exact hk _ h
  · exact h.elim
theorem fR_mono {fs : List Value} {j : Nat} {k k' : Nat → Prop} (hk : ∀ x, k x → k' x) (h : fR fs j k) : fR fs j k' := by
  unfold fR at h ⊢
  split at h
  · exact hk _ h
  · exact h.elim
theorem arI_recv {Γ : Cx} {σ : Hp} {a : Nat} {k : Nat → (Nat → Int32) → Prop} (h : arI Γ σ a k) : ∃ n f, a ∈ σ.1 ∧ σ.2 a = .inl (Γ.2.2.2.1 0, n, .inl f) ∧ k n f := by
  obtain ⟨h1, h2⟩ := h
  split at h2
  · next c n f e => exact ⟨n, f, h1, by rw [e, h2.1], h2.2⟩
  · exact h2.elim
theorem fI_recv {fs : List Value} {j : Nat} {k : Int32 → Prop} (h : fI fs j k) : ∃ x, fs[j]? = some (.int x) ∧ k x := by
  unfold fI at h
  split at h
  · next x e => exact ⟨x, e, h⟩
  · exact h.elim
theorem fR_recv {fs : List Value} {j : Nat} {k : Nat → Prop} (h : fR fs j k) : ∃ x, fs[j]? = some (.ref x) ∧ k x := by
  unfold fR at h
  split at h
  · next x e => exact ⟨x, e, h⟩
  · exact h.elim
/-- an int array's cell -/
def iA (Γ : Cx) (n : Nat) (f : Nat → Int32) : va_E := .inl (Γ.2.2.2.1 0, n, .inl f)
def lA (Γ : Cx) (n : Nat) (f : Nat → Int64) : va_E := .inl (Γ.2.2.2.1 1, n, .inr (.inl f))
theorem f4_0 : (Fin.val (0 : Fin 4)) = 0 := rfl
theorem f4_1 : (Fin.val (1 : Fin 4)) = 1 := rfl
theorem f4_2 : (Fin.val (2 : Fin 4)) = 2 := rfl
theorem f4_3 : (Fin.val (3 : Fin 4)) = 3 := rfl
theorem lc_0 : Int64.ofNat (Fin.val (0 : Fin 2)) = 0 := rfl
theorem lc_1 : Int64.ofNat (Fin.val (1 : Fin 2)) = 1 := rfl
theorem rok_i {v : Int32} : rok (some .int) v = True := rfl
theorem rok_b {v : Int32} : rok (some .boolean) v = (v = 0 ∨ v = 1) := rfl
theorem fput_1 {x : Int32} : fput 1 x = True := rfl
theorem fput_2 {x : Int32} : fput 2 x = (x = 0 ∨ x = 1) := rfl
theorem csum_nil : csum [] = 0 := rfl
theorem csum_i {x : Int32} {r : List Value} : csum (.int x :: r) = 1 + csum r := rfl
theorem csum_l {x : Int64} {r : List Value} : csum (.long x :: r) = 2 + csum r := rfl
theorem csum_r {x : Nat} {r : List Value} : csum (.ref x :: r) = 1 + csum r := rfl
theorem isL_i {x : Int32} : isL (.int x) = false := rfl
theorem isL_r {x : Nat} : isL (.ref x) = false := rfl
theorem isL_l {x : Int64} : isL (.long x) = true := rfl
theorem rok_y {v : Int32} : rok (some .byte) v = (v = 0) := rfl
