/-! ===== College: its cells as one value ===== -/
/-- wants, keepers, kinds, day, gone, draw, how many people, rule, doors gone in -/
abbrev CS : Type := (Nat → Int32) × (Nat → Int32) × (Nat → Int32) × Int32 × Int32 × Int32 × Nat × Int32 × Int32
/-- object, wants, keepers, kinds -/
abbrev CA : Type := Nat × Nat × Nat × Nat
def ColE (A : CA) (s : CS) : va_E := .inr (0, [.ref A.2.1, .ref A.2.2.1, .int s.2.2.2.1, .int s.2.2.2.2.1, .int s.2.2.2.2.2.1, .ref A.2.2.2, .int (nI s.2.2.2.2.2.2.1), .int s.2.2.2.2.2.2.2.1, .int s.2.2.2.2.2.2.2.2])
def Col (Γ : Cx) (A : CA) (s : CS) (σ : Hp) : Prop := (A.1 ∈ σ.1 ∧ A.2.1 ∈ σ.1 ∧ A.2.2.1 ∈ σ.1 ∧ A.2.2.2 ∈ σ.1) ∧ σ.2 A.1 = ColE A s ∧ σ.2 A.2.1 = iA Γ 20 s.1 ∧ σ.2 A.2.2.1 = iA Γ 4 s.2.1 ∧ σ.2 A.2.2.2 = iA Γ 5 s.2.2.1
def cset (Γ : Cx) (A : CA) (s : CS) (σ : Hp) : Hp := (σ.1, va_up (va_up (va_up (va_up σ.2 A.1 (ColE A s)) A.2.1 (iA Γ 20 s.1)) A.2.2.1 (iA Γ 4 s.2.1)) A.2.2.2 (iA Γ 5 s.2.2.1))
theorem iA_ne {Γ : Cx} {n m : Nat} {f g : Nat → Int32} (h : n ≠ m) : iA Γ n f ≠ iA Γ m g := fun e => by
  unfold iA at e
  simp only [Sum.inl.injEq, Prod.mk.injEq] at e
  exact h e.2.1
theorem iA_neO {Γ : Cx} {n : Nat} {f : Nat → Int32} {A : CA} {s : CS} : iA Γ n f ≠ ColE A s := fun e => by
  unfold iA ColE at e
  cases e
theorem Col.ne {Γ : Cx} {A : CA} {s : CS} {σ : Hp} (h : Col Γ A s σ) : (A.2.1 ≠ A.1 ∧ A.2.2.1 ≠ A.1 ∧ A.2.2.2 ≠ A.1) ∧ (A.2.2.1 ≠ A.2.1 ∧ A.2.2.2 ≠ A.2.1) ∧ A.2.2.2 ≠ A.2.2.1 := by
  obtain ⟨-, e1, e2, e3, e4⟩ := h
  refine ⟨⟨fun e => ?_, fun e => ?_, fun e => ?_⟩, ⟨fun e => ?_, fun e => ?_⟩, fun e => ?_⟩
  · rw [e, e1] at e2; exact iA_neO e2.symm
  · rw [e, e1] at e3; exact iA_neO e3.symm
  · rw [e, e1] at e4; exact iA_neO e4.symm
  · rw [e, e2] at e3; exact iA_ne (by decide) e3
  · rw [e, e2] at e4; exact iA_ne (by decide) e4
  · rw [e, e3] at e4; exact iA_ne (by decide) e4
theorem Col.set {Γ : Cx} {A : CA} {s : CS} {σ : Hp} (h : Col Γ A s σ) (s' : CS) : Col Γ A s' (cset Γ A s' σ) := by
  obtain ⟨⟨n1, n2, n3⟩, ⟨n4, n5⟩, n6⟩ := h.ne
  refine ⟨h.1, ?_, ?_, ?_, ?_⟩
  · simp only [cset, va_up, if_neg n1.symm, if_neg n2.symm, if_neg n3.symm, ↓reduceIte]
  · simp only [cset, va_up, if_neg n4.symm, if_neg n5.symm, ↓reduceIte]
  · simp only [cset, va_up, if_neg n6.symm, ↓reduceIte]
  · simp only [cset, va_up, ↓reduceIte]
theorem cset_cset {Γ : Cx} {A : CA} {s s' : CS} {σ : Hp} : cset Γ A s' (cset Γ A s σ) = cset Γ A s' σ := by
  refine Prod.ext rfl (funext fun q => ?_)
  simp only [cset, va_up]
  by_cases c4 : q = A.2.2.2 <;> by_cases c3 : q = A.2.2.1 <;> by_cases c2 : q = A.2.1 <;> by_cases c1 : q = A.1 <;> simp only [c1, c2, c3, c4, ↓reduceIte]
theorem Col.self {Γ : Cx} {A : CA} {s : CS} {σ : Hp} (h : Col Γ A s σ) : cset Γ A s σ = σ := by
  refine Prod.ext rfl (funext fun q => ?_)
  simp only [cset, va_up]
  obtain ⟨-, e1, e2, e3, e4⟩ := h
  by_cases c4 : q = A.2.2.2
  · simp only [c4, ↓reduceIte]; exact e4.symm
  · by_cases c3 : q = A.2.2.1
    · rw [if_neg c4]; simp only [c3, ↓reduceIte]; exact e3.symm
    · by_cases c2 : q = A.2.1
      · rw [if_neg c4, if_neg c3]; simp only [c2, ↓reduceIte]; exact e2.symm
      · by_cases c1 : q = A.1
        · rw [if_neg c4, if_neg c3, if_neg c2]; simp only [c1, ↓reduceIte]; exact e1.symm
        · rw [if_neg c4, if_neg c3, if_neg c2, if_neg c1]
theorem cset_ne {Γ : Cx} {A : CA} {s : CS} {σ : Hp} {q : Nat} (h1 : q ≠ A.1) (h2 : q ≠ A.2.1) (h3 : q ≠ A.2.2.1) (h4 : q ≠ A.2.2.2) : (cset Γ A s σ).2 q = σ.2 q := by
  simp only [cset, va_up, if_neg h1, if_neg h2, if_neg h3, if_neg h4]
/-- one field of the object -/
theorem Col.put {Γ : Cx} {A : CA} {s : CS} {σ : Hp} (h : Col Γ A s σ) (s' : CS) (h1 : s'.1 = s.1) (h2 : s'.2.1 = s.2.1) (h3 : s'.2.2.1 = s.2.2.1) : hput σ A.1 (ColE A s') = cset Γ A s' σ := by
  refine Prod.ext rfl (funext fun q => ?_)
  obtain ⟨-, e1, e2, e3, e4⟩ := h
  simp only [cset, hput, va_up, h1, h2, h3]
  by_cases c4 : q = A.2.2.2
  · rw [if_pos c4]
    by_cases c1 : q = A.1
    · exact absurd (e4.symm.trans (by rw [← c4, c1]; exact e1)) (iA_neO (A := A) (s := s))
    · rw [if_neg c1, c4]; exact e4
  · rw [if_neg c4]
    by_cases c3 : q = A.2.2.1
    · rw [if_pos c3]
      by_cases c1 : q = A.1
      · exact absurd (e3.symm.trans (by rw [← c3, c1]; exact e1)) (iA_neO (A := A) (s := s))
      · rw [if_neg c1, c3]; exact e3
    · rw [if_neg c3]
      by_cases c2 : q = A.2.1
      · rw [if_pos c2]
        by_cases c1 : q = A.1
        · exact absurd (e2.symm.trans (by rw [← c2, c1]; exact e1)) (iA_neO (A := A) (s := s))
        · rw [if_neg c1, c2]; exact e2
      · rw [if_neg c2]
theorem Col.putW {Γ : Cx} {A : CA} {s : CS} {σ : Hp} (h : Col Γ A s σ) (w : Nat → Int32) : hput σ A.2.1 (iA Γ 20 w) = cset Γ A (w, s.2) σ := by
  obtain ⟨⟨n1, n2, n3⟩, ⟨n4, n5⟩, n6⟩ := h.ne
  refine Prod.ext rfl (funext fun q => ?_)
  obtain ⟨-, e1, e2, e3, e4⟩ := h
  simp only [cset, hput, va_up]
  by_cases c2 : q = A.2.1
  · rw [if_pos c2, if_neg (c2 ▸ n5.symm), if_neg (c2 ▸ n4.symm), if_pos c2]
  · rw [if_neg c2]
    by_cases c4 : q = A.2.2.2
    · rw [if_pos c4, c4]; exact e4
    · rw [if_neg c4]
      by_cases c3 : q = A.2.2.1
      · rw [if_pos c3, c3]; exact e3
      · rw [if_neg c3, if_neg c2]
        by_cases c1 : q = A.1
        · rw [if_pos c1, c1]; exact e1
        · rw [if_neg c1]
theorem Col.putK {Γ : Cx} {A : CA} {s : CS} {σ : Hp} (h : Col Γ A s σ) (k : Nat → Int32) : hput σ A.2.2.1 (iA Γ 4 k) = cset Γ A (s.1, k, s.2.2) σ := by
  obtain ⟨⟨n1, n2, n3⟩, ⟨n4, n5⟩, n6⟩ := h.ne
  refine Prod.ext rfl (funext fun q => ?_)
  obtain ⟨-, e1, e2, e3, e4⟩ := h
  simp only [cset, hput, va_up]
  by_cases c3 : q = A.2.2.1
  · rw [if_pos c3, if_neg (c3 ▸ n6.symm), if_pos c3]
  · rw [if_neg c3]
    by_cases c4 : q = A.2.2.2
    · rw [if_pos c4, c4]; exact e4
    · rw [if_neg c4, if_neg c3]
      by_cases c2 : q = A.2.1
      · rw [if_pos c2, c2]; exact e2
      · rw [if_neg c2]
        by_cases c1 : q = A.1
        · rw [if_pos c1, c1]; exact e1
        · rw [if_neg c1]
theorem Col.putD {Γ : Cx} {A : CA} {s : CS} {σ : Hp} (h : Col Γ A s σ) (k : Nat → Int32) : hput σ A.2.2.2 (iA Γ 5 k) = cset Γ A (s.1, s.2.1, k, s.2.2.2) σ := by
  obtain ⟨⟨n1, n2, n3⟩, ⟨n4, n5⟩, n6⟩ := h.ne
  refine Prod.ext rfl (funext fun q => ?_)
  obtain ⟨-, e1, e2, e3, e4⟩ := h
  simp only [cset, hput, va_up]
  by_cases c4 : q = A.2.2.2
  · rw [if_pos c4, if_pos c4]
  · rw [if_neg c4, if_neg c4]
    by_cases c3 : q = A.2.2.1
    · rw [if_pos c3, c3]; exact e3
    · rw [if_neg c3]
      by_cases c2 : q = A.2.1
      · rw [if_pos c2, c2]; exact e2
      · rw [if_neg c2]
        by_cases c1 : q = A.1
        · rw [if_pos c1, c1]; exact e1
        · rw [if_neg c1]
theorem col_rv {Γ : Cx} {A : CA} {s : CS} {σ : Hp} (h : Col Γ A s σ) : ∃ fs, A.1 ∈ σ.1 ∧ σ.2 A.1 = .inr (0, fs) := ⟨_, h.1.1, h.2.1⟩
/-! numbers -/
theorem lt4 {j : Nat} (h : j < 4) : (¬ (4 : Int32) ≤ nI j) ∧ vp_in (nI j) 4 ∧ (nI j).toNatClampNeg = j := ⟨nI_ge h (by decide), vp_in_nI h (by decide), nI_clamp (by omega)⟩
theorem ge4 : (4 : Int32) ≤ nI 4 := by decide
def ix (p d : Int32) : Nat := (p * 4 + d).toNatClampNeg
theorem ix_n {p d : Nat} (hp : p < 5) (hd : d < 4) : ix (nI p) (nI d) = 4 * p + d := by
  unfold ix
  rw [show (4 : Int32) = nI 4 from rfl, pk_mul, nI_add, nI_clamp (by omega)]
  omega
theorem ix_in {p d : Nat} (hp : p < 5) (hd : d < 4) : vp_in (nI p * 4 + nI d) 20 := by
  rw [show (4 : Int32) = nI 4 from rfl, pk_mul, nI_add]
  exact vp_in_nI (by omega) (by decide)
def cap20 (x : Int32) : Int32 := if x < 20 then x else 20
def wmore (w : Nat → Int32) (p d n : Int32) : Nat → Int32 := upd w (ix p d) (cap20 (w (ix p d) + n))
def wsum (w : Nat → Int32) (p : Int32) : Nat → Int32
  | 0 => 0
  | n + 1 => wsum w p n + w (ix p (nI n))
def wall (w : Nat → Int32) : Nat → Int32
  | 0 => 0
  | n + 1 => wall w n + wsum w (nI n) 4
def kset (kp : Nat → Int32) (p : Int32) : Nat → Int32
  | 0 => 0
  | n + 1 => if kp n = p then kset kp p n ||| (1 <<< (nI n &&& 31)) else kset kp p n
def kas (k : Int32) : Int32 := if k = -4 then 0 else 1 <<< (k &&& 31)
def kany (kp : Nat → Int32) : Nat → Int32
  | 0 => 0
  | n + 1 => kany kp n ||| kas (kp n)
def lst (w : Nat → Int32) (d : Int32) : Nat → Int32 × Int32
  | 0 => (-4, 21)
  | n + 1 => if w (ix (nI n) d) < (lst w d n).2 then (nI n, w (ix (nI n) d)) else lst w d n
def warm (day : Int32) : Int32 := if day - day / 2 * 2 = 0 then 1 else 0
def growth (s : CS) (d : Nat) : Int32 :=
  if s.2.1 d = -4 then 0
  else if s.2.2.1 (s.2.1 d).toNatClampNeg = 1 then bcE (kset s.2.1 (s.2.1 d) 4)
  else if s.2.2.1 (s.2.1 d).toNatClampNeg = 2 then warm s.2.2.2.1
  else if s.2.2.1 (s.2.1 d).toNatClampNeg = 3 then 2 * bcE (kset s.2.1 (s.2.1 d) 4)
  else if s.2.2.1 (s.2.1 d).toNatClampNeg = 4 then (if s.1 (ix (s.2.1 d) (nI d)) < 9 then warm s.2.2.2.1 else 0)
  else 1
def g1 (s : CS) (d : Nat) : CS := if s.2.1 d = -4 then s else (wmore s.1 (s.2.1 d) (nI d) (growth s d), s.2)
def gN (s : CS) : Nat → CS
  | 0 => s
  | n + 1 => g1 (gN s n) n
def tk (s : CS) (d : Nat) : CS :=
  if s.1 (ix (s.2.1 d) (nI d)) < s.2.2.2.2.2.2.2.1 + 4 then
    (if s.1 (ix (s.2.1 d) (nI d)) < s.2.2.2.2.2.2.2.1 then s else (s.1, upd s.2.1 d (lst s.1 (nI d) s.2.2.2.2.2.2.1).1, s.2.2))
  else (upd s.1 (ix (s.2.1 d) (nI d)) 0, s.2.1, s.2.2.1, s.2.2.2.1, s.2.2.2.2.1 + 1, s.2.2.2.2.2.1, s.2.2.2.2.2.2.1, s.2.2.2.2.2.2.2.1, s.2.2.2.2.2.2.2.2 ||| (1 <<< (nI d &&& 31)))
def t1 (s : CS) (d : Nat) : CS := if s.2.1 d = -4 then s else tk s d
def tN (s : CS) : Nat → CS
  | 0 => s
  | n + 1 => t1 (tN s n) n
def gd0 (s : CS) : CS := (s.1, s.2.1, s.2.2.1, s.2.2.2.1, s.2.2.2.2.1, s.2.2.2.2.2.1, s.2.2.2.2.2.2.1, s.2.2.2.2.2.2.2.1, 0)
def dayUp (s : CS) : CS := (s.1, s.2.1, s.2.2.1, s.2.2.2.1 + 1, s.2.2.2.2)
def dayC (s : CS) : CS := dayUp (tN (gd0 (gN s 4)) 4)
def daysC (s : CS) : Nat → CS
  | 0 => s
  | n + 1 => dayC (daysC s n)
/-- people at most five; each keeper nobody or one of them -/
def WfC (s : CS) : Prop := s.2.2.2.2.2.2.1 ≤ 5 ∧ ∀ d, d < 4 → s.2.1 d = -4 ∨ ∃ q, q < s.2.2.2.2.2.2.1 ∧ s.2.1 d = nI q
theorem lst_wf (w : Nat → Int32) (d : Int32) : ∀ n : Nat, (lst w d n).1 = -4 ∨ ∃ q, q < n ∧ (lst w d n).1 = nI q
  | 0 => Or.inl rfl
  | n + 1 => by
    unfold lst
    split
    · exact Or.inr ⟨n, Nat.lt_succ_self n, rfl⟩
    · rcases lst_wf w d n with h | ⟨q, h1, h2⟩
      · exact Or.inl h
      · exact Or.inr ⟨q, by omega, h2⟩
theorem g1_eq (s : CS) (d : Nat) : (g1 s d).2 = s.2 := by unfold g1; split <;> rfl
theorem gN_eq (s : CS) : ∀ n : Nat, (gN s n).2 = s.2
  | 0 => rfl
  | n + 1 => (g1_eq _ n).trans (gN_eq s n)
theorem WfC.same {s s' : CS} (h : WfC s) (e1 : s'.2.1 = s.2.1) (e2 : s'.2.2.2.2.2.2.1 = s.2.2.2.2.2.2.1) : WfC s' := by
  unfold WfC
  rw [e1, e2]
  exact h
theorem gN_wf {s : CS} (h : WfC s) (n : Nat) : WfC (gN s n) := h.same (by rw [gN_eq]) (by rw [gN_eq])
theorem t1_wf {s : CS} (h : WfC s) (d : Nat) : WfC (t1 s d) ∧ (t1 s d).2.2.2.2.2.2.1 = s.2.2.2.2.2.2.1 := by
  unfold t1
  split
  · exact ⟨h, rfl⟩
  · unfold tk
    split
    · split
      · exact ⟨h, rfl⟩
      · refine ⟨⟨h.1, fun q hq => ?_⟩, rfl⟩
        by_cases e : q = d
        · subst e
          show upd s.2.1 q (lst s.1 (nI q) s.2.2.2.2.2.2.1).1 q = -4 ∨ ∃ p, p < s.2.2.2.2.2.2.1 ∧ upd s.2.1 q (lst s.1 (nI q) s.2.2.2.2.2.2.1).1 q = nI p
          rw [pk_us]
          exact lst_wf _ _ _
        · show upd s.2.1 d (lst s.1 (nI d) s.2.2.2.2.2.2.1).1 q = -4 ∨ ∃ p, p < s.2.2.2.2.2.2.1 ∧ upd s.2.1 d (lst s.1 (nI d) s.2.2.2.2.2.2.1).1 q = nI p
          rw [pk_un e]
          exact h.2 q hq
    · exact ⟨h.same rfl rfl, rfl⟩
theorem tN_wf {s : CS} (h : WfC s) : ∀ n : Nat, WfC (tN s n) ∧ (tN s n).2.2.2.2.2.2.1 = s.2.2.2.2.2.2.1
  | 0 => ⟨h, rfl⟩
  | n + 1 => ⟨(t1_wf (tN_wf h n).1 n).1, (t1_wf (tN_wf h n).1 n).2.trans (tN_wf h n).2⟩
theorem gd0_wf {s : CS} (h : WfC s) : WfC (gd0 s) := h.same rfl rfl
theorem gd0_p (s : CS) : (gd0 s).2.2.2.2.2.2.1 = s.2.2.2.2.2.2.1 := rfl
theorem dayUp_wf {s : CS} (h : WfC s) : WfC (dayUp s) := h.same rfl rfl
theorem dayUp_p (s : CS) : (dayUp s).2.2.2.2.2.2.1 = s.2.2.2.2.2.2.1 := rfl
theorem dayC_wf {s : CS} (h : WfC s) : WfC (dayC s) ∧ (dayC s).2.2.2.2.2.2.1 = s.2.2.2.2.2.2.1 := by
  unfold dayC
  have h1 := tN_wf (gd0_wf (gN_wf h 4)) 4
  refine ⟨dayUp_wf h1.1, ?_⟩
  rw [dayUp_p, h1.2, gd0_p, gN_eq]
theorem daysC_wf {s : CS} (h : WfC s) : ∀ n : Nat, WfC (daysC s n) ∧ (daysC s n).2.2.2.2.2.2.1 = s.2.2.2.2.2.2.1
  | 0 => ⟨h, rfl⟩
  | n + 1 => by
    have h1 := daysC_wf h n
    have h2 := dayC_wf h1.1
    rw [daysC]
    exact ⟨h2.1, h2.2.trans h1.2⟩
