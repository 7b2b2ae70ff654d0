/-! ===== YawnKeys: its cells as one value ===== -/
/-- now, imaged, past, imaged past, whether there is an image, the tape, the sheets -/
abbrev XS : Type := CS × CS × ((Nat → MC) × Nat) × ((Nat → MC) × Nat) × Bool × ((Nat → Int32) × Nat) × (Nat → SS)
/-- object, array of sheets, now, trial, past, imaged, imaged past, tape, plan, sheets -/
abbrev XA : Type := Nat × Nat × CA × CA × Nat × CA × Nat × (Nat × Nat) × (Nat × Nat) × (Nat → Nat × Nat)
def fL (lab : Nat → Nat) (k : Nat) : Nat → Prop := fun q => lab q = k
def XE (X : XA) (h : Bool) : va_E := .inr (6, [.ref X.2.2.1.1, .ref X.2.2.2.1.1, .ref X.2.2.2.2.1, .ref X.2.2.2.2.2.1.1, .ref X.2.2.2.2.2.2.1, .int (bI h), .ref X.2.2.2.2.2.2.2.1.1, .ref X.2.2.2.2.2.2.2.2.1.1, .ref X.2.1])
def shA (Γ : Cx) (f : Nat → Option Nat) : va_E := .inl (Γ.2.2.2.1 3, 4, .inr (.inr (.inr (.inr f))))
def XW (Γ : Cx) (lab : Nat → Nat) (X : XA) (ψ : XS) (σ : Hp) : Prop :=
  (X.1 ∈ σ.1 ∧ X.2.1 ∈ σ.1 ∧ lab X.1 = 0 ∧ lab X.2.1 = 0) ∧ σ.2 X.1 = XE X ψ.2.2.2.2.1 ∧ (∃ f, σ.2 X.2.1 = shA Γ f ∧ ∀ j, j < 4 → f j = some (X.2.2.2.2.2.2.2.2.2 j).1) ∧
  (Col Γ X.2.2.1 ψ.1 σ ∧ ∀ q, CF X.2.2.1 q → lab q = 1) ∧ ((∃ t, Col Γ X.2.2.2.1 t σ) ∧ ∀ q, CF X.2.2.2.1 q → lab q = 2) ∧
  PastAt Γ (fL lab 3) X.2.2.2.2.1 ψ.2.2.1.1 ψ.2.2.1.2 σ ∧ (Col Γ X.2.2.2.2.2.1 ψ.2.1 σ ∧ ∀ q, CF X.2.2.2.2.2.1 q → lab q = 4) ∧ PastAt Γ (fL lab 5) X.2.2.2.2.2.2.1 ψ.2.2.2.1.1 ψ.2.2.2.1.2 σ ∧
  ((∃ p, Tp Γ X.2.2.2.2.2.2.2.1 ψ.2.2.2.2.2.1.1 ψ.2.2.2.2.2.1.2 p σ) ∧ (∀ q, SF X.2.2.2.2.2.2.2.1 q → lab q = 6) ∧ ψ.2.2.2.2.2.1.2 ≤ 50) ∧
  ((∃ s, Pl Γ X.2.2.2.2.2.2.2.2.1 s σ) ∧ ∀ q, SF X.2.2.2.2.2.2.2.2.1 q → lab q = 7) ∧ ∀ j, j < 4 → Sh Γ (X.2.2.2.2.2.2.2.2.2 j) (ψ.2.2.2.2.2.2 j) σ ∧ ∀ q, SF (X.2.2.2.2.2.2.2.2.2 j) q → lab q = 8 + j
theorem nJ {lab : Nat → Nat} {J : Nat → Prop} {k q : Nat} (h : lab q = k) (hJ : ¬ J k) : ¬ (fun q => J (lab q)) q := fun z => hJ (by have z' : J (lab q) := z; rw [h] at z'; exact z')
theorem keepC {Γ : Cx} {lab : Nat → Nat} {k : Nat} {J : Nat → Prop} {A : CA} {s : CS} {σ σ' : Hp} (h : Col Γ A s σ) (hl : ∀ q, CF A q → lab q = k) (hf : frm (fun q => J (lab q)) σ σ') (hJ : ¬ J k) : Col Γ A s σ' := h.keep hf.1 (fun q hq => hf.2 q (nJ (hl q hq) hJ))
theorem keepP {Γ : Cx} {lab : Nat → Nat} {k : Nat} {J : Nat → Prop} {p : Nat} {c : Nat → MC} {n : Nat} {σ σ' : Hp} (h : PastAt Γ (fL lab k) p c n σ) (hf : frm (fun q => J (lab q)) σ σ') (hJ : ¬ J k) : PastAt Γ (fL lab k) p c n σ' := h.keep hf (fun q hq => nJ hq hJ)
/-- what changes only in cells of some labels keeps all the others -/
theorem XW.keep {Γ : Cx} {lab : Nat → Nat} {X : XA} {ψ ψ' : XS} {σ σ' : Hp} {J : Nat → Prop} (h : XW Γ lab X ψ σ) (hf : frm (fun q => J (lab q)) σ σ') (h0 : ¬ J 0 ∧ ψ'.2.2.2.2.1 = ψ.2.2.2.2.1)
    (h1 : (¬ J 1 ∧ ψ'.1 = ψ.1) ∨ Col Γ X.2.2.1 ψ'.1 σ') (h2 : ¬ J 2 ∨ ∃ t, Col Γ X.2.2.2.1 t σ') (h3 : (¬ J 3 ∧ ψ'.2.2.1 = ψ.2.2.1) ∨ PastAt Γ (fL lab 3) X.2.2.2.2.1 ψ'.2.2.1.1 ψ'.2.2.1.2 σ') (h4 : (¬ J 4 ∧ ψ'.2.1 = ψ.2.1) ∨ Col Γ X.2.2.2.2.2.1 ψ'.2.1 σ') (h5 : (¬ J 5 ∧ ψ'.2.2.2.1 = ψ.2.2.2.1) ∨ PastAt Γ (fL lab 5) X.2.2.2.2.2.2.1 ψ'.2.2.2.1.1 ψ'.2.2.2.1.2 σ')
    (h6 : (¬ J 6 ∧ ψ'.2.2.2.2.2.1 = ψ.2.2.2.2.2.1) ∨ ((∃ p, Tp Γ X.2.2.2.2.2.2.2.1 ψ'.2.2.2.2.2.1.1 ψ'.2.2.2.2.2.1.2 p σ') ∧ ψ'.2.2.2.2.2.1.2 ≤ 50)) (h7 : ¬ J 7 ∨ ∃ s, Pl Γ X.2.2.2.2.2.2.2.2.1 s σ') (h8 : ∀ j, j < 4 → (¬ J (8 + j) ∧ ψ'.2.2.2.2.2.2 j = ψ.2.2.2.2.2.2 j) ∨ Sh Γ (X.2.2.2.2.2.2.2.2.2 j) (ψ'.2.2.2.2.2.2 j) σ') : XW Γ lab X ψ' σ' := by
  obtain ⟨⟨a1, a2, a3, a4⟩, b, c, ⟨d, d'⟩, ⟨e, e'⟩, f, ⟨g, g'⟩, i, ⟨j, j', j''⟩, ⟨k, k'⟩, l⟩ := h
  refine ⟨⟨by rw [hf.1]; exact a1, by rw [hf.1]; exact a2, a3, a4⟩, ?_, ?_, ⟨?_, d'⟩, ⟨?_, e'⟩, ?_, ⟨?_, g'⟩, ?_, ⟨?_, j', ?_⟩, ⟨?_, k'⟩, fun q hq => ⟨?_, (l q hq).2⟩⟩
  · rw [h0.2, hf.2 _ (nJ a3 h0.1)]; exact b
  · rw [hf.2 _ (nJ a4 h0.1)]; exact c
  · rcases h1 with ⟨x, y⟩ | x
    · rw [y]; exact keepC d d' hf x
    · exact x
  · rcases h2 with x | x
    · obtain ⟨t, ht⟩ := e
      exact ⟨t, keepC ht e' hf x⟩
    · exact x
  · rcases h3 with ⟨x, y⟩ | x
    · rw [y]; exact keepP f hf x
    · exact x
  · rcases h4 with ⟨x, y⟩ | x
    · rw [y]; exact keepC g g' hf x
    · exact x
  · rcases h5 with ⟨x, y⟩ | x
    · rw [y]; exact keepP i hf x
    · exact x
  · rcases h6 with ⟨x, y⟩ | x
    · rw [y]
      obtain ⟨p, hp⟩ := j
      exact ⟨p, hp.keep hf.1 (fun q hq => hf.2 q (nJ (j' q hq) x))⟩
    · exact x.1
  · rcases h6 with ⟨x, y⟩ | x
    · rw [y]; exact j''
    · exact x.2
  · rcases h7 with x | x
    · obtain ⟨s, hs⟩ := k
      exact ⟨s, hs.keep hf.1 (fun q hq => hf.2 q (nJ (k' q hq) x))⟩
    · exact x
  · rcases h8 q hq with ⟨x, y⟩ | x
    · rw [y]; exact (l q hq).1.keep hf.1 (fun r hr => hf.2 r (nJ ((l q hq).2 r hr) x))
    · exact x
theorem frmL {lab : Nat → Nat} {F : Nat → Prop} {J : Nat → Prop} {σ σ' : Hp} (h : frm F σ σ') (hs : ∀ q, F q → J (lab q)) : frm (fun q => J (lab q)) σ σ' := h.mono hs
/-- now is changed -/
theorem XW.sN {Γ : Cx} {lab : Nat → Nat} {X : XA} {ψ : XS} {σ σ' : Hp} (h : XW Γ lab X ψ σ) (hf : frm (fL lab 1) σ σ') {n : CS} (hn : Col Γ X.2.2.1 n σ') : XW Γ lab X (n, ψ.2) σ' :=
  h.keep (J := fun k => k = 1) hf ⟨by decide, rfl⟩ (Or.inr hn) (Or.inl (by decide)) (Or.inl ⟨by decide, rfl⟩) (Or.inl ⟨by decide, rfl⟩) (Or.inl ⟨by decide, rfl⟩) (Or.inl ⟨by decide, rfl⟩) (Or.inl (by decide)) (fun j _ => Or.inl ⟨by omega, rfl⟩)
theorem XW.sT {Γ : Cx} {lab : Nat → Nat} {X : XA} {ψ : XS} {σ σ' : Hp} (h : XW Γ lab X ψ σ) (hf : frm (fL lab 2) σ σ') (hn : ∃ t, Col Γ X.2.2.2.1 t σ') : XW Γ lab X ψ σ' :=
  h.keep (J := fun k => k = 2) hf ⟨by decide, rfl⟩ (Or.inl ⟨by decide, rfl⟩) (Or.inr hn) (Or.inl ⟨by decide, rfl⟩) (Or.inl ⟨by decide, rfl⟩) (Or.inl ⟨by decide, rfl⟩) (Or.inl ⟨by decide, rfl⟩) (Or.inl (by decide)) (fun j _ => Or.inl ⟨by omega, rfl⟩)
theorem XW.sP {Γ : Cx} {lab : Nat → Nat} {X : XA} {ψ : XS} {σ σ' : Hp} (h : XW Γ lab X ψ σ) (hf : frm (fL lab 3) σ σ') {c : Nat → MC} {m : Nat} (hn : PastAt Γ (fL lab 3) X.2.2.2.2.1 c m σ') : XW Γ lab X (ψ.1, ψ.2.1, (c, m), ψ.2.2.2) σ' :=
  h.keep (J := fun k => k = 3) hf ⟨by decide, rfl⟩ (Or.inl ⟨by decide, rfl⟩) (Or.inl (by decide)) (Or.inr hn) (Or.inl ⟨by decide, rfl⟩) (Or.inl ⟨by decide, rfl⟩) (Or.inl ⟨by decide, rfl⟩) (Or.inl (by decide)) (fun j _ => Or.inl ⟨by omega, rfl⟩)
theorem XW.sI {Γ : Cx} {lab : Nat → Nat} {X : XA} {ψ : XS} {σ σ' : Hp} (h : XW Γ lab X ψ σ) (hf : frm (fL lab 4) σ σ') {n : CS} (hn : Col Γ X.2.2.2.2.2.1 n σ') : XW Γ lab X (ψ.1, n, ψ.2.2) σ' :=
  h.keep (J := fun k => k = 4) hf ⟨by decide, rfl⟩ (Or.inl ⟨by decide, rfl⟩) (Or.inl (by decide)) (Or.inl ⟨by decide, rfl⟩) (Or.inr hn) (Or.inl ⟨by decide, rfl⟩) (Or.inl ⟨by decide, rfl⟩) (Or.inl (by decide)) (fun j _ => Or.inl ⟨by omega, rfl⟩)
theorem XW.sJ {Γ : Cx} {lab : Nat → Nat} {X : XA} {ψ : XS} {σ σ' : Hp} (h : XW Γ lab X ψ σ) (hf : frm (fL lab 5) σ σ') {c : Nat → MC} {m : Nat} (hn : PastAt Γ (fL lab 5) X.2.2.2.2.2.2.1 c m σ') : XW Γ lab X (ψ.1, ψ.2.1, ψ.2.2.1, (c, m), ψ.2.2.2.2) σ' :=
  h.keep (J := fun k => k = 5) hf ⟨by decide, rfl⟩ (Or.inl ⟨by decide, rfl⟩) (Or.inl (by decide)) (Or.inl ⟨by decide, rfl⟩) (Or.inl ⟨by decide, rfl⟩) (Or.inr hn) (Or.inl ⟨by decide, rfl⟩) (Or.inl (by decide)) (fun j _ => Or.inl ⟨by omega, rfl⟩)
theorem XW.sTape {Γ : Cx} {lab : Nat → Nat} {X : XA} {ψ : XS} {σ σ' : Hp} (h : XW Γ lab X ψ σ) (hf : frm (fL lab 6) σ σ') {l : Nat → Int32} {m p : Nat} (hn : Tp Γ X.2.2.2.2.2.2.2.1 l m p σ') (hm : m ≤ 50) : XW Γ lab X (ψ.1, ψ.2.1, ψ.2.2.1, ψ.2.2.2.1, ψ.2.2.2.2.1, (l, m), ψ.2.2.2.2.2.2) σ' :=
  h.keep (J := fun k => k = 6) hf ⟨by decide, rfl⟩ (Or.inl ⟨by decide, rfl⟩) (Or.inl (by decide)) (Or.inl ⟨by decide, rfl⟩) (Or.inl ⟨by decide, rfl⟩) (Or.inl ⟨by decide, rfl⟩) (Or.inr ⟨⟨p, hn⟩, hm⟩) (Or.inl (by decide)) (fun j _ => Or.inl ⟨by omega, rfl⟩)
def updS (ss : Nat → SS) (j : Nat) (s : SS) : Nat → SS := fun k => if k = j then s else ss k
theorem XW.sS {Γ : Cx} {lab : Nat → Nat} {X : XA} {ψ : XS} {σ σ' : Hp} (h : XW Γ lab X ψ σ) {j : Nat} (hj : j < 4) (hf : frm (fL lab (8 + j)) σ σ') {s : SS} (hn : Sh Γ (X.2.2.2.2.2.2.2.2.2 j) s σ') : XW Γ lab X (ψ.1, ψ.2.1, ψ.2.2.1, ψ.2.2.2.1, ψ.2.2.2.2.1, ψ.2.2.2.2.2.1, updS ψ.2.2.2.2.2.2 j s) σ' :=
  h.keep (J := fun k => k = 8 + j) hf ⟨by omega, rfl⟩ (Or.inl ⟨by omega, rfl⟩) (Or.inl (by omega)) (Or.inl ⟨by omega, rfl⟩) (Or.inl ⟨by omega, rfl⟩) (Or.inl ⟨by omega, rfl⟩) (Or.inl ⟨by omega, rfl⟩) (Or.inl (by omega)) (fun k _ => by
    by_cases e : k = j
    · subst e
      refine Or.inr ?_
      show Sh Γ _ (updS ψ.2.2.2.2.2.2 k s k) σ'
      unfold updS
      rw [if_pos rfl]
      exact hn
    · refine Or.inl ⟨by omega, ?_⟩
      show updS ψ.2.2.2.2.2.2 j s k = _
      unfold updS
      rw [if_neg e])
/-- the class's own cells -/
def fX (lab : Nat → Nat) : Nat → Prop := fun q => lab q < 20
theorem x_rv {Γ : Cx} {lab : Nat → Nat} {X : XA} {ψ : XS} {σ : Hp} (h : XW Γ lab X ψ σ) : ∃ fs, X.1 ∈ σ.1 ∧ σ.2 X.1 = .inr (6, fs) := ⟨_, h.1.1, h.2.1⟩
theorem ap_lab {lab : Nat → Nat} {A B : CA} {j k : Nat} (hA : ∀ q, CF A q → lab q = j) (hB : ∀ q, CF B q → lab q = k) (h : j ≠ k) : apC A B := by
  have key : ∀ x y, CF A x → CF B y → x ≠ y := fun x y hx hy e => h (by rw [← hA x hx, ← hB y hy, e])
  exact ⟨key _ _ (Or.inl rfl) (Or.inl rfl), key _ _ (Or.inr (Or.inl rfl)) (Or.inr (Or.inl rfl)), key _ _ (Or.inr (Or.inr (Or.inl rfl))) (Or.inr (Or.inr (Or.inl rfl))), key _ _ (Or.inr (Or.inr (Or.inr rfl))) (Or.inr (Or.inr (Or.inr rfl)))⟩
/-- a method of the class: from its cells, to its cells -/
def xm (Γ : Cx) (n : Nat) (Rel : List Value → XS → XS → Int32 → Prop) (Pre : XS → Prop) : YSp := fun av σ K => ∃ (lab : Nat → Nat) (X : XA) (ψ : XS) (As : List Value), av = .ref X.1 :: As ∧ As.length = n ∧ XW Γ lab X ψ σ ∧ Pre ψ ∧ (∀ x ∈ As, ∃ i : Int32, x = .int i) ∧ ∀ (σ' : Hp) (ψ' : XS) (r : Int32), Rel As ψ ψ' r → frm (fX lab) σ σ' → XW Γ lab X ψ' σ' → K (some (.int r)) σ'
theorem rv_xm {Γ : Cx} {n : Nat} {Rel : List Value → XS → XS → Int32 → Prop} {Pre : XS → Prop} : Recv (xm Γ n Rel Pre) n 6 := by
  intro av σ K h
  obtain ⟨lab, X, ψ, As, rfl, hn, hW, -⟩ := h
  obtain ⟨fs, h1, h2⟩ := x_rv hW
  exact ⟨_, _, fs, rfl, hn, h1, h2⟩
