/-! ===== Past: what may be undone ===== -/
/-- nothing outside F has changed -/
def frm (F : Nat → Prop) (σ σ' : Hp) : Prop := σ'.1 = σ.1 ∧ ∀ q, ¬ F q → σ'.2 q = σ.2 q
theorem frm.rf {F : Nat → Prop} {σ : Hp} : frm F σ σ := ⟨rfl, fun _ _ => rfl⟩
theorem frm.tr {F : Nat → Prop} {σ σ' σ'' : Hp} (h : frm F σ σ') (h' : frm F σ' σ'') : frm F σ σ'' := ⟨h'.1.trans h.1, fun q hq => (h'.2 q hq).trans (h.2 q hq)⟩
theorem frm.mono {F F' : Nat → Prop} {σ σ' : Hp} (h : frm F σ σ') (hs : ∀ q, F q → F' q) : frm F' σ σ' := ⟨h.1, fun q hq => h.2 q (fun z => hq (hs q z))⟩
def CF (A : CA) (q : Nat) : Prop := q = A.1 ∨ q = A.2.1 ∨ q = A.2.2.1 ∨ q = A.2.2.2
theorem cset_frm {Γ : Cx} {A : CA} {s : CS} {σ : Hp} : frm (CF A) σ (cset Γ A s σ) := ⟨rfl, fun q hq => cset_ne (fun z => hq (Or.inl z)) (fun z => hq (Or.inr (Or.inl z))) (fun z => hq (Or.inr (Or.inr (Or.inl z)))) (fun z => hq (Or.inr (Or.inr (Or.inr z))))⟩
theorem Col.keep {Γ : Cx} {A : CA} {s : CS} {σ σ' : Hp} (h : Col Γ A s σ) (h1 : σ'.1 = σ.1) (h2 : ∀ q, CF A q → σ'.2 q = σ.2 q) : Col Γ A s σ' := by
  obtain ⟨m, e1, e2, e3, e4⟩ := h
  exact ⟨by rw [h1]; exact m, (h2 _ (Or.inl rfl)).trans e1, (h2 _ (Or.inr (Or.inl rfl))).trans e2, (h2 _ (Or.inr (Or.inr (Or.inl rfl)))).trans e3, (h2 _ (Or.inr (Or.inr (Or.inr rfl)))).trans e4⟩
theorem col_frm {Γ : Cx} {F : Nat → Prop} {A : CA} {s : CS} {σ σ' : Hp} (h : Col Γ A s σ) (hf : frm F σ σ') (hd : ∀ q, CF A q → ¬ F q) : Col Γ A s σ' := h.keep hf.1 (fun q hq => hf.2 q (hd q hq))
/-- wants, keepers, day, gone, draw -/
abbrev MC : Type := (Nat → Int32) × (Nat → Int32) × Int32 × Int32 × Int32
def mom (s : CS) : MC := (s.1, s.2.1, s.2.2.2.1, s.2.2.2.2.1, s.2.2.2.2.2.1)
abbrev MA : Type := Nat × Nat × Nat
def MomAt (Γ : Cx) (t : MA) (x : MC) (σ : Hp) : Prop := (t.1 ∈ σ.1 ∧ t.2.1 ∈ σ.1 ∧ t.2.2 ∈ σ.1) ∧ σ.2 t.1 = MomE 1 t.2.1 t.2.2 x.2.2.1 x.2.2.2.1 x.2.2.2.2 [] ∧ (∃ f, σ.2 t.2.1 = iA Γ 20 f ∧ ∀ k, k < 20 → f k = x.1 k) ∧ (∃ f, σ.2 t.2.2 = iA Γ 4 f ∧ ∀ k, k < 4 → f k = x.2.1 k)
theorem MomAt.keep {Γ : Cx} {t : MA} {x : MC} {σ σ' : Hp} (h : MomAt Γ t x σ) (h1 : σ'.1 = σ.1) (e1 : σ'.2 t.1 = σ.2 t.1) (e2 : σ'.2 t.2.1 = σ.2 t.2.1) (e3 : σ'.2 t.2.2 = σ.2 t.2.2) : MomAt Γ t x σ' := by
  obtain ⟨m, a, b, c⟩ := h
  exact ⟨by rw [h1]; exact m, e1.trans a, by rw [e2]; exact b, by rw [e3]; exact c⟩
def mset (Γ : Cx) (t : MA) (w k : Nat → Int32) (day gone draw : Int32) (σ : Hp) : Hp := (σ.1, va_up (va_up (va_up σ.2 t.2.1 (iA Γ 20 w)) t.2.2 (iA Γ 4 k)) t.1 (MomE 1 t.2.1 t.2.2 day gone draw []))
theorem MomAt.ne {Γ : Cx} {t : MA} {x : MC} {σ : Hp} (h : MomAt Γ t x σ) : t.1 ≠ t.2.1 ∧ t.1 ≠ t.2.2 ∧ t.2.2 ≠ t.2.1 := by
  obtain ⟨-, a, ⟨f, b, -⟩, ⟨g, c, -⟩⟩ := h
  exact ⟨ne_of a b momE_ne, ne_of a c momE_ne, ne_of c b (iA_ne (by decide))⟩
theorem momAt_mset {Γ : Cx} {t : MA} {x : MC} {σ : Hp} (h : MomAt Γ t x σ) {w k : Nat → Int32} (y : MC) (hw : ∀ j, j < 20 → w j = y.1 j) (hk : ∀ j, j < 4 → k j = y.2.1 j) : MomAt Γ t y (mset Γ t w k y.2.2.1 y.2.2.2.1 y.2.2.2.2 σ) := by
  obtain ⟨n1, n2, n3⟩ := h.ne
  refine ⟨h.1, ?_, ⟨w, ?_, hw⟩, ⟨k, ?_, hk⟩⟩
  · simp only [mset, va_up, ↓reduceIte]
  · simp only [mset, va_up, if_neg n1.symm, if_neg n3.symm, ↓reduceIte]
  · simp only [mset, va_up, if_neg n2.symm, ↓reduceIte]
theorem mset_ne {Γ : Cx} {t : MA} {w k : Nat → Int32} {day gone draw : Int32} {σ : Hp} {q : Nat} (h1 : q ≠ t.1) (h2 : q ≠ t.2.1) (h3 : q ≠ t.2.2) : (mset Γ t w k day gone draw σ).2 q = σ.2 q := by
  simp only [mset, va_up, if_neg h1, if_neg h2, if_neg h3]
def PC (p pm : Nat) (m : Nat → MA) (q : Nat) : Prop := q = p ∨ q = pm ∨ ∃ i, i < 8 ∧ (q = (m i).1 ∨ q = (m i).2.1 ∨ q = (m i).2.2)
def rA (Γ : Cx) (f : Nat → Option Nat) : va_E := .inl (Γ.2.2.2.1 2, 8, .inr (.inr (.inr (.inr f))))
def PstE (pm n : Nat) : va_E := .inr (2, [.ref pm, .int (nI n)])
def Pst (Γ : Cx) (p pm : Nat) (m : Nat → MA) (c : Nat → MC) (n : Nat) (σ : Hp) : Prop := (p ∈ σ.1 ∧ pm ∈ σ.1 ∧ n ≤ 8) ∧ σ.2 p = PstE pm n ∧ (∃ f, σ.2 pm = rA Γ f ∧ ∀ i, i < 8 → f i = some (m i).1) ∧ (∀ i, i < 8 → MomAt Γ (m i) (c i) σ) ∧ ∀ i j, i < 8 → j < 8 → i ≠ j → (m i).1 ≠ (m j).1 ∧ (m i).2.1 ≠ (m j).2.1 ∧ (m i).2.2 ≠ (m j).2.2
def PastAt (Γ : Cx) (F : Nat → Prop) (p : Nat) (c : Nat → MC) (n : Nat) (σ : Hp) : Prop := ∃ pm m, Pst Γ p pm m c n σ ∧ ∀ q, PC p pm m q → F q
theorem Pst.keep {Γ : Cx} {p pm : Nat} {m : Nat → MA} {c : Nat → MC} {n : Nat} {σ σ' : Hp} (h : Pst Γ p pm m c n σ) (h1 : σ'.1 = σ.1) (h2 : ∀ q, PC p pm m q → σ'.2 q = σ.2 q) : Pst Γ p pm m c n σ' := by
  obtain ⟨⟨m1, m2, hn⟩, e1, e2, e3, e4⟩ := h
  refine ⟨⟨by rw [h1]; exact m1, by rw [h1]; exact m2, hn⟩, (h2 _ (Or.inl rfl)).trans e1, by rw [h2 _ (Or.inr (Or.inl rfl))]; exact e2, fun i hi => (e3 i hi).keep h1 (h2 _ (Or.inr (Or.inr ⟨i, hi, Or.inl rfl⟩))) (h2 _ (Or.inr (Or.inr ⟨i, hi, Or.inr (Or.inl rfl)⟩))) (h2 _ (Or.inr (Or.inr ⟨i, hi, Or.inr (Or.inr rfl)⟩))), e4⟩
theorem PastAt.keep {Γ : Cx} {F G : Nat → Prop} {p : Nat} {c : Nat → MC} {n : Nat} {σ σ' : Hp} (h : PastAt Γ F p c n σ) (hf : frm G σ σ') (hd : ∀ q, F q → ¬ G q) : PastAt Γ F p c n σ' := by
  obtain ⟨pm, m, h1, h2⟩ := h
  exact ⟨pm, m, h1.keep hf.1 (fun q hq => hf.2 q (hd q (h2 q hq))), h2⟩
theorem past_rv {Γ : Cx} {F : Nat → Prop} {p : Nat} {c : Nat → MC} {n : Nat} {σ : Hp} (h : PastAt Γ F p c n σ) : ∃ fs, p ∈ σ.1 ∧ σ.2 p = .inr (2, fs) := by
  obtain ⟨pm, m, ⟨⟨m1, -, -⟩, e1, -⟩, -⟩ := h
  exact ⟨_, m1, e1⟩
theorem pstE_iA {Γ : Cx} {pm n k : Nat} {f : Nat → Int32} : PstE pm n ≠ iA Γ k f := fun e => by unfold PstE iA at e; cases e
theorem pstE_rA {Γ : Cx} {pm n : Nat} {f : Nat → Option Nat} : PstE pm n ≠ rA Γ f := fun e => by unfold PstE rA at e; cases e
theorem pstE_mom {pm n aw ak : Nat} {d g r : Int32} : PstE pm n ≠ MomE 1 aw ak d g r [] := fun e => by unfold PstE MomE at e; cases e
theorem rA_iA {Γ : Cx} {k : Nat} {f : Nat → Option Nat} {g : Nat → Int32} : rA Γ f ≠ iA Γ k g := fun e => by
  unfold rA iA at e
  simp only [Sum.inl.injEq, Prod.mk.injEq, reduceCtorEq, and_false] at e
theorem rA_mom {Γ : Cx} {f : Nat → Option Nat} {aw ak : Nat} {d g r : Int32} : rA Γ f ≠ MomE 1 aw ak d g r [] := fun e => by unfold rA MomE at e; cases e
def updM (c : Nat → MC) (n : Nat) (x : MC) : Nat → MC := fun i => if i = n then x else c i
theorem cpN_in {n : Nat} {f g : Nat → Int32} {k : Nat} (h : k < n) : cpN n f g k = f k := by
  unfold cpN
  rw [pk_cpy_in (Nat.zero_le k) (by omega)]
  simp
theorem cpN_congr {n : Nat} {f f' g : Nat → Int32} (h : ∀ k, k < n → f k = f' k) : cpN n f g = cpN n f' g := by
  funext k
  by_cases hk : k < n
  · rw [cpN_in hk, cpN_in hk, h k hk]
  · unfold cpN
    rw [pk_cpy_out (Or.inr (by omega)), pk_cpy_out (Or.inr (by omega))]
/-- one moment is set, the others stay -/
theorem Pst.set1 {Γ : Cx} {p pm : Nat} {m : Nat → MA} {c : Nat → MC} {n j : Nat} {σ : Hp} (h : Pst Γ p pm m c n σ) (hj : j < 8) {w k : Nat → Int32} (y : MC) (hw : ∀ i, i < 20 → w i = y.1 i) (hk : ∀ i, i < 4 → k i = y.2.1 i) : Pst Γ p pm m (updM c j y) n (mset Γ (m j) w k y.2.2.1 y.2.2.2.1 y.2.2.2.2 σ) := by
  obtain ⟨m0, e1, ⟨f, e2, e2'⟩, e3, e4⟩ := h
  have hmj := e3 j hj
  obtain ⟨-, a1, ⟨fw, a2, -⟩, ⟨fk, a3, -⟩⟩ := id hmj
  refine ⟨m0, ?_, ⟨f, ?_, e2'⟩, fun i hi => ?_, e4⟩
  · rw [mset_ne (ne_of e1 a1 pstE_mom) (ne_of e1 a2 pstE_iA) (ne_of e1 a3 pstE_iA)]; exact e1
  · rw [mset_ne (ne_of e2 a1 rA_mom) (ne_of e2 a2 rA_iA) (ne_of e2 a3 rA_iA)]; exact e2
  · by_cases hij : i = j
    · subst hij
      unfold updM
      rw [if_pos rfl]
      exact momAt_mset hmj y hw hk
    · unfold updM
      rw [if_neg hij]
      obtain ⟨q1, q2, q3⟩ := e4 i j hi hj hij
      have hmi := e3 i hi
      obtain ⟨-, b1, ⟨gw, b2, -⟩, ⟨gk, b3, -⟩⟩ := id hmi
      refine hmi.keep rfl (mset_ne q1 ?_ ?_) (mset_ne ?_ q2 ?_) (mset_ne ?_ ?_ q3)
      · exact ne_of b1 a2 momE_ne
      · exact ne_of b1 a3 momE_ne
      · exact ne_of b2 a1 (fun e => momE_ne e.symm)
      · exact ne_of b2 a3 (iA_ne (by decide))
      · exact ne_of b3 a1 (fun e => momE_ne e.symm)
      · exact ne_of b3 a2 (iA_ne (by decide))
theorem mset_frm {Γ : Cx} {F : Nat → Prop} {p pm j : Nat} {m : Nat → MA} {w k : Nat → Int32} {d g r : Int32} {σ : Hp} (hF : ∀ q, PC p pm m q → F q) (hj : j < 8) : frm F σ (mset Γ (m j) w k d g r σ) := by
  refine ⟨rfl, fun q hq => mset_ne (fun z => hq (hF q (Or.inr (Or.inr ⟨j, hj, Or.inl z⟩)))) (fun z => hq (hF q (Or.inr (Or.inr ⟨j, hj, Or.inr (Or.inl z)⟩)))) (fun z => hq (hF q (Or.inr (Or.inr ⟨j, hj, Or.inr (Or.inr z)⟩))))⟩
/-- the counter is set -/
theorem Pst.putN {Γ : Cx} {p pm : Nat} {m : Nat → MA} {c : Nat → MC} {n n' : Nat} {σ : Hp} (h : Pst Γ p pm m c n σ) (hn : n' ≤ 8) : Pst Γ p pm m c n' (hput σ p (PstE pm n')) := by
  obtain ⟨⟨m1, m2, -⟩, e1, ⟨f, e2, e2'⟩, e3, e4⟩ := h
  refine ⟨⟨m1, m2, hn⟩, ?_, ⟨f, ?_, e2'⟩, fun i hi => ?_, e4⟩
  · simp only [hput, va_up_self]
  · simp only [hput]
    rw [va_up_ne _ _ (ne_of e2 e1 (fun e => pstE_rA e.symm))]; exact e2
  · have hmi := e3 i hi
    obtain ⟨-, b1, ⟨gw, b2, -⟩, ⟨gk, b3, -⟩⟩ := id hmi
    exact hmi.keep rfl (va_up_ne _ _ (ne_of b1 e1 (fun e => pstE_mom e.symm))) (va_up_ne _ _ (ne_of b2 e1 (fun e => pstE_iA e.symm))) (va_up_ne _ _ (ne_of b3 e1 (fun e => pstE_iA e.symm)))
theorem hput_frm {F : Nat → Prop} {a : Nat} {e : va_E} {σ : Hp} (h : F a) : frm F σ (hput σ a e) := ⟨rfl, fun q hq => va_up_ne _ _ (fun z => hq (z ▸ h))⟩
