/-! ===== the class and the reference stand alike ===== -/
def CI (c : CS) : Prop := ∃ D, D ≤ 9999 ∧ CJ D c
def MI (P : Nat) (m : MC) : Prop := (∀ d, d < 4 → m.2.1 d = -4 ∨ ∃ q, q < P ∧ m.2.1 d = nI q) ∧ WR P m.1 ∧ ∃ D, D ≤ 9999 ∧ m.2.2.1 = nI D ∧ ∃ G, G ≤ 4 * D ∧ m.2.2.2.1 = nI G
theorem CI.mi {c : CS} (h : CI c) : MI c.2.2.2.2.2.2.1 (mom c) := by
  obtain ⟨D, hD, h1, h2, h3, h4⟩ := h
  exact ⟨h1.2, h2, D, hD, h3, h4⟩
theorem CI.P5 {c : CS} (h : CI c) : c.2.2.2.2.2.2.1 ≤ 5 := by
  obtain ⟨D, hD, h1, -⟩ := h
  exact h1.1
theorem CI.wf {c : CS} (h : CI c) : WfC c := by
  obtain ⟨D, hD, h1, -⟩ := h
  exact h1
theorem MI.ci {c : CS} (h : MI c.2.2.2.2.2.2.1 (mom c)) (hP : c.2.2.2.2.2.2.1 ≤ 5) : CI c := by
  obtain ⟨h1, h2, D, hD, h3, h4⟩ := h
  exact ⟨D, hD, ⟨hP, h1⟩, h2, h3, h4⟩
/-- a college with its past, and what the reference keeps of them -/
def SN (p r u : Int32) (kd row bf : Nat → Int32) (c : CS) (pa : (Nat → MC) × Nat) : Prop :=
  p = nI c.2.2.2.2.2.2.1 ∧ r = c.2.2.2.2.2.2.2.1 ∧ u = nI pa.2 ∧ pa.2 ≤ 8 ∧ CI c ∧ (∀ q, q < c.2.2.2.2.2.2.1 → kd q = c.2.2.1 q) ∧ RowM c.2.2.2.2.2.2.1 row (mom c) ∧ ∀ i, i < pa.2 → MI c.2.2.2.2.2.2.1 (pa.1 i) ∧ RowM c.2.2.2.2.2.2.1 (fun k => bf (27 * i + k)) (pa.1 i)
def RT (t : (Nat → Int32) × Nat) (len : Int32) (tp : Nat → Int32) : Prop := len = nI t.2 ∧ t.2 ≤ 50 ∧ ∀ k, k < t.2 → tp k = t.1 k ∧ inr (t.1 k) 32 126 = true
def RS (ss : Nat → SS) (ln sz : Nat → Int32) (it : Nat → Int64) : Prop := ∀ j, j < 4 → ((ss j).2.2 = -1 ∨ ∃ z, z ≤ 24 ∧ (ss j).2.2 = nI z) ∧ sz j = (ss j).2.2 ∧ ln j = (ss j).2.1 ∧ ∀ z k, z ≤ 24 → (ss j).2.2 = nI z → k < z → it (24 * j + k) = (ss j).1 k
def R (ψ : XS) (s : MS) : Prop :=
  SN (s.1 0) (s.1 1) (s.1 6) (s.2.1 2) (s.2.1 3) (s.2.1 5) ψ.1 ψ.2.2.1 ∧ (s.1 7 = bI ψ.2.2.2.2.1 ∧ (ψ.2.2.2.2.1 = true → SN (s.2.1 8 0) (s.2.1 8 1) (s.2.1 8 2) (fun p => s.2.1 8 (3 + p)) (s.2.1 9) (s.2.1 10) ψ.2.1 ψ.2.2.2.1)) ∧ s.1 16 = -4 ∧ RT ψ.2.2.2.2.2.1 (s.1 14) (s.2.1 15) ∧ RS ψ.2.2.2.2.2.2 (s.2.1 12) (s.2.1 13) s.2.2
theorem R.px {ψ : XS} {s : MS} (h : R ψ s) : PX ψ := h.1.2.2.2.2.1.wf
theorem R.pxs {ψ : XS} {s : MS} (h : R ψ s) : PXS ψ := ⟨h.px, fun j hj => (h.2.2.2.2 j hj).1⟩
/-- the college and its past change -/
theorem R.upN {ψ : XS} {s s' : MS} {c : CS} {pa : (Nat → MC) × Nat} (h : R ψ s) (e7 : s'.1 7 = s.1 7) (e14 : s'.1 14 = s.1 14) (e16 : s'.1 16 = s.1 16) (a8 : s'.2.1 8 = s.2.1 8) (a9 : s'.2.1 9 = s.2.1 9) (a10 : s'.2.1 10 = s.2.1 10) (a12 : s'.2.1 12 = s.2.1 12) (a13 : s'.2.1 13 = s.2.1 13) (a15 : s'.2.1 15 = s.2.1 15) (ei : s'.2.2 = s.2.2)
    (hn : SN (s'.1 0) (s'.1 1) (s'.1 6) (s'.2.1 2) (s'.2.1 3) (s'.2.1 5) c pa) : R (c, ψ.2.1, pa, ψ.2.2.2) s' := by
  unfold R at h ⊢
  rw [e7, e14, e16, a8, a9, a10, a12, a13, a15, ei]
  exact ⟨hn, h.2⟩
theorem R.fr {ψ : XS} {s s' : MS} (h : R ψ s) (hf : SFr s s') : R ψ s' := by
  have := h.upN (s' := s') (c := ψ.1) (pa := ψ.2.2.1) (hf.2.1 7 (by decide)) (hf.2.1 14 (by decide)) (hf.2.1 16 (by decide)) (hf.2.2 8 (by decide) (by decide)) (hf.2.2 9 (by decide) (by decide)) (hf.2.2 10 (by decide) (by decide)) (hf.2.2 12 (by decide) (by decide)) (hf.2.2 13 (by decide) (by decide)) (hf.2.2 15 (by decide) (by decide)) hf.1 (by rw [hf.2.1 0 (by decide), hf.2.1 1 (by decide), hf.2.1 6 (by decide), hf.2.2 2 (by decide) (by decide), hf.2.2 3 (by decide) (by decide), hf.2.2 5 (by decide) (by decide)]; exact h.1)
  exact this
theorem asd_fr {s : MS} : SFr s (asd s) := SFr.side
/-- c' is as c, within its ranges -/
def Like (c' c : CS) : Prop := (∀ k, k < 4 * c.2.2.2.2.2.2.1 → c'.1 k = c.1 k) ∧ (∀ d, d < 4 → c'.2.1 d = c.2.1 d) ∧ (∀ p, p < c.2.2.2.2.2.2.1 → c'.2.2.1 p = c.2.2.1 p) ∧ c'.2.2.2.1 = c.2.2.2.1 ∧ c'.2.2.2.2.1 = c.2.2.2.2.1 ∧ c'.2.2.2.2.2.1 = c.2.2.2.2.2.1 ∧ c'.2.2.2.2.2.2.1 = c.2.2.2.2.2.2.1 ∧ c'.2.2.2.2.2.2.2.1 = c.2.2.2.2.2.2.2.1
theorem Like.rf {c : CS} : Like c c := ⟨fun _ _ => rfl, fun _ _ => rfl, fun _ _ => rfl, rfl, rfl, rfl, rfl, rfl⟩
theorem like_bec {t c : CS} (hP : c.2.2.2.2.2.2.1 ≤ 5) : Like (bec t c) c := by
  refine ⟨fun k hk => cpN_in (by omega), fun d hd => cpN_in hd, fun p hp => cpN_in (by omega), rfl, rfl, rfl, rfl, rfl⟩
theorem Like.row {c c' : CS} (h : Like c' c) {row : Nat → Int32} (hr : RowM c.2.2.2.2.2.2.1 row (mom c)) : RowM c'.2.2.2.2.2.2.1 row (mom c') := by
  obtain ⟨h1, h2, -, h4, h5, h6, h7, -⟩ := h
  rw [h7]
  refine hr.mom h1 h2 ?_
  show (c'.2.2.2.1, c'.2.2.2.2.1, c'.2.2.2.2.2.1) = (c.2.2.2.1, c.2.2.2.2.1, c.2.2.2.2.2.1)
  rw [h4, h5, h6]
theorem Like.cj {c c' : CS} (h : Like c' c) {D : Nat} (hj : CJ D c) : CJ D c' := by
  obtain ⟨h1, h2, -, h4, h5, h6, h7, -⟩ := h
  obtain ⟨⟨j1, j1'⟩, j2, j3, j4⟩ := hj
  refine ⟨⟨by rw [h7]; exact j1, fun d hd => ?_⟩, fun k hk => ?_, h4.trans j3, by rw [h5]; exact j4⟩
  · rw [h2 d hd, h7]; exact j1' d hd
  · rw [h7] at hk; rw [h1 k hk]; exact j2 k hk
theorem Like.ci {c c' : CS} (h : Like c' c) (hj : CI c) : CI c' := by
  obtain ⟨D, hD, hj⟩ := hj
  exact ⟨D, hD, h.cj hj⟩
theorem CI.ds {c : CS} (h : CI c) : dayS c := by
  obtain ⟨D, hD, hj⟩ := h
  exact ⟨D, hj, by omega⟩
theorem CI.dk {c : CS} (h : CI c) : dayK c := by
  obtain ⟨D, hD, hj⟩ := h
  exact ⟨D, hj, by omega⟩
/-- what is set aside is the college -/
theorem R.sd {ψ : XS} {s : MS} (h : R ψ s) {c : CS} (hl : Like c ψ.1) : SD (asd s) c := by
  obtain ⟨⟨p1, p2, p3, p4, pI, p5, p6, p7⟩, -, h16, -⟩ := h
  have hP := pI.P5
  refine ⟨⟨?_, ?_, ?_⟩, ?_⟩
  · rw [hl.2.2.2.2.2.2.1]; exact p1
  · rw [hl.2.2.2.2.2.2.2]; exact p2
  · intro p hp
    rw [hl.2.2.2.2.2.2.1] at hp
    show (if nI p = s.1 16 then s.1 17 else updA s.2.1 4 (cpN 27 (s.2.1 3) (s.2.1 4)) 2 p) = _
    rw [h16, if_neg (nI_m4 (by omega)), updA_ne (by decide), p5 p hp, hl.2.2.1 p hp]
  · refine hl.row (p6.row hP ?_)
    intro k hk
    show updA s.2.1 4 (cpN 27 (s.2.1 3) (s.2.1 4)) 4 k = _
    rw [updA_at, cpN_in hk]
theorem R.asd {ψ : XS} {s : MS} (h : R ψ s) : R ψ (asd s) := h.fr asd_fr
/-- what was set aside is taken -/
theorem R.tkb {ψ : XS} {s : MS} (h : R ψ s) {c : CS} (hS : SD s c) (hc : CI c) (h1 : ∀ p, p < ψ.1.2.2.2.2.2.2.1 → c.2.2.1 p = ψ.1.2.2.1 p) (h2 : c.2.2.2.2.2.2.1 = ψ.1.2.2.2.2.2.2.1) (h3 : c.2.2.2.2.2.2.2.1 = ψ.1.2.2.2.2.2.2.2.1) : R (c, ψ.2) (tkb s) := by
  refine h.upN (c := c) (pa := ψ.2.2.1) rfl rfl rfl rfl rfl rfl rfl rfl rfl rfl ?_
  obtain ⟨⟨p1, p2, p3, p4, pI, p5, p6, p7⟩, -⟩ := h
  refine ⟨?_, ?_, p3, p4, hc, ?_, ?_, ?_⟩
  · rw [h2]; exact p1
  · rw [h3]; exact p2
  · intro q hq
    rw [h2] at hq
    rw [h1 q hq]
    exact p5 q hq
  · refine hS.2.row hc.P5 (fun k hk => ?_)
    show cpN 27 (s.2.1 4) (s.2.1 3) k = _
    exact cpN_in hk
  · rw [h2]; exact p7
def mo (Γ : Cx) (As : List Value) (Rel : XS → XS → Int32 → Prop) : YSp := fun av σ K => ∃ (lab : Nat → Nat) (A : Nat × (Nat → Nat)) (s : MS) (ψ ψ' : XS) (r : Int32), av = .ref A.1 :: As ∧ Mod Γ lab A s σ ∧ R ψ s ∧ Rel ψ ψ' r ∧ ∀ (σ' : Hp) (s' : MS), R ψ' s' → frm (fL lab 30) σ σ' → Mod Γ lab A s' σ' → K (some (.int r)) σ'
theorem rv_mo {Γ : Cx} {As : List Value} {Rel : XS → XS → Int32 → Prop} {av : List Value} {σ : Hp} {K : Option Value → Hp → Prop} (h : mo Γ As Rel av σ K) : ∃ (b : Nat) (fs : List Value), av = .ref b :: As ∧ b ∈ σ.1 ∧ σ.2 b = .inr (7, fs) := by
  obtain ⟨lab, A, s, ψ, ψ', r, rfl, hM, -⟩ := h
  obtain ⟨fs, h1, h2⟩ := m_rv hM
  exact ⟨_, fs, rfl, h1, h2⟩
theorem fn_r {f : XS → XS × Int32} {ψ ψ' : XS} {r : Int32} (h : fn f ψ ψ' r) : ψ' = (f ψ).1 ∧ r = (f ψ).2 := by
  unfold fn at h
  rw [← h]
  exact ⟨rfl, rfl⟩
