/-! ===== the reference in the class's words: what both compute ===== -/
def WR (P : Nat) (w : Nat → Int32) : Prop := ∀ k, k < 4 * P → ∃ n, n ≤ 20 ∧ w k = nI n
def cnt (kp : Nat → Int32) (p : Int32) : Nat → Int32
  | 0 => 0
  | n + 1 => cnt kp p n + (if kp n = p then 1 else 0)
theorem cnt_bc {kp : Nat → Int32} {p : Int32} : cnt kp p 4 = bcE (kset kp p 4) := by
  simp only [cnt, kset]
  by_cases h0 : kp 0 = p <;> by_cases h1 : kp 1 = p <;> by_cases h2 : kp 2 = p <;> by_cases h3 : kp 3 = p <;> simp only [h0, h1, h2, h3, if_true, if_false] <;> decide +kernel
theorem cnt_n {kp : Nat → Int32} {p : Int32} : ∀ n : Nat, ∃ g, g ≤ n ∧ cnt kp p n = nI g
  | 0 => ⟨0, Nat.le_refl _, rfl⟩
  | n + 1 => by
    obtain ⟨g, hg, e⟩ := cnt_n (kp := kp) (p := p) n
    rw [cnt, e]
    split
    · exact ⟨g + 1, by omega, nI_1 g⟩
    · exact ⟨g, by omega, nI_add g 0⟩
theorem warm_n {D : Nat} (h : D < 2 ^ 31) : warm (nI D) = if D % 2 = 1 then 0 else 1 := by
  unfold warm
  rw [show (2 : Int32) = nI 2 from rfl, pk_rem h (by decide) (by decide)]
  rcases Nat.mod_two_eq_zero_or_one D with e | e <;> rw [e] <;> decide
theorem warm_01 (x : Int32) : warm x = nI 0 ∨ warm x = nI 1 := by
  unfold warm
  split
  · exact Or.inr rfl
  · exact Or.inl rfl
theorem growth_n (s : CS) (d : Nat) : ∃ g, g ≤ 8 ∧ growth s d = nI g := by
  have hw : ∃ g, g ≤ 8 ∧ warm s.2.2.2.1 = nI g := by
    rcases warm_01 s.2.2.2.1 with e | e
    · exact ⟨0, by decide, e⟩
    · exact ⟨1, by decide, e⟩
  obtain ⟨c, hc, ec⟩ := cnt_n (kp := s.2.1) (p := s.2.1 d) 4
  unfold growth
  split
  · exact ⟨0, by decide, rfl⟩
  split
  · exact ⟨c, by omega, by rw [← cnt_bc, ec]⟩
  split
  · exact hw
  split
  · exact ⟨2 * c, by omega, by rw [← cnt_bc, ec]; exact pk_mul 2 c⟩
  split
  · split
    · exact hw
    · exact ⟨0, by decide, rfl⟩
  · exact ⟨1, by decide, rfl⟩
theorem cap20_n {a b : Nat} (ha : a ≤ 20) (hb : b ≤ 1000) : ∃ n, n ≤ 20 ∧ cap20 (nI a + nI b) = nI n := by
  unfold cap20
  rw [nI_add]
  by_cases c : nI (a + b) < 20
  · rw [if_pos c]
    exact ⟨a + b, by have := (nI_ltI (b := 20) (by omega) (by decide)).mp c; omega, rfl⟩
  · rw [if_neg c]
    exact ⟨20, by omega, rfl⟩
theorem cap20_gt {x : Int32} : cap20 x = if 20 < x then 20 else x := by
  unfold cap20
  by_cases c : x < 20
  · rw [if_pos c, if_neg (fun z => by rw [Int32.lt_iff_toInt_lt] at c z; omega)]
  · rw [if_neg c]
    by_cases e : 20 < x
    · rw [if_pos e]
    · rw [if_neg e]
      rw [Int32.lt_iff_toInt_lt] at c e
      exact Int32.toInt_inj.mp (by omega)
/-- the place of a want in the reference's row -/
theorem ix4 {p d : Nat} (hp : p < 5) (hd : d < 4) : vp_in (4 * nI p + nI d) 27 ∧ (4 * nI p + nI d).toNatClampNeg = 4 * p + d := by
  rw [show (4 : Int32) = nI 4 from rfl, pk_mul, nI_add]
  exact ⟨vp_in_nI (by omega) (by decide), nI_clamp (by omega)⟩
theorem ix20 {d : Nat} (hd : d < 4) : vp_in (20 + nI d) 27 ∧ (20 + nI d).toNatClampNeg = 20 + d := by
  rw [show (20 : Int32) = nI 20 from rfl, nI_add]
  exact ⟨vp_in_nI (by omega) (by decide), nI_clamp (by omega)⟩
theorem in24_27 : vp_in (24 : Int32) 27 := show vp_in (nI 24) 27 from vp_in_nI (by decide) (by decide)
theorem in25_27 : vp_in (25 : Int32) 27 := show vp_in (nI 25) 27 from vp_in_nI (by decide) (by decide)
theorem in26_27 : vp_in (26 : Int32) 27 := show vp_in (nI 26) 27 from vp_in_nI (by decide) (by decide)
theorem n24 : (24 : Int32).toNatClampNeg = 24 := by decide
theorem n25 : (25 : Int32).toNatClampNeg = 25 := by decide
theorem n26 : (26 : Int32).toNatClampNeg = 26 := by decide
/-- a row of 27 is a moment, among P people -/
def RowM (P : Nat) (row : Nat → Int32) (m : MC) : Prop := (∀ k, k < 4 * P → row k = m.1 k) ∧ (∀ d, d < 4 → row (20 + d) = m.2.1 d) ∧ row 24 = m.2.2.1 ∧ row 25 = m.2.2.2.1 ∧ row 26 = m.2.2.2.2
theorem RowM.w {P : Nat} {row : Nat → Int32} {m : MC} (h : RowM P row m) (hP : P ≤ 5) {k : Nat} (hk : k < 4 * P) (v : Int32) : RowM P (upd row k v) (upd m.1 k v, m.2) := by
  obtain ⟨h1, h2, h3, h4, h5⟩ := h
  refine ⟨fun j hj => ?_, fun d hd => ?_, ?_, ?_, ?_⟩
  · show upd row k v j = upd m.1 k v j
    by_cases e : j = k
    · subst e; rw [pk_us, pk_us]
    · rw [pk_un e, pk_un e]; exact h1 j hj
  · rw [pk_un (by omega)]; exact h2 d hd
  · rw [pk_un (by omega)]; exact h3
  · rw [pk_un (by omega)]; exact h4
  · rw [pk_un (by omega)]; exact h5
theorem RowM.k {P : Nat} {row : Nat → Int32} {m : MC} (h : RowM P row m) (hP : P ≤ 5) {q : Nat} (hq : q < 4) (v : Int32) : RowM P (upd row (20 + q) v) (m.1, upd m.2.1 q v, m.2.2) := by
  obtain ⟨h1, h2, h3, h4, h5⟩ := h
  refine ⟨fun j hj => ?_, fun d hd => ?_, ?_, ?_, ?_⟩
  · rw [pk_un (by omega)]; exact h1 j hj
  · show upd row (20 + q) v (20 + d) = upd m.2.1 q v d
    by_cases e : d = q
    · subst e; rw [pk_us, pk_us]
    · rw [pk_un (by omega), pk_un e]; exact h2 d hd
  · rw [pk_un (by omega)]; exact h3
  · rw [pk_un (by omega)]; exact h4
  · rw [pk_un (by omega)]; exact h5
theorem RowM.day {P : Nat} {row : Nat → Int32} {m : MC} (h : RowM P row m) (hP : P ≤ 5) (v : Int32) : RowM P (upd row 24 v) (m.1, m.2.1, v, m.2.2.2) := by
  obtain ⟨h1, h2, h3, h4, h5⟩ := h
  refine ⟨fun j hj => ?_, fun d hd => ?_, pk_us, ?_, ?_⟩
  · rw [pk_un (by omega)]; exact h1 j hj
  · rw [pk_un (by omega)]; exact h2 d hd
  · rw [pk_un (by omega)]; exact h4
  · rw [pk_un (by omega)]; exact h5
theorem RowM.gone {P : Nat} {row : Nat → Int32} {m : MC} (h : RowM P row m) (hP : P ≤ 5) (v : Int32) : RowM P (upd row 25 v) (m.1, m.2.1, m.2.2.1, v, m.2.2.2.2) := by
  obtain ⟨h1, h2, h3, h4, h5⟩ := h
  refine ⟨fun j hj => ?_, fun d hd => ?_, ?_, pk_us, ?_⟩
  · rw [pk_un (by omega)]; exact h1 j hj
  · rw [pk_un (by omega)]; exact h2 d hd
  · rw [pk_un (by omega)]; exact h3
  · rw [pk_un (by omega)]; exact h5
theorem RowM.draw {P : Nat} {row : Nat → Int32} {m : MC} (h : RowM P row m) (hP : P ≤ 5) (v : Int32) : RowM P (upd row 26 v) (m.1, m.2.1, m.2.2.1, m.2.2.2.1, v) := by
  obtain ⟨h1, h2, h3, h4, h5⟩ := h
  refine ⟨fun j hj => ?_, fun d hd => ?_, ?_, ?_, pk_us⟩
  · rw [pk_un (by omega)]; exact h1 j hj
  · rw [pk_un (by omega)]; exact h2 d hd
  · rw [pk_un (by omega)]; exact h3
  · rw [pk_un (by omega)]; exact h4
/-- only the 27 cells count -/
theorem RowM.row {P : Nat} {row row' : Nat → Int32} {m : MC} (h : RowM P row m) (hP : P ≤ 5) (e : ∀ k, k < 27 → row' k = row k) : RowM P row' m := by
  obtain ⟨h1, h2, h3, h4, h5⟩ := h
  exact ⟨fun j hj => (e j (by omega)).trans (h1 j hj), fun d hd => (e _ (by omega)).trans (h2 d hd), (e _ (by decide)).trans h3, (e _ (by decide)).trans h4, (e _ (by decide)).trans h5⟩
/-- only what lies within counts -/
theorem RowM.mom {P : Nat} {row : Nat → Int32} {m m' : MC} (h : RowM P row m) (e1 : ∀ k, k < 4 * P → m'.1 k = m.1 k) (e2 : ∀ d, d < 4 → m'.2.1 d = m.2.1 d) (e3 : m'.2.2 = m.2.2) : RowM P row m' := by
  obtain ⟨h1, h2, h3, h4, h5⟩ := h
  refine ⟨fun j hj => (h1 j hj).trans (e1 j hj).symm, fun d hd => (h2 d hd).trans (e2 d hd).symm, ?_, ?_, ?_⟩ <;> rw [e3] <;> assumption
/-! the class's day keeps wants in their range, and counts -/
def CJ (D : Nat) (c : CS) : Prop := WfC c ∧ WR c.2.2.2.2.2.2.1 c.1 ∧ c.2.2.2.1 = nI D ∧ ∃ G, G ≤ 4 * D ∧ c.2.2.2.2.1 = nI G
theorem WR.upd {P k : Nat} {w : Nat → Int32} (h : WR P w) {v : Int32} (hv : ∃ n, n ≤ 20 ∧ v = nI n) : WR P (upd w k v) := by
  intro j hj
  by_cases e : j = k
  · subst e; rw [pk_us]; exact hv
  · rw [pk_un e]; exact h j hj
theorem wmore_n {P : Nat} {w : Nat → Int32} (h : WR P w) {p d : Nat} (hp : p < P) (hP : P ≤ 5) (hd : d < 4) {n : Int32} (hn : ∃ b, b ≤ 1000 ∧ n = nI b) : ∃ a, a ≤ 20 ∧ cap20 (w (ix (nI p) (nI d)) + n) = nI a := by
  obtain ⟨b, hb, rfl⟩ := hn
  obtain ⟨a, ha, e⟩ := h (4 * p + d) (by omega)
  rw [ix_n (by omega) hd, e]
  exact cap20_n ha hb
theorem WR.more {P : Nat} {w : Nat → Int32} (h : WR P w) {p d : Nat} (hp : p < P) (hP : P ≤ 5) (hd : d < 4) {n : Int32} (hn : ∃ b, b ≤ 1000 ∧ n = nI b) : WR P (wmore w (nI p) (nI d) n) := h.upd (wmore_n h hp hP hd hn)
theorem g1_wr {s : CS} (hw : WfC s) (h : WR s.2.2.2.2.2.2.1 s.1) {d : Nat} (hd : d < 4) : WR s.2.2.2.2.2.2.1 (g1 s d).1 := by
  unfold g1
  split
  · exact h
  · next c =>
    rcases hw.2 d hd with z | ⟨q, hq, e⟩
    · exact absurd z c
    · rw [e]
      obtain ⟨g, hg, eg⟩ := growth_n s d
      exact h.more hq hw.1 hd ⟨g, by omega, eg⟩
theorem gN_wr {s : CS} (hw : WfC s) (h : WR s.2.2.2.2.2.2.1 s.1) : ∀ n : Nat, n ≤ 4 → WR s.2.2.2.2.2.2.1 (gN s n).1
  | 0, _ => h
  | n + 1, hn => by
    have h1 := gN_wr hw h n (by omega)
    have e := gN_eq s n
    have := g1_wr (s := gN s n) (gN_wf hw n) (by rw [e]; exact h1) (d := n) (by omega)
    rw [e] at this
    exact this
theorem ix_ne {p q i d : Nat} (hp : p < 5) (hq : q < 5) (hi : i < 4) (hd : d < 4) (h : i ≠ d) : ix (nI p) (nI i) ≠ ix (nI q) (nI d) := by
  rw [ix_n hp hi, ix_n hq hd]; omega
/-- the growth of one door does not touch another's -/
theorem gN_at {s : CS} (hw : WfC s) {q d : Nat} (hq : q < 5) (hd : d < 4) : ∀ n : Nat, n ≤ d → (gN s n).1 (ix (nI q) (nI d)) = s.1 (ix (nI q) (nI d))
  | 0, _ => rfl
  | n + 1, hn => by
    have h1 := gN_at hw hq hd n (by omega)
    have e := gN_eq s n
    rw [gN_s]
    unfold g1
    split
    · exact h1
    · next c =>
      rw [e] at c
      rcases hw.2 n (by omega) with z | ⟨p, hp, ep⟩
      · exact absurd z c
      · rw [← h1]
        show upd _ _ _ _ = _
        rw [e, ep]
        exact pk_un (ix_ne hq (by have := hw.1; omega) hd (by omega) (by omega))
theorem growth_gN {s : CS} (hw : WfC s) {d : Nat} (hd : d < 4) : growth (gN s d) d = growth s d := by
  have e := gN_eq s d
  unfold growth
  rw [e]
  rcases hw.2 d hd with z | ⟨p, hp, ep⟩
  · rw [if_pos z, if_pos z]
  · rw [ep, gN_at hw (by have := hw.1; omega) hd d (Nat.le_refl _)]
theorem t1_wr {P : Nat} {s : CS} (h : WR P s.1) (d : Nat) : WR P (t1 s d).1 := by
  unfold t1
  split
  · exact h
  · unfold tk
    split
    · split
      · exact h
      · exact h
    · exact h.upd ⟨0, by decide, rfl⟩
theorem tN_wr {P : Nat} {s : CS} (h : WR P s.1) : ∀ n : Nat, WR P (tN s n).1
  | 0 => h
  | n + 1 => t1_wr (tN_wr h n) n
/-- what a test leaves: kinds, day, draw, people, rule -/
theorem t1_eq (s : CS) (d : Nat) : (t1 s d).2.2.1 = s.2.2.1 ∧ (t1 s d).2.2.2.1 = s.2.2.2.1 ∧ (t1 s d).2.2.2.2.2.1 = s.2.2.2.2.2.1 ∧ (t1 s d).2.2.2.2.2.2.1 = s.2.2.2.2.2.2.1 ∧ (t1 s d).2.2.2.2.2.2.2.1 = s.2.2.2.2.2.2.2.1 ∧ ∃ e, e ≤ 1 ∧ (t1 s d).2.2.2.2.1 = s.2.2.2.2.1 + nI e := by
  have z : s.2.2.2.2.1 = s.2.2.2.2.1 + nI 0 := (Int32.add_zero _).symm
  unfold t1
  split
  · exact ⟨rfl, rfl, rfl, rfl, rfl, 0, by decide, z⟩
  · unfold tk
    split
    · split
      · exact ⟨rfl, rfl, rfl, rfl, rfl, 0, by decide, z⟩
      · exact ⟨rfl, rfl, rfl, rfl, rfl, 0, by decide, z⟩
    · exact ⟨rfl, rfl, rfl, rfl, rfl, 1, by decide, rfl⟩
theorem tN_eq (s : CS) : ∀ n : Nat, (tN s n).2.2.1 = s.2.2.1 ∧ (tN s n).2.2.2.1 = s.2.2.2.1 ∧ (tN s n).2.2.2.2.2.1 = s.2.2.2.2.2.1 ∧ (tN s n).2.2.2.2.2.2.1 = s.2.2.2.2.2.2.1 ∧ (tN s n).2.2.2.2.2.2.2.1 = s.2.2.2.2.2.2.2.1 ∧ ∃ e, e ≤ n ∧ (tN s n).2.2.2.2.1 = s.2.2.2.2.1 + nI e
  | 0 => ⟨rfl, rfl, rfl, rfl, rfl, 0, Nat.le_refl _, (Int32.add_zero _).symm⟩
  | n + 1 => by
    obtain ⟨a1, a2, a3, a4, a5, e, he, a6⟩ := tN_eq s n
    obtain ⟨b1, b2, b3, b4, b5, e', he', b6⟩ := t1_eq (tN s n) n
    exact ⟨b1.trans a1, b2.trans a2, b3.trans a3, b4.trans a4, b5.trans a5, e + e', by omega, by rw [tN_s, b6, a6, Int32.add_assoc, nI_add]⟩
theorem dayC_eq (s : CS) : (dayC s).2.2.1 = s.2.2.1 ∧ (dayC s).2.2.2.1 = s.2.2.2.1 + 1 ∧ (dayC s).2.2.2.2.2.1 = s.2.2.2.2.2.1 ∧ (dayC s).2.2.2.2.2.2.1 = s.2.2.2.2.2.2.1 ∧ (dayC s).2.2.2.2.2.2.2.1 = s.2.2.2.2.2.2.2.1 ∧ ∃ e, e ≤ 4 ∧ (dayC s).2.2.2.2.1 = s.2.2.2.2.1 + nI e := by
  have h := tN_eq (gd0 (gN s 4)) 4
  have e0 := gN_eq s 4
  unfold dayC
  generalize tN (gd0 (gN s 4)) 4 = y at h ⊢
  generalize gN s 4 = x at h e0
  obtain ⟨x1, x⟩ := x
  simp only at e0
  subst e0
  obtain ⟨a1, a2, a3, a4, a5, e, he, a6⟩ := h
  exact ⟨a1, congrArg (· + 1) a2, a3, a4, a5, e, he, a6⟩
theorem dayC_wr {s : CS} (hw : WfC s) (h : WR s.2.2.2.2.2.2.1 s.1) : WR s.2.2.2.2.2.2.1 (dayC s).1 := by
  have h1 := gN_wr hw h 4 (Nat.le_refl _)
  unfold dayC
  generalize gN s 4 = x at h1 ⊢
  have h2 := tN_wr (s := gd0 x) h1 4
  generalize tN (gd0 x) 4 = y at h2 ⊢
  exact h2
theorem CJ.step {D : Nat} {c : CS} (h : CJ D c) : CJ (D + 1) (dayC c) := by
  obtain ⟨h1, h2, h3, G, hG, h4⟩ := h
  obtain ⟨a1, a2, a3, a4, a5, e, he, a6⟩ := dayC_eq c
  refine ⟨(dayC_wf h1).1, ?_, ?_, G + e, by omega, ?_⟩
  · rw [a4]; exact dayC_wr h1 h2
  · rw [a2, h3]; exact nI_1 D
  · rw [a6, h4]; exact nI_add G e
theorem CJ.steps {D : Nat} {c : CS} (h : CJ D c) : ∀ n : Nat, CJ (D + n) (daysC c n)
  | 0 => h
  | n + 1 => (CJ.steps h n).step
theorem daysC_eq (s : CS) : ∀ n : Nat, (daysC s n).2.2.1 = s.2.2.1 ∧ (daysC s n).2.2.2.2.2.2.1 = s.2.2.2.2.2.2.1 ∧ (daysC s n).2.2.2.2.2.2.2.1 = s.2.2.2.2.2.2.2.1
  | 0 => ⟨rfl, rfl, rfl⟩
  | n + 1 => by
    have h1 := daysC_eq s n
    rw [daysC]
    generalize daysC s n = y at h1 ⊢
    have h2 := dayC_eq y
    generalize dayC y = z at h2 ⊢
    exact ⟨h2.1.trans h1.1, h2.2.2.2.1.trans h1.2.1, h2.2.2.2.2.1.trans h1.2.2⟩
/-- who wants least: the class's way is the reference's -/
theorem lst_s {P : Nat} {w : Nat → Int32} (h : WR P w) (hP : P ≤ 5) {d : Nat} (hd : d < 4) : ∀ n : Nat, n ≤ P → ((n = 0 ∧ lst w (nI d) n = (-4, 21)) ∨ ∃ q, q < n ∧ lst w (nI d) n = (nI q, w (4 * q + d)))
  | 0, _ => Or.inl ⟨rfl, rfl⟩
  | n + 1, hn => by
    right
    rw [lst]
    rw [ix_n (show n < 5 by omega) hd]
    rcases lst_s h hP hd n (by omega) with ⟨rfl, e⟩ | ⟨q, hq, e⟩
    · rw [e]
      obtain ⟨a, ha, ea⟩ := h (4 * 0 + d) (by omega)
      refine ⟨0, by decide, ?_⟩
      rw [if_pos]
      rw [ea]
      exact (nI_ltI (b := 21) (by omega) (by decide)).mpr (by omega)
    · rw [e]
      by_cases c : w (4 * n + d) < w (4 * q + d)
      · rw [if_pos c]; exact ⟨n, by omega, rfl⟩
      · rw [if_neg c]; exact ⟨q, by omega, rfl⟩
theorem lst_0 {w : Nat → Int32} {d : Int32} : lst w d 0 = (-4, 21) := rfl
theorem nI_m4 {n : Nat} (h : n < 2 ^ 31) : ¬ nI n = -4 := fun e => by
  have := nI_toInt h
  rw [e] at this
  have e4 : (-4 : Int32).toInt = -4 := by decide
  omega
