/-! ===== YawnKeysModel: keep ===== -/
theorem SD.like {s : MS} {c c' : CS} (h : SD s c) (hl : Like c' c) : SD s c' := by
  obtain ⟨⟨h1, h2, h3⟩, h4⟩ := h
  refine ⟨⟨?_, ?_, ?_⟩, hl.row h4⟩
  · rw [hl.2.2.2.2.2.2.1]; exact h1
  · rw [hl.2.2.2.2.2.2.2]; exact h2
  · intro p hp
    rw [hl.2.2.2.2.2.2.1] at hp
    rw [hl.2.2.1 p hp]
    exact h3 p hp
theorem daysC_sh (t : CS) : ∀ n : Nat, daysC (dayC t) n = daysC t (n + 1)
  | 0 => by rw [daysC, daysC, daysC]
  | n + 1 => by rw [daysC, daysC_sh t n, ← daysC]
/-- how often doors are gone in, as numbers -/
theorem gone_n {t : CS} {T : Nat} (h : t.2.2.2.2.1 = nI T) : ∀ n : Nat, ∃ e, e ≤ 4 * n ∧ (daysC t n).2.2.2.2.1 = nI (T + e)
  | 0 => ⟨0, by omega, h⟩
  | n + 1 => by
    obtain ⟨e, he, h1⟩ := gone_n h n
    rw [daysC]
    generalize daysC t n = y at h1 ⊢
    obtain ⟨-, -, -, -, -, e', he', h2⟩ := dayC_eq y
    generalize dayC y = z at h2 ⊢
    exact ⟨e + e', by omega, by rw [h2, h1, nI_add, Nat.add_assoc]⟩
theorem lpC_full {g : Nat} {G0 : Nat} (hg : g < 2 ^ 20) : ∀ (n : Nat) (t : CS) (T : Nat), T + 4 * n < 2 ^ 20 → G0 ≤ T → t.2.2.2.2.1 = nI T → lpC (nI g) (nI G0) n t = daysC t n ∨ (nI g < (lpC (nI g) (nI G0) n t).2.2.2.2.1 - nI G0 ∧ nI g < (daysC t n).2.2.2.2.1 - nI G0)
  | 0, t, T, _, _, _ => Or.inl (by rw [lpC, daysC])
  | n + 1, t, T, hT, hG, h => by
    rw [lpC]
    by_cases c : nI g < t.2.2.2.2.1 - nI G0
    · rw [if_pos c]
      right
      refine ⟨c, ?_⟩
      obtain ⟨e, he, h1⟩ := gone_n h (n + 1)
      rw [h1]
      rw [h, pk_sub hG] at c
      rw [pk_sub (by omega)]
      have := (nI_ltI (by omega) (by omega)).mp c
      exact (nI_ltI (by omega) (by omega)).mpr (by omega)
    · rw [if_neg c, ← daysC_sh]
      obtain ⟨-, -, -, -, -, e, he, h2⟩ := dayC_eq t
      rw [h, nI_add] at h2
      generalize dayC t = z at h2 ⊢
      exact lpC_full hg n z (T + e) (by omega) (by omega) h2
theorem ow_n (a b : Nat → Int32) : ∀ n : Nat, ∃ w, w ≤ n ∧ ow a b n = nI w
  | 0 => ⟨0, by omega, rfl⟩
  | n + 1 => by
    obtain ⟨w, hw, e⟩ := ow_n a b n
    rw [ow, e]
    split
    · exact ⟨w, by omega, nI_add w 0⟩
    · exact ⟨w + 1, by omega, nI_1 w⟩
/-- the class's comparison is the plain one -/
theorem bet_full {s t : CS} {g n G : Nat} {v : Int32} (hg : g ≤ 121) (hn : n ≤ 30) (hG : G ≤ 40000) (hs : s.2.2.2.2.1 = nI G) (ht : t.2.2.2.2.1 = nI G) : bet s t (nI g) v n = if (daysC t n).2.2.2.2.1 - s.2.2.2.2.1 < nI g ∨ ((daysC t n).2.2.2.2.1 - s.2.2.2.2.1 = nI g ∧ ow t.2.1 s.2.1 4 < v) then (true, (daysC t n).2.2.2.2.1 - s.2.2.2.2.1, ow t.2.1 s.2.1 4) else (false, nI g, v) := by
  obtain ⟨e, he, h1⟩ := gone_n ht n
  have h2 := lpC_full (show g < 2 ^ 20 by omega) n t G (G0 := G) (by omega) (Nat.le_refl _) ht
  unfold bet
  rw [hs]
  generalize ow t.2.1 s.2.1 4 = w
  generalize lpC (nI g) (nI G) n t = L at h2 ⊢
  generalize daysC t n = M at h1 h2 ⊢
  have hM : M.2.2.2.2.1 - nI G = nI e := by rw [h1, pk_sub (by omega)]; congr 1; omega
  rw [hM] at h2 ⊢
  have key : ∀ b : Nat, b < 2 ^ 20 → (nI e < nI b ↔ e < b) := fun b hb => nI_ltI (by omega) (by omega)
  have keyE : nI e = nI g ↔ e = g := nI_eq (by omega) (by omega)
  have keyG : nI g < nI e ↔ g < e := nI_ltI (by omega) (by omega)
  have key0 : nI g = 0 ↔ g = 0 := nI_eq (b := 0) (by omega) (by decide)
  simp only [key0, key g (by omega), keyE]
  by_cases c1 : g = 0 ∧ ¬ w < v
  · rw [if_pos c1, if_neg (fun z => by
      rcases z with z | z
      · omega
      · exact c1.2 z.2)]
  · rw [if_neg c1]
    rcases h2 with rfl | ⟨h2, h3⟩
    · simp only [hM, keyG, keyE]
      by_cases c2 : g < e
      · rw [if_pos c2, if_neg (fun z => by omega)]
      · rw [if_neg c2]
        by_cases c3 : e = g ∧ ¬ w < v
        · rw [if_pos c3, if_neg (fun z => by
            rcases z with z | z
            · omega
            · exact c3.2 z.2)]
        · rw [if_neg c3, if_pos (by
            by_cases z : e = g
            · exact Or.inr ⟨z, Classical.byContradiction (fun y => c3 ⟨z, y⟩)⟩
            · exact Or.inl (by omega))]
    · rw [if_pos h2]
      have := keyG.mp h3
      rw [if_neg (fun z => by omega)]
/-- the search, seen from its beginning -/
theorem SkR_chain {s : CS} {n : Nat} : ∀ (K b : Nat) (g v : Int32), SkR s n K b g v → ∃ f : Nat → Nat × Int32 × Int32 × CS, ((f 0).1 = 0 ∧ (f 0).2.1 = 121 ∧ (f 0).2.2.1 = 5) ∧ ((f K).1 = b ∧ (f K).2.1 = g ∧ (f K).2.2.1 = v) ∧ ∀ k, k < K → agr (f k).2.2.2 s k ∧ (bet s (f k).2.2.2 (f k).2.1 (f k).2.2.1 n).2 = ((f (k + 1)).2.1, (f (k + 1)).2.2.1) ∧ (f (k + 1)).1 = if (bet s (f k).2.2.2 (f k).2.1 (f k).2.2.1 n).1 = true then k else (f k).1
  | 0, b, g, v, h => ⟨fun _ => (b, g, v, s), h, ⟨rfl, rfl, rfl⟩, fun k hk => absurd hk (by omega)⟩
  | K + 1, b', g', v', h => by
    obtain ⟨b, g, v, t, h1, h2, h3, h4⟩ := h
    obtain ⟨f, f0, ⟨fb, fg, fv⟩, hf⟩ := SkR_chain K b g v h1
    refine ⟨fun j => if j < K then f j else if j = K then (b, g, v, t) else (b', g', v', t), ?_, ?_, ?_⟩
    · rcases Nat.eq_zero_or_pos K with z | z
      · subst z
        simp only [Nat.lt_irrefl, if_false, if_true]
        rw [← fb, ← fg, ← fv]
        exact f0
      · simp only [z, if_true]
        exact f0
    · simp only [show ¬ K + 1 < K by omega, show ¬ K + 1 = K by omega, if_false, and_self]
    · intro k hk
      have e1 : ∀ j, j ≤ K → ((if j < K then f j else if j = K then (b, g, v, t) else (b', g', v', t)).1 = (f j).1 ∧ (if j < K then f j else if j = K then (b, g, v, t) else (b', g', v', t)).2.1 = (f j).2.1 ∧ (if j < K then f j else if j = K then (b, g, v, t) else (b', g', v', t)).2.2.1 = (f j).2.2.1) := by
        intro j hj
        by_cases c : j < K
        · rw [if_pos c]; exact ⟨rfl, rfl, rfl⟩
        · obtain rfl : j = K := by omega
          rw [if_neg c, if_pos rfl]
          exact ⟨fb.symm, fg.symm, fv.symm⟩
      by_cases c : k < K
      · obtain ⟨a1, a2, a3⟩ := e1 (k + 1) (by omega)
        simp only [if_pos c] at *
        rw [a1, a2, a3]
        exact hf k c
      · obtain rfl : k = K := by omega
        simp only [Nat.lt_irrefl, if_false, if_true, show ¬ k + 1 < k by omega, show ¬ k + 1 = k by omega]
        exact ⟨h2, h3, h4⟩
