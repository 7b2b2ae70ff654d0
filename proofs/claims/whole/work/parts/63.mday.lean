/-! ===== YawnKeysModel: how wants grow ===== -/
/-- a method that only looks -/
def mp (Γ : Cx) (As : List Value) (Pre : MS → Prop) (f : MS → Int32) : YSp := fun av σ K => ∃ (lab : Nat → Nat) (A : Nat × (Nat → Nat)) (s : MS), av = .ref A.1 :: As ∧ Mod Γ lab A s σ ∧ Pre s ∧ K (some (.int (f s))) σ
theorem rv_mp {Γ : Cx} {As : List Value} {Pre : MS → Prop} {f : MS → Int32} {av : List Value} {σ : Hp} {K : Option Value → Hp → Prop} (h : mp Γ As Pre f av σ K) : ∃ (b : Nat) (fs : List Value), av = .ref b :: As ∧ b ∈ σ.1 ∧ σ.2 b = .inr (7, fs) := by
  obtain ⟨lab, A, s, rfl, hM, -⟩ := h
  obtain ⟨fs, h1, h2⟩ := m_rv hM
  exact ⟨_, fs, rfl, h1, h2⟩
def SFr (s s' : MS) : Prop := s'.2.2 = s.2.2 ∧ (∀ k, k ≠ 19 → s'.1 k = s.1 k) ∧ ∀ k, k ≠ 4 → k ≠ 18 → s'.2.1 k = s.2.1 k
theorem SFr.rf {s : MS} : SFr s s := ⟨rfl, fun _ _ => rfl, fun _ _ _ => rfl⟩
theorem SFr.tr {s s' s'' : MS} (h : SFr s s') (h' : SFr s' s'') : SFr s s'' := ⟨h'.1.trans h.1, fun k a => (h'.2.1 k a).trans (h.2.1 k a), fun k a b => (h'.2.2 k a b).trans (h.2.2 k a b)⟩
theorem SFr.side {s : MS} {f : Nat → Int32} : SFr s (s.1, updA s.2.1 4 f, s.2.2) := ⟨rfl, fun _ _ => rfl, fun _ h _ => updA_ne h⟩
theorem SFr.mores {s : MS} {f : Nat → Int32} : SFr s (s.1, updA s.2.1 18 f, s.2.2) := ⟨rfl, fun _ _ => rfl, fun _ _ h => updA_ne h⟩
theorem SFr.gn {s : MS} {v : Int32} : SFr s (upd s.1 19 v, s.2) := ⟨rfl, fun _ h => pk_un h, fun _ _ _ => rfl⟩
/-- the side row is this college, with the reference's people, rule and kinds -/
def KD (P : Nat) (s : MS) (kd : Nat → Int32) : Prop := ∀ p, p < P → (if nI p = s.1 16 then s.1 17 else s.2.1 2 p) = kd p
def SD (s : MS) (c : CS) : Prop := (s.1 0 = nI c.2.2.2.2.2.2.1 ∧ s.1 1 = c.2.2.2.2.2.2.2.1 ∧ KD c.2.2.2.2.2.2.1 s c.2.2.1) ∧ RowM c.2.2.2.2.2.2.1 (s.2.1 4) (mom c)
theorem SD.fr {s s' : MS} {c c' : CS} (h : SD s c) (hf : SFr s s') (e1 : c'.2.2.1 = c.2.2.1) (e2 : c'.2.2.2.2.2.2.1 = c.2.2.2.2.2.2.1) (e3 : c'.2.2.2.2.2.2.2.1 = c.2.2.2.2.2.2.2.1) (hr : RowM c.2.2.2.2.2.2.1 (s'.2.1 4) (mom c')) : SD s' c' := by
  obtain ⟨⟨a, b, d⟩, -⟩ := h
  refine ⟨⟨?_, ?_, ?_⟩, ?_⟩
  · rw [hf.2.1 0 (by decide), e2]; exact a
  · rw [hf.2.1 1 (by decide), e3]; exact b
  · unfold KD
    rw [hf.2.1 16 (by decide), hf.2.1 17 (by decide), hf.2.2 2 (by decide) (by decide), e1, e2]; exact d
  · rw [e2]; exact hr
theorem in5q {p : Nat} (h : p < 5) : vp_in (nI p) 5 ∧ (nI p).toNatClampNeg = p := ⟨vp_in_nI h (by decide), nI_clamp (by omega)⟩
def kdOf (s : MS) (p : Nat) : Int32 := if nI p = s.1 16 then s.1 17 else s.2.1 2 p
def sp_X7_kindOf (Γ : Cx) : YSp := fun av σ K => ∃ p : Nat, mp Γ [.int (nI p)] (fun _ => p < 5) (fun s => kdOf s p) av σ K
theorem rv_X7_kindOf {Γ : Cx} : Recv (sp_X7_kindOf Γ) 1 7 := by
  intro av σ K h
  obtain ⟨p, h⟩ := h
  obtain ⟨q, fs, h1, h2, h3⟩ := rv_mp h
  exact ⟨q, _, fs, h1, rfl, h2, h3⟩
theorem tg_5_10 : tgo 5 10 = some 15 := by decide
theorem tg_12_9 : tgo 12 9 = some 21 := by decide
def mX7_kindOf : Mt := (⟨0, 0, 0, 0⟩, RX7, cX7_kindOf, 2, some .int, (0, 0), none)
theorem mX7_kindOf_c : mX7_kindOf.2.2.1 = cX7_kindOf := rfl
theorem mX7_kindOf_n : mX7_kindOf.2.2.2.1 = 2 := rfl
theorem mX7_kindOf_r : mX7_kindOf.2.2.2.2.1 = some .int := rfl
theorem mX7_kindOf_l : mX7_kindOf.2.2.2.2.2.2 = none := rfl
def jX7_kindOf (Γ : Cx) : List ((Nat × Nat) × Nat × Bool × YSp) := []
theorem uX7_kindOf (Γ : Cx) : TbOK Γ mX7_kindOf (fT fX7, cT kX7, kT (jX7_kindOf Γ)) := tb_ok fX7_ok kX7_ok (all_nil)
set_option maxRecDepth 20000 in
theorem ok_X7_kindOf (Γ : Cx) : Ok Γ yX7_kindOf mX7_kindOf (sp_X7_kindOf Γ) := by
  refine ok_intro (by decide +kernel) rfl rfl ?_
  intro av σ K h
  obtain ⟨p, lab, ⟨a, ad⟩, ⟨sc, ar, it⟩, rfl, hM, hp, h⟩ := h
  simp only at h hM hp
  obtain ⟨c1, c2⟩ := in5q hp
  obtain ⟨⟨m1, -⟩, e1, -⟩ := id hM
  obtain ⟨m2, e2⟩ := hM.arr 2 rfl
  simp only [ME, iA, lenM] at m1 e1 m2 e2
  unfold kdOf at h
  refine ⟨Nat.le_of_ble_eq_true rfl, yvc_ok (uX7_kindOf Γ) (S := []) 40 _ _ _ _ ?_⟩
  simp only [lv_args, Value.category, m1, e1, m2, e2, c1, c2, yvc_s, s1i, s2i, s1l, s2l, sil, s1r, sir, siir, slir, srir, svr, sd1, sd2, lg, lput, ldel, isL_i, isL_r, isL_l, jmp, obj, obj1, fI, fR, arI, arL, arR, hput, f4_0, f4_1, f4_2, f4_3, lc_0, lc_1, rok_i, rok_b, rok_y, strF, fput_1, fput_2, csum_nil, csum_i, csum_l, csum_r, va_up_self, bx_uu, Int.reduceAdd, List.elem_nil, List.elem_cons, List.take_succ_cons, List.take_zero, List.drop_succ_cons, List.drop_zero, List.take_nil, List.drop_nil, List.reverse_cons, List.reverse_nil, List.nil_append, List.cons_append, List.append_nil, Option.toList_some, Option.toList_none, List.getElem?_cons_zero, List.getElem?_cons_succ, List.set_cons_zero, List.set_cons_succ, List.length_cons, List.length_nil, reduceIte, reduceCtorEq, and_true, true_and, and_self, or_true, true_or, false_and, and_false, not_true_eq_false, not_false_eq_true, true_implies, false_implies, implies_true, Nat.reduceAdd, Nat.reduceLT, Nat.reduceEqDiff, Nat.reduceLeDiff, Nat.reduceBEq, Nat.zero_add, Nat.lt_add_one, Bool.false_eq_true, Bool.or_false, Bool.or_true, Bool.or_self, Nat.zero_ne_one, Nat.one_ne_zero, ite_true, ite_false, ne_eq, Nat.reduceSub, Nat.succ_eq_add_one, Nat.zero_lt_succ, Nat.add_one_ne_zero, false_or, or_false, mX7_kindOf_c, mX7_kindOf_n, mX7_kindOf_r, mX7_kindOf_l, dX7_kindOf_0, dX7_kindOf_1, dX7_kindOf_2, fl_7_48_7, dX7_kindOf_5, tg_5_10, cnd2_ne, dX7_kindOf_8, dX7_kindOf_9, fl_7_69_7, dX7_kindOf_12, tg_12_9, dX7_kindOf_15, dX7_kindOf_16, fl_7_13_7, dX7_kindOf_19, dX7_kindOf_20, dX7_kindOf_21, st_aload_n, st_getfield, st_goto, st_iaload, st_if_icmp, st_iload_n, st_ireturn]
  refine ⟨fun c => ?_, fun c => ?_⟩
  · rw [if_neg c] at h; exact h
  · rw [if_pos (Classical.not_not.mp c)] at h; exact h
def sp_X7_keysOf (Γ : Cx) : YSp := fun av σ K => ∃ p : Int32, mp Γ [.int p] (fun _ => True) (fun s => cnt (fun d => s.2.1 4 (20 + d)) p 4) av σ K
theorem rv_X7_keysOf {Γ : Cx} : Recv (sp_X7_keysOf Γ) 1 7 := by
  intro av σ K h
  obtain ⟨p, h⟩ := h
  obtain ⟨q, fs, h1, h2, h3⟩ := rv_mp h
  exact ⟨q, _, fs, h1, rfl, h2, h3⟩
theorem tg_6_30 : tgo 6 30 = some 36 := by decide
theorem tg_20_7 : tgo 20 7 = some 27 := by decide
theorem tg_24_4 : tgo 24 4 = some 28 := by decide
theorem tg_33_m29 : tgo 33 (-29) = some 4 := by decide
def mX7_keysOf : Mt := (⟨0, 0, 0, 0⟩, RX7, cX7_keysOf, 4, some .int, (0, 0), none)
theorem mX7_keysOf_c : mX7_keysOf.2.2.1 = cX7_keysOf := rfl
theorem mX7_keysOf_n : mX7_keysOf.2.2.2.1 = 4 := rfl
theorem mX7_keysOf_r : mX7_keysOf.2.2.2.2.1 = some .int := rfl
theorem mX7_keysOf_l : mX7_keysOf.2.2.2.2.2.2 = none := rfl
def jX7_keysOf (Γ : Cx) : List ((Nat × Nat) × Nat × Bool × YSp) := []
theorem uX7_keysOf (Γ : Cx) : TbOK Γ mX7_keysOf (fT fX7, cT kX7, kT (jX7_keysOf Γ)) := tb_ok fX7_ok kX7_ok (all_nil)
set_option maxRecDepth 20000 in
theorem ok_X7_keysOf (Γ : Cx) : Ok Γ yX7_keysOf mX7_keysOf (sp_X7_keysOf Γ) := by
  refine ok_intro (by decide +kernel) rfl rfl ?_
  intro av σ K h
  obtain ⟨p, lab, ⟨a, ad⟩, ⟨sc, ar, it⟩, rfl, hM, -, h⟩ := h
  simp only at h hM
  obtain ⟨⟨m1, -⟩, e1, -⟩ := id hM
  obtain ⟨m4, e4⟩ := hM.arr 4 rfl
  simp only [ME, iA, lenM] at m1 e1 m4 e4
  have loop : ∀ n j : Nat, j + n = 4 → YG Γ mX7_keysOf K 4 [(0, .ref a), (1, .int p), (2, .int (cnt (fun d => ar 4 (20 + d)) p j)), (3, .int (nI j))] [] σ := by
    intro n
    induction n with
    | zero =>
      intro j hj
      obtain rfl : j = 4 := by omega
      refine yvc1_ok (uX7_keysOf Γ) (S := [4]) 40 ?_
      simp only [yvc1, ge4, yvc_s, s1i, s2i, s1l, s2l, sil, s1r, sir, siir, slir, srir, svr, sd1, sd2, lg, lput, ldel, isL_i, isL_r, isL_l, jmp, obj, obj1, fI, fR, arI, arL, arR, hput, f4_0, f4_1, f4_2, f4_3, lc_0, lc_1, rok_i, rok_b, rok_y, strF, fput_1, fput_2, csum_nil, csum_i, csum_l, csum_r, va_up_self, bx_uu, Int.reduceAdd, List.elem_nil, List.elem_cons, List.take_succ_cons, List.take_zero, List.drop_succ_cons, List.drop_zero, List.take_nil, List.drop_nil, List.reverse_cons, List.reverse_nil, List.nil_append, List.cons_append, List.append_nil, Option.toList_some, Option.toList_none, List.getElem?_cons_zero, List.getElem?_cons_succ, List.set_cons_zero, List.set_cons_succ, List.length_cons, List.length_nil, reduceIte, reduceCtorEq, and_true, true_and, and_self, or_true, true_or, false_and, and_false, not_true_eq_false, not_false_eq_true, true_implies, false_implies, implies_true, Nat.reduceAdd, Nat.reduceLT, Nat.reduceEqDiff, Nat.reduceLeDiff, Nat.reduceBEq, Nat.zero_add, Nat.lt_add_one, Bool.false_eq_true, Bool.or_false, Bool.or_true, Bool.or_self, Nat.zero_ne_one, Nat.one_ne_zero, ite_true, ite_false, ne_eq, Nat.reduceSub, Nat.succ_eq_add_one, Nat.zero_lt_succ, Nat.add_one_ne_zero, false_or, or_false, mX7_keysOf_c, mX7_keysOf_n, mX7_keysOf_r, mX7_keysOf_l, dX7_keysOf_0, ic_0, dX7_keysOf_1, dX7_keysOf_2, dX7_keysOf_3, dX7_keysOf_4, dX7_keysOf_5, ic_4, dX7_keysOf_6, tg_6_30, cnd2_ge, dX7_keysOf_9, dX7_keysOf_10, dX7_keysOf_11, fl_7_20_7, dX7_keysOf_14, bc_20, dX7_keysOf_16, dX7_keysOf_17, dX7_keysOf_18, dX7_keysOf_19, dX7_keysOf_20, tg_20_7, cnd2_ne, dX7_keysOf_23, ic_1, dX7_keysOf_24, tg_24_4, dX7_keysOf_27, dX7_keysOf_28, dX7_keysOf_29, dX7_keysOf_30, dX7_keysOf_33, tg_33_m29, dX7_keysOf_36, dX7_keysOf_37, st_aload_n, st_bipush, st_getfield, st_goto, st_iadd, st_iaload, st_iconst, st_if_icmp, st_iinc, st_iload_n, st_ireturn, st_istore_n]
      exact h
    | succ n ih =>
      intro j hj
      obtain ⟨c1, -, -⟩ := lt4 (show j < 4 by omega)
      obtain ⟨c2, c3⟩ := ix20 (show j < 4 by omega)
      have hj1 := ih (j + 1) (by omega)
      refine yvc1_ok (uX7_keysOf Γ) (S := [4]) 40 ?_
      simp only [yvc1, c1, c2, c3, m1, m4, e1, e4, nI_1, yvc_s, s1i, s2i, s1l, s2l, sil, s1r, sir, siir, slir, srir, svr, sd1, sd2, lg, lput, ldel, isL_i, isL_r, isL_l, jmp, obj, obj1, fI, fR, arI, arL, arR, hput, f4_0, f4_1, f4_2, f4_3, lc_0, lc_1, rok_i, rok_b, rok_y, strF, fput_1, fput_2, csum_nil, csum_i, csum_l, csum_r, va_up_self, bx_uu, Int.reduceAdd, List.elem_nil, List.elem_cons, List.take_succ_cons, List.take_zero, List.drop_succ_cons, List.drop_zero, List.take_nil, List.drop_nil, List.reverse_cons, List.reverse_nil, List.nil_append, List.cons_append, List.append_nil, Option.toList_some, Option.toList_none, List.getElem?_cons_zero, List.getElem?_cons_succ, List.set_cons_zero, List.set_cons_succ, List.length_cons, List.length_nil, reduceIte, reduceCtorEq, and_true, true_and, and_self, or_true, true_or, false_and, and_false, not_true_eq_false, not_false_eq_true, true_implies, false_implies, implies_true, Nat.reduceAdd, Nat.reduceLT, Nat.reduceEqDiff, Nat.reduceLeDiff, Nat.reduceBEq, Nat.zero_add, Nat.lt_add_one, Bool.false_eq_true, Bool.or_false, Bool.or_true, Bool.or_self, Nat.zero_ne_one, Nat.one_ne_zero, ite_true, ite_false, ne_eq, Nat.reduceSub, Nat.succ_eq_add_one, Nat.zero_lt_succ, Nat.add_one_ne_zero, false_or, or_false, mX7_keysOf_c, mX7_keysOf_n, mX7_keysOf_r, mX7_keysOf_l, dX7_keysOf_0, ic_0, dX7_keysOf_1, dX7_keysOf_2, dX7_keysOf_3, dX7_keysOf_4, dX7_keysOf_5, ic_4, dX7_keysOf_6, tg_6_30, cnd2_ge, dX7_keysOf_9, dX7_keysOf_10, dX7_keysOf_11, fl_7_20_7, dX7_keysOf_14, bc_20, dX7_keysOf_16, dX7_keysOf_17, dX7_keysOf_18, dX7_keysOf_19, dX7_keysOf_20, tg_20_7, cnd2_ne, dX7_keysOf_23, ic_1, dX7_keysOf_24, tg_24_4, dX7_keysOf_27, dX7_keysOf_28, dX7_keysOf_29, dX7_keysOf_30, dX7_keysOf_33, tg_33_m29, dX7_keysOf_36, dX7_keysOf_37, st_aload_n, st_bipush, st_getfield, st_goto, st_iadd, st_iaload, st_iconst, st_if_icmp, st_iinc, st_iload_n, st_ireturn, st_istore_n]
      refine ⟨fun c => ?_, fun c => ?_⟩
      · rw [cnt, if_neg c] at hj1
        exact hj1
      · rw [cnt, if_pos (Classical.not_not.mp c)] at hj1
        exact hj1
  refine ⟨Nat.le_of_ble_eq_true rfl, yvc_ok (uX7_keysOf Γ) (S := [4]) 40 _ _ _ _ ?_⟩
  simp only [lv_args, Value.category, yvc_s, s1i, s2i, s1l, s2l, sil, s1r, sir, siir, slir, srir, svr, sd1, sd2, lg, lput, ldel, isL_i, isL_r, isL_l, jmp, obj, obj1, fI, fR, arI, arL, arR, hput, f4_0, f4_1, f4_2, f4_3, lc_0, lc_1, rok_i, rok_b, rok_y, strF, fput_1, fput_2, csum_nil, csum_i, csum_l, csum_r, va_up_self, bx_uu, Int.reduceAdd, List.elem_nil, List.elem_cons, List.take_succ_cons, List.take_zero, List.drop_succ_cons, List.drop_zero, List.take_nil, List.drop_nil, List.reverse_cons, List.reverse_nil, List.nil_append, List.cons_append, List.append_nil, Option.toList_some, Option.toList_none, List.getElem?_cons_zero, List.getElem?_cons_succ, List.set_cons_zero, List.set_cons_succ, List.length_cons, List.length_nil, reduceIte, reduceCtorEq, and_true, true_and, and_self, or_true, true_or, false_and, and_false, not_true_eq_false, not_false_eq_true, true_implies, false_implies, implies_true, Nat.reduceAdd, Nat.reduceLT, Nat.reduceEqDiff, Nat.reduceLeDiff, Nat.reduceBEq, Nat.zero_add, Nat.lt_add_one, Bool.false_eq_true, Bool.or_false, Bool.or_true, Bool.or_self, Nat.zero_ne_one, Nat.one_ne_zero, ite_true, ite_false, ne_eq, Nat.reduceSub, Nat.succ_eq_add_one, Nat.zero_lt_succ, Nat.add_one_ne_zero, false_or, or_false, mX7_keysOf_c, mX7_keysOf_n, mX7_keysOf_r, mX7_keysOf_l, dX7_keysOf_0, ic_0, dX7_keysOf_1, dX7_keysOf_2, dX7_keysOf_3, dX7_keysOf_4, dX7_keysOf_5, ic_4, dX7_keysOf_6, tg_6_30, cnd2_ge, dX7_keysOf_9, dX7_keysOf_10, dX7_keysOf_11, fl_7_20_7, dX7_keysOf_14, bc_20, dX7_keysOf_16, dX7_keysOf_17, dX7_keysOf_18, dX7_keysOf_19, dX7_keysOf_20, tg_20_7, cnd2_ne, dX7_keysOf_23, ic_1, dX7_keysOf_24, tg_24_4, dX7_keysOf_27, dX7_keysOf_28, dX7_keysOf_29, dX7_keysOf_30, dX7_keysOf_33, tg_33_m29, dX7_keysOf_36, dX7_keysOf_37, st_aload_n, st_bipush, st_getfield, st_goto, st_iadd, st_iaload, st_iconst, st_if_icmp, st_iinc, st_iload_n, st_ireturn, st_istore_n]
  exact loop 4 0 rfl
theorem cnt_row {P : Nat} {row : Nat → Int32} {m : MC} (h : RowM P row m) (p : Int32) : cnt (fun d => row (20 + d)) p 4 = bcE (kset m.2.1 p 4) := by
  rw [← cnt_bc]
  have key : ∀ n, n ≤ 4 → cnt (fun d => row (20 + d)) p n = cnt m.2.1 p n := by
    intro n
    induction n with
    | zero => intro _; rfl
    | succ n ih => intro hn; have e := h.2.1 n (by omega); simp only [cnt, ih (by omega), e]
  exact key 4 (Nat.le_refl _)
/-- growth, as the reference tells cases apart -/
theorem growth_m {c : CS} {d p : Nat} {k : Int32} (hk : c.2.1 d = nI p) (hp : p < 5) (hkd : c.2.2.1 p = k) (hd : d < 4) : growth c d = if k = 1 then bcE (kset c.2.1 (nI p) 4) else if k = 2 then warm c.2.2.2.1 else if k = 3 then 2 * bcE (kset c.2.1 (nI p) 4) else if k = 4 then (if c.1 (4 * p + d) < 9 then warm c.2.2.2.1 else 0) else 1 := by
  unfold growth
  rw [hk, if_neg (nI_m4 (by omega)), nI_clamp (by omega), hkd, ix_n hp hd]
theorem i1e0 : ((1 : Int32) = 0) = False := by decide
def sp_X7_more (Γ : Cx) : YSp := fun av σ K => ∃ (p d D : Nat) (c : CS), mp Γ [.int (nI p), .int (nI d)] (fun s => SD s c ∧ CJ D c ∧ D < 2 ^ 31 ∧ d < 4 ∧ p < c.2.2.2.2.2.2.1 ∧ c.2.1 d = nI p) (fun _ => growth c d) av σ K
theorem rv_X7_more {Γ : Cx} : Recv (sp_X7_more Γ) 2 7 := by
  intro av σ K h
  obtain ⟨p, d, D, c, h⟩ := h
  obtain ⟨q, fs, h1, h2, h3⟩ := rv_mp h
  exact ⟨q, _, fs, h1, rfl, h2, h3⟩
theorem bw_843 : Cond.code yX7_kindOf cX7_kindOf 2 (some .int) ∈ BW := bw_i 843 (by decide +kernel) (by decide +kernel)
theorem no_X7_kindOf : NameOK yX7_kindOf 1 := by unfold NameOK; decide +kernel
theorem bw_840 : Cond.methodLink RX7 72 yX7_kindOf ∈ BW := bw_i 840 (by decide +kernel) (by decide +kernel)
theorem bw_842 : Cond.instanceMethod yX7_kindOf ∈ BW := bw_i 842 (by decide +kernel) (by decide +kernel)
theorem bw_19 : Cond.selects RX7 yX7_kindOf yX7_kindOf ∈ BW := bw_i 19 (by decide +kernel) (by decide +kernel)
theorem bw_847 : Cond.code yX7_keysOf cX7_keysOf 4 (some .int) ∈ BW := bw_i 847 (by decide +kernel) (by decide +kernel)
theorem no_X7_keysOf : NameOK yX7_keysOf 1 := by unfold NameOK; decide +kernel
theorem bw_844 : Cond.methodLink RX7 76 yX7_keysOf ∈ BW := bw_i 844 (by decide +kernel) (by decide +kernel)
theorem bw_846 : Cond.instanceMethod yX7_keysOf ∈ BW := bw_i 846 (by decide +kernel) (by decide +kernel)
theorem bw_20 : Cond.selects RX7 yX7_keysOf yX7_keysOf ∈ BW := bw_i 20 (by decide +kernel) (by decide +kernel)
theorem tg_8_8 : tgo 8 8 = some 16 := by decide
theorem tg_13_25 : tgo 13 25 = some 38 := by decide
theorem tg_25_10 : tgo 25 10 = some 35 := by decide
theorem tg_40_8 : tgo 40 8 = some 48 := by decide
theorem tg_45_7 : tgo 45 7 = some 52 := by decide
theorem tg_49_4 : tgo 49 4 = some 53 := by decide
theorem tg_57_16 : tgo 57 16 = some 73 := by decide
theorem tg_70_23 : tgo 70 23 = some 93 := by decide
theorem tg_75_22 : tgo 75 22 = some 97 := by decide
theorem tg_90_7 : tgo 90 7 = some 97 := by decide
theorem tg_94_4 : tgo 94 4 = some 98 := by decide
theorem tg_102_7 : tgo 102 7 = some 109 := by decide
theorem tg_106_4 : tgo 106 4 = some 110 := by decide
def mX7_more : Mt := (⟨1, 0, 0, 23⟩, RX7, cX7_more, 6, some .int, (0, 0), none)
theorem mX7_more_c : mX7_more.2.2.1 = cX7_more := rfl
theorem mX7_more_n : mX7_more.2.2.2.1 = 6 := rfl
theorem mX7_more_r : mX7_more.2.2.2.2.1 = some .int := rfl
theorem mX7_more_l : mX7_more.2.2.2.2.2.2 = none := rfl
def jX7_more (Γ : Cx) : List ((Nat × Nat) × Nat × Bool × YSp) := [((0, 72), 2, false, sp_X7_kindOf Γ), ((0, 76), 2, false, sp_X7_keysOf Γ)]
theorem jX7_more_0_72 (Γ : Cx) : kT (jX7_more Γ) 0 72 = some (2, false, sp_X7_kindOf Γ) := rfl
theorem jX7_more_0_76 (Γ : Cx) : kT (jX7_more Γ) 0 76 = some (2, false, sp_X7_keysOf Γ) := rfl
theorem uX7_more (Γ : Cx) : TbOK Γ mX7_more (fT fX7, cT kX7, kT (jX7_more Γ)) := tb_ok fX7_ok kX7_ok (all_cons ⟨call_V (n := 1) (T := TX7) (N := 26) (ok_X7_kindOf Γ) (rv_X7_kindOf (Γ := Γ)) rfl bw_843 bw_840 bw_842 bw_19 bw_49 no_X7_kindOf ⟨⟨rfl, rfl⟩, ⟨by decide, by decide⟩, ⟨by decide, by decide⟩⟩, fun z => by cases z⟩ (all_cons ⟨call_V (n := 1) (T := TX7) (N := 26) (ok_X7_keysOf Γ) (rv_X7_keysOf (Γ := Γ)) rfl bw_847 bw_844 bw_846 bw_20 bw_49 no_X7_keysOf ⟨⟨rfl, rfl⟩, ⟨by decide, by decide⟩, ⟨by decide, by decide⟩⟩, fun z => by cases z⟩ (all_nil)))
set_option maxRecDepth 20000 in
theorem ok_X7_more (Γ : Cx) : Ok Γ yX7_more mX7_more (sp_X7_more Γ) := by
  refine ok_intro (by decide +kernel) rfl rfl ?_
  intro av σ K h
  obtain ⟨p, d, D, c, lab, ⟨a, ad⟩, ⟨sc, ar, it⟩, rfl, hM, ⟨hS, hJ, hD, hd, hp, hk⟩, h⟩ := h
  simp only at h hM
  have hp5 : p < 5 := by have := hJ.1.1; omega
  obtain ⟨⟨m1, -⟩, e1, -⟩ := id hM
  obtain ⟨m4, e4⟩ := hM.arr 4 rfl
  simp only [ME, iA, lenM] at m1 e1 m4 e4
  have hkd : c.2.2.1 p = kdOf (sc, ar, it) p := (hS.1.2.2 p hp).symm
  rw [growth_m hk hp5 hkd hd] at h
  have hrow := hS.2
  simp only at hrow
  obtain ⟨i1, i2⟩ := ix4 hp5 hd
  have hw : ar 4 (4 * p + d) = c.1 (4 * p + d) := hrow.1 _ (by omega)
  have hday : ar 4 24 = nI D := hrow.2.2.1.trans hJ.2.2.1
  have hcn := cnt_row hrow (nI p)
  simp only [mom] at hcn
  rw [hJ.2.2.1, warm_n hD] at h
  have hrem : nI D - nI D / 2 * 2 = nI (D % 2) := pk_rem (d := 2) hD (by decide) (by decide)
  have hr1 : nI (D % 2) = 1 ↔ D % 2 = 1 := nI_eq (b := 1) (by omega) (by decide)
  refine ⟨Nat.le_of_ble_eq_true rfl, yvc_ok (uX7_more Γ) (S := []) 60 _ _ _ _ ?_⟩
  simp only [lv_args, Value.category, yvc_s, s1i, s2i, s1l, s2l, sil, s1r, sir, siir, slir, srir, svr, sd1, sd2, lg, lput, ldel, isL_i, isL_r, isL_l, jmp, obj, obj1, fI, fR, arI, arL, arR, hput, f4_0, f4_1, f4_2, f4_3, lc_0, lc_1, rok_i, rok_b, rok_y, strF, fput_1, fput_2, csum_nil, csum_i, csum_l, csum_r, va_up_self, bx_uu, Int.reduceAdd, List.elem_nil, List.elem_cons, List.take_succ_cons, List.take_zero, List.drop_succ_cons, List.drop_zero, List.take_nil, List.drop_nil, List.reverse_cons, List.reverse_nil, List.nil_append, List.cons_append, List.append_nil, Option.toList_some, Option.toList_none, List.getElem?_cons_zero, List.getElem?_cons_succ, List.set_cons_zero, List.set_cons_succ, List.length_cons, List.length_nil, reduceIte, reduceCtorEq, and_true, true_and, and_self, or_true, true_or, false_and, and_false, not_true_eq_false, not_false_eq_true, true_implies, false_implies, implies_true, Nat.reduceAdd, Nat.reduceLT, Nat.reduceEqDiff, Nat.reduceLeDiff, Nat.reduceBEq, Nat.zero_add, Nat.lt_add_one, Bool.false_eq_true, Bool.or_false, Bool.or_true, Bool.or_self, Nat.zero_ne_one, Nat.one_ne_zero, ite_true, ite_false, ne_eq, Nat.reduceSub, Nat.succ_eq_add_one, Nat.zero_lt_succ, Nat.add_one_ne_zero, false_or, or_false, mX7_more_c, mX7_more_n, mX7_more_r, mX7_more_l, dX7_more_0, dX7_more_1, dX7_more_2, dX7_more_5, dX7_more_6, dX7_more_7, ic_1, dX7_more_8, tg_8_8, cnd2_eq, dX7_more_11, dX7_more_12, ic_3, dX7_more_13, tg_13_25, cnd2_ne, dX7_more_16, dX7_more_17, dX7_more_18, dX7_more_21, dX7_more_23, dX7_more_24, dX7_more_25, tg_25_10, dX7_more_28, ic_2, dX7_more_29, dX7_more_31, dX7_more_32, tg_32_5, dX7_more_35, dX7_more_37, dX7_more_38, dX7_more_39, dX7_more_40, tg_40_8, dX7_more_43, dX7_more_44, ic_4, dX7_more_45, tg_45_7, dX7_more_48, dX7_more_49, tg_49_4, dX7_more_52, ic_0, dX7_more_53, dX7_more_55, dX7_more_57, tg_57_16, cnd1_eq, dX7_more_60, dX7_more_61, fl_7_20_7, dX7_more_64, bc_24, dX7_more_66, dX7_more_67, dX7_more_68, dX7_more_69, dX7_more_70, tg_70_23, dX7_more_73, dX7_more_74, dX7_more_75, tg_75_22, dX7_more_78, dX7_more_79, dX7_more_82, dX7_more_83, dX7_more_84, dX7_more_85, dX7_more_86, dX7_more_87, dX7_more_88, bc_9, dX7_more_90, tg_90_7, cnd2_lt, dX7_more_93, dX7_more_94, tg_94_4, dX7_more_97, dX7_more_98, dX7_more_100, dX7_more_102, tg_102_7, dX7_more_105, dX7_more_106, tg_106_4, dX7_more_109, dX7_more_110, jX7_more_0_72, jX7_more_0_76, st_aload_n, st_bipush, st_getfield, st_goto, st_iadd, st_iaload, st_iconst, st_ifCond, st_if_icmp, st_iload, st_iload_n, st_imul, st_invokevirtual, st_irem, st_ireturn, st_istore, st_istore_n]
  refine ⟨p, lab, (a, ad), (sc, ar, it), rfl, hM, hp5, ?_⟩
  refine yvc_ok (uX7_more Γ) (S := []) 90 _ _ _ _ ?_
  simp only [m1, e1, m4, e4, i1, i2, i2ne0, in24_27, n24, hday, hw, hrem, hr1, i1e0, yvc_s, s1i, s2i, s1l, s2l, sil, s1r, sir, siir, slir, srir, svr, sd1, sd2, lg, lput, ldel, isL_i, isL_r, isL_l, jmp, obj, obj1, fI, fR, arI, arL, arR, hput, f4_0, f4_1, f4_2, f4_3, lc_0, lc_1, rok_i, rok_b, rok_y, strF, fput_1, fput_2, csum_nil, csum_i, csum_l, csum_r, va_up_self, bx_uu, Int.reduceAdd, List.elem_nil, List.elem_cons, List.take_succ_cons, List.take_zero, List.drop_succ_cons, List.drop_zero, List.take_nil, List.drop_nil, List.reverse_cons, List.reverse_nil, List.nil_append, List.cons_append, List.append_nil, Option.toList_some, Option.toList_none, List.getElem?_cons_zero, List.getElem?_cons_succ, List.set_cons_zero, List.set_cons_succ, List.length_cons, List.length_nil, reduceIte, reduceCtorEq, and_true, true_and, and_self, or_true, true_or, false_and, and_false, not_true_eq_false, not_false_eq_true, true_implies, false_implies, implies_true, Nat.reduceAdd, Nat.reduceLT, Nat.reduceEqDiff, Nat.reduceLeDiff, Nat.reduceBEq, Nat.zero_add, Nat.lt_add_one, Bool.false_eq_true, Bool.or_false, Bool.or_true, Bool.or_self, Nat.zero_ne_one, Nat.one_ne_zero, ite_true, ite_false, ne_eq, Nat.reduceSub, Nat.succ_eq_add_one, Nat.zero_lt_succ, Nat.add_one_ne_zero, false_or, or_false, mX7_more_c, mX7_more_n, mX7_more_r, mX7_more_l, dX7_more_0, dX7_more_1, dX7_more_2, dX7_more_5, dX7_more_6, dX7_more_7, ic_1, dX7_more_8, tg_8_8, cnd2_eq, dX7_more_11, dX7_more_12, ic_3, dX7_more_13, tg_13_25, cnd2_ne, dX7_more_16, dX7_more_17, dX7_more_18, dX7_more_21, dX7_more_23, dX7_more_24, dX7_more_25, tg_25_10, dX7_more_28, ic_2, dX7_more_29, dX7_more_31, dX7_more_32, tg_32_5, dX7_more_35, dX7_more_37, dX7_more_38, dX7_more_39, dX7_more_40, tg_40_8, dX7_more_43, dX7_more_44, ic_4, dX7_more_45, tg_45_7, dX7_more_48, dX7_more_49, tg_49_4, dX7_more_52, ic_0, dX7_more_53, dX7_more_55, dX7_more_57, tg_57_16, cnd1_eq, dX7_more_60, dX7_more_61, fl_7_20_7, dX7_more_64, bc_24, dX7_more_66, dX7_more_67, dX7_more_68, dX7_more_69, dX7_more_70, tg_70_23, dX7_more_73, dX7_more_74, dX7_more_75, tg_75_22, dX7_more_78, dX7_more_79, dX7_more_82, dX7_more_83, dX7_more_84, dX7_more_85, dX7_more_86, dX7_more_87, dX7_more_88, bc_9, dX7_more_90, tg_90_7, cnd2_lt, dX7_more_93, dX7_more_94, tg_94_4, dX7_more_97, dX7_more_98, dX7_more_100, dX7_more_102, tg_102_7, dX7_more_105, dX7_more_106, tg_106_4, dX7_more_109, dX7_more_110, jX7_more_0_72, jX7_more_0_76, st_aload_n, st_bipush, st_getfield, st_goto, st_iadd, st_iaload, st_iconst, st_ifCond, st_if_icmp, st_iload, st_iload_n, st_imul, st_invokevirtual, st_irem, st_ireturn, st_istore, st_istore_n]
  generalize kdOf (sc, ar, it) p = k at h ⊢
  have goK : ∀ (_ : k = 1 ∨ k = 3), sp_X7_keysOf Γ [.ref a, .int (nI p)] σ fun v σ' => YG Γ mX7_more K 21 [(0, .ref a), (1, .int (nI p)), (2, .int (nI d)), (3, .int k)] v.toList σ' := by
    intro hk13
    refine ⟨nI p, lab, (a, ad), (sc, ar, it), rfl, hM, trivial, ?_⟩
    simp only [hcn]
    refine yvc_ok (uX7_more Γ) (S := []) 90 _ _ _ _ ?_
    simp only [yvc_s, s1i, s2i, s1l, s2l, sil, s1r, sir, siir, slir, srir, svr, sd1, sd2, lg, lput, ldel, isL_i, isL_r, isL_l, jmp, obj, obj1, fI, fR, arI, arL, arR, hput, f4_0, f4_1, f4_2, f4_3, lc_0, lc_1, rok_i, rok_b, rok_y, strF, fput_1, fput_2, csum_nil, csum_i, csum_l, csum_r, va_up_self, bx_uu, Int.reduceAdd, List.elem_nil, List.elem_cons, List.take_succ_cons, List.take_zero, List.drop_succ_cons, List.drop_zero, List.take_nil, List.drop_nil, List.reverse_cons, List.reverse_nil, List.nil_append, List.cons_append, List.append_nil, Option.toList_some, Option.toList_none, List.getElem?_cons_zero, List.getElem?_cons_succ, List.set_cons_zero, List.set_cons_succ, List.length_cons, List.length_nil, reduceIte, reduceCtorEq, and_true, true_and, and_self, or_true, true_or, false_and, and_false, not_true_eq_false, not_false_eq_true, true_implies, false_implies, implies_true, Nat.reduceAdd, Nat.reduceLT, Nat.reduceEqDiff, Nat.reduceLeDiff, Nat.reduceBEq, Nat.zero_add, Nat.lt_add_one, Bool.false_eq_true, Bool.or_false, Bool.or_true, Bool.or_self, Nat.zero_ne_one, Nat.one_ne_zero, ite_true, ite_false, ne_eq, Nat.reduceSub, Nat.succ_eq_add_one, Nat.zero_lt_succ, Nat.add_one_ne_zero, false_or, or_false, mX7_more_c, mX7_more_n, mX7_more_r, mX7_more_l, dX7_more_0, dX7_more_1, dX7_more_2, dX7_more_5, dX7_more_6, dX7_more_7, ic_1, dX7_more_8, tg_8_8, cnd2_eq, dX7_more_11, dX7_more_12, ic_3, dX7_more_13, tg_13_25, cnd2_ne, dX7_more_16, dX7_more_17, dX7_more_18, dX7_more_21, dX7_more_23, dX7_more_24, dX7_more_25, tg_25_10, dX7_more_28, ic_2, dX7_more_29, dX7_more_31, dX7_more_32, tg_32_5, dX7_more_35, dX7_more_37, dX7_more_38, dX7_more_39, dX7_more_40, tg_40_8, dX7_more_43, dX7_more_44, ic_4, dX7_more_45, tg_45_7, dX7_more_48, dX7_more_49, tg_49_4, dX7_more_52, ic_0, dX7_more_53, dX7_more_55, dX7_more_57, tg_57_16, cnd1_eq, dX7_more_60, dX7_more_61, fl_7_20_7, dX7_more_64, bc_24, dX7_more_66, dX7_more_67, dX7_more_68, dX7_more_69, dX7_more_70, tg_70_23, dX7_more_73, dX7_more_74, dX7_more_75, tg_75_22, dX7_more_78, dX7_more_79, dX7_more_82, dX7_more_83, dX7_more_84, dX7_more_85, dX7_more_86, dX7_more_87, dX7_more_88, bc_9, dX7_more_90, tg_90_7, cnd2_lt, dX7_more_93, dX7_more_94, tg_94_4, dX7_more_97, dX7_more_98, dX7_more_100, dX7_more_102, tg_102_7, dX7_more_105, dX7_more_106, tg_106_4, dX7_more_109, dX7_more_110, jX7_more_0_72, jX7_more_0_76, st_aload_n, st_bipush, st_getfield, st_goto, st_iadd, st_iaload, st_iconst, st_ifCond, st_if_icmp, st_iload, st_iload_n, st_imul, st_invokevirtual, st_irem, st_ireturn, st_istore, st_istore_n]
    refine ⟨fun k3 => ?_, fun k3 => ?_⟩
    · rw [if_pos (hk13.resolve_right k3)] at h
      exact h
    · have k3 := Classical.not_not.mp k3
      rw [if_neg (by rw [k3]; decide), if_neg (by rw [k3]; decide), if_pos k3] at h
      exact h
  refine ⟨fun k1 => goK (Or.inl k1), fun k1 => ⟨fun k3 => ?_, fun k3 => goK (Or.inr (Classical.not_not.mp k3))⟩⟩
  by_cases k2 : k = 2
  · have k4 : ¬ k = 4 := by rw [k2]; decide
    rw [if_neg k1, if_pos k2] at h
    simp only [eq_true k2, eq_false k4, not_true_eq_false, not_false_eq_true, true_implies, false_implies, and_true, true_and]
    refine ⟨fun z => ?_, fun z => ?_⟩
    · rw [if_pos z] at h; exact h
    · rw [if_neg z] at h; exact h
  · rw [if_neg k1, if_neg k2, if_neg k3] at h
    by_cases k4 : k = 4
    · rw [if_pos k4] at h
      simp only [eq_false k2, eq_true k4, not_true_eq_false, not_false_eq_true, true_implies, false_implies, and_true, true_and]
      refine ⟨fun z => ?_, fun z => ⟨fun y => ?_, fun y => ?_⟩⟩
      · rw [if_pos z] at h
        split at h <;> exact h
      · rw [if_neg z, if_pos y] at h; exact h
      · rw [if_neg y] at h; exact h
    · rw [if_neg k4] at h
      simp only [eq_false k2, eq_false k4, not_true_eq_false, not_false_eq_true, true_implies, false_implies, and_true, true_and]
      exact h

def sp_X7_leastOf (Γ : Cx) : YSp := fun av σ K => ∃ (d : Nat) (c : CS), mp Γ [.int (nI d)] (fun s => SD s c ∧ WfC c ∧ WR c.2.2.2.2.2.2.1 c.1 ∧ d < 4) (fun _ => (lst c.1 (nI d) c.2.2.2.2.2.2.1).1) av σ K
theorem rv_X7_leastOf {Γ : Cx} : Recv (sp_X7_leastOf Γ) 1 7 := by
  intro av σ K h
  obtain ⟨d, c, h⟩ := h
  obtain ⟨q, fs, h1, h2, h3⟩ := rv_mp h
  exact ⟨q, _, fs, h1, rfl, h2, h3⟩
theorem tg_10_44 : tgo 10 44 = some 54 := by decide
theorem tg_16_26 : tgo 16 26 = some 42 := by decide
theorem tg_39_7 : tgo 39 7 = some 46 := by decide
theorem tg_43_4 : tgo 43 4 = some 47 := by decide
theorem tg_51_m46 : tgo 51 (-46) = some 5 := by decide
def mX7_leastOf : Mt := (⟨0, 0, 0, 0⟩, RX7, cX7_leastOf, 4, some .int, (0, 0), none)
theorem mX7_leastOf_c : mX7_leastOf.2.2.1 = cX7_leastOf := rfl
theorem mX7_leastOf_n : mX7_leastOf.2.2.2.1 = 4 := rfl
theorem mX7_leastOf_r : mX7_leastOf.2.2.2.2.1 = some .int := rfl
theorem mX7_leastOf_l : mX7_leastOf.2.2.2.2.2.2 = none := rfl
def jX7_leastOf (Γ : Cx) : List ((Nat × Nat) × Nat × Bool × YSp) := []
theorem uX7_leastOf (Γ : Cx) : TbOK Γ mX7_leastOf (fT fX7, cT kX7, kT (jX7_leastOf Γ)) := tb_ok fX7_ok kX7_ok (all_nil)
set_option maxRecDepth 20000 in
theorem ok_X7_leastOf (Γ : Cx) : Ok Γ yX7_leastOf mX7_leastOf (sp_X7_leastOf Γ) := by
  refine ok_intro (by decide +kernel) rfl rfl ?_
  intro av σ K h
  obtain ⟨d, c, lab, ⟨a, ad⟩, ⟨sc, ar, it⟩, rfl, hM, ⟨hS, hW, hR, hd⟩, h⟩ := h
  simp only at h hM
  obtain ⟨⟨m1, -⟩, e1, -⟩ := id hM
  obtain ⟨m4, e4⟩ := hM.arr 4 rfl
  simp only [ME, iA, lenM] at m1 e1 m4 e4
  have hrow := hS.2.1
  simp only [mom] at hrow
  have hP := hW.1
  have hp0 : sc 0 = nI c.2.2.2.2.2.2.1 := hS.1.1
  have hls := lst_s hR hP hd
  generalize c.2.2.2.2.2.2.1 = P at hrow hP hp0 h hls
  generalize c.1 = w at hrow h hls
  rw [hp0] at e1
  have loop : ∀ n j : Nat, j + n = P → YG Γ mX7_leastOf K 5 [(0, .ref a), (1, .int (nI d)), (2, .int (lst w (nI d) j).1), (3, .int (nI j))] [] σ := by
    intro n
    induction n with
    | zero =>
      intro j hj
      obtain rfl : j = P := by omega
      refine yvc1_ok (uX7_leastOf Γ) (S := [5]) 40 ?_
      simp only [yvc1, geP, m1, e1, yvc_s, s1i, s2i, s1l, s2l, sil, s1r, sir, siir, slir, srir, svr, sd1, sd2, lg, lput, ldel, isL_i, isL_r, isL_l, jmp, obj, obj1, fI, fR, arI, arL, arR, hput, f4_0, f4_1, f4_2, f4_3, lc_0, lc_1, rok_i, rok_b, rok_y, strF, fput_1, fput_2, csum_nil, csum_i, csum_l, csum_r, va_up_self, bx_uu, Int.reduceAdd, List.elem_nil, List.elem_cons, List.take_succ_cons, List.take_zero, List.drop_succ_cons, List.drop_zero, List.take_nil, List.drop_nil, List.reverse_cons, List.reverse_nil, List.nil_append, List.cons_append, List.append_nil, Option.toList_some, Option.toList_none, List.getElem?_cons_zero, List.getElem?_cons_succ, List.set_cons_zero, List.set_cons_succ, List.length_cons, List.length_nil, reduceIte, reduceCtorEq, and_true, true_and, and_self, or_true, true_or, false_and, and_false, not_true_eq_false, not_false_eq_true, true_implies, false_implies, implies_true, Nat.reduceAdd, Nat.reduceLT, Nat.reduceEqDiff, Nat.reduceLeDiff, Nat.reduceBEq, Nat.zero_add, Nat.lt_add_one, Bool.false_eq_true, Bool.or_false, Bool.or_true, Bool.or_self, Nat.zero_ne_one, Nat.one_ne_zero, ite_true, ite_false, ne_eq, Nat.reduceSub, Nat.succ_eq_add_one, Nat.zero_lt_succ, Nat.add_one_ne_zero, false_or, or_false, mX7_leastOf_c, mX7_leastOf_n, mX7_leastOf_r, mX7_leastOf_l, dX7_leastOf_0, bc_m4, dX7_leastOf_2, dX7_leastOf_3, ic_0, dX7_leastOf_4, dX7_leastOf_5, dX7_leastOf_6, dX7_leastOf_7, fl_7_60_7, dX7_leastOf_10, tg_10_44, cnd2_ge, dX7_leastOf_13, dX7_leastOf_14, dX7_leastOf_16, tg_16_26, cnd2_eq, dX7_leastOf_19, dX7_leastOf_20, fl_7_20_7, dX7_leastOf_23, ic_4, dX7_leastOf_24, dX7_leastOf_25, dX7_leastOf_26, dX7_leastOf_27, dX7_leastOf_28, dX7_leastOf_29, dX7_leastOf_30, dX7_leastOf_33, dX7_leastOf_34, dX7_leastOf_35, dX7_leastOf_36, dX7_leastOf_37, dX7_leastOf_38, dX7_leastOf_39, tg_39_7, dX7_leastOf_42, dX7_leastOf_43, tg_43_4, dX7_leastOf_46, dX7_leastOf_47, dX7_leastOf_48, ic_1, dX7_leastOf_51, tg_51_m46, dX7_leastOf_54, dX7_leastOf_55, st_aload_n, st_bipush, st_getfield, st_goto, st_iadd, st_iaload, st_iconst, st_if_icmp, st_iinc, st_iload_n, st_imul, st_ireturn, st_istore_n]
      exact h
    | succ n ih =>
      intro j hj
      have c1 := ltP (show j < P by omega) hP
      have hj1 := ih (j + 1) (by omega)
      rw [lst, ix_n (show j < 5 by omega) hd] at hj1
      have i1 := ix4 (show j < 5 by omega) hd
      have w1 := hrow (4 * j + d) (by omega)
      rcases hls j (by omega) with ⟨rfl, e⟩ | ⟨q, hq, e⟩
      · obtain ⟨b, hb, eb⟩ := hls 1 (by omega) |>.resolve_left (fun z => by cases z.1)
        obtain rfl : b = 0 := by omega
        rw [lst, ix_n (show 0 < 5 by omega) hd, e] at eb
        rw [e] at hj1 ⊢
        rw [eb] at hj1
        refine yvc1_ok (uX7_leastOf Γ) (S := [5]) 40 ?_
        simp only [yvc1, c1, m1, e1, nI_1, yvc_s, s1i, s2i, s1l, s2l, sil, s1r, sir, siir, slir, srir, svr, sd1, sd2, lg, lput, ldel, isL_i, isL_r, isL_l, jmp, obj, obj1, fI, fR, arI, arL, arR, hput, f4_0, f4_1, f4_2, f4_3, lc_0, lc_1, rok_i, rok_b, rok_y, strF, fput_1, fput_2, csum_nil, csum_i, csum_l, csum_r, va_up_self, bx_uu, Int.reduceAdd, List.elem_nil, List.elem_cons, List.take_succ_cons, List.take_zero, List.drop_succ_cons, List.drop_zero, List.take_nil, List.drop_nil, List.reverse_cons, List.reverse_nil, List.nil_append, List.cons_append, List.append_nil, Option.toList_some, Option.toList_none, List.getElem?_cons_zero, List.getElem?_cons_succ, List.set_cons_zero, List.set_cons_succ, List.length_cons, List.length_nil, reduceIte, reduceCtorEq, and_true, true_and, and_self, or_true, true_or, false_and, and_false, not_true_eq_false, not_false_eq_true, true_implies, false_implies, implies_true, Nat.reduceAdd, Nat.reduceLT, Nat.reduceEqDiff, Nat.reduceLeDiff, Nat.reduceBEq, Nat.zero_add, Nat.lt_add_one, Bool.false_eq_true, Bool.or_false, Bool.or_true, Bool.or_self, Nat.zero_ne_one, Nat.one_ne_zero, ite_true, ite_false, ne_eq, Nat.reduceSub, Nat.succ_eq_add_one, Nat.zero_lt_succ, Nat.add_one_ne_zero, false_or, or_false, mX7_leastOf_c, mX7_leastOf_n, mX7_leastOf_r, mX7_leastOf_l, dX7_leastOf_0, bc_m4, dX7_leastOf_2, dX7_leastOf_3, ic_0, dX7_leastOf_4, dX7_leastOf_5, dX7_leastOf_6, dX7_leastOf_7, fl_7_60_7, dX7_leastOf_10, tg_10_44, cnd2_ge, dX7_leastOf_13, dX7_leastOf_14, dX7_leastOf_16, tg_16_26, cnd2_eq, dX7_leastOf_19, dX7_leastOf_20, fl_7_20_7, dX7_leastOf_23, ic_4, dX7_leastOf_24, dX7_leastOf_25, dX7_leastOf_26, dX7_leastOf_27, dX7_leastOf_28, dX7_leastOf_29, dX7_leastOf_30, dX7_leastOf_33, dX7_leastOf_34, dX7_leastOf_35, dX7_leastOf_36, dX7_leastOf_37, dX7_leastOf_38, dX7_leastOf_39, tg_39_7, dX7_leastOf_42, dX7_leastOf_43, tg_43_4, dX7_leastOf_46, dX7_leastOf_47, dX7_leastOf_48, ic_1, dX7_leastOf_51, tg_51_m46, dX7_leastOf_54, dX7_leastOf_55, st_aload_n, st_bipush, st_getfield, st_goto, st_iadd, st_iaload, st_iconst, st_if_icmp, st_iinc, st_iload_n, st_imul, st_ireturn, st_istore_n]
        exact hj1
      · rw [e] at hj1 ⊢
        have i2 := ix4 (show q < 5 by omega) hd
        have w2 := hrow (4 * q + d) (by omega)
        have q4 := nI_m4 (show q < 2 ^ 31 by omega)
        refine yvc1_ok (uX7_leastOf Γ) (S := [5]) 40 ?_
        simp only [yvc1, c1, m1, e1, m4, e4, i1.1, i1.2, i2.1, i2.2, w1, w2, q4, nI_1, yvc_s, s1i, s2i, s1l, s2l, sil, s1r, sir, siir, slir, srir, svr, sd1, sd2, lg, lput, ldel, isL_i, isL_r, isL_l, jmp, obj, obj1, fI, fR, arI, arL, arR, hput, f4_0, f4_1, f4_2, f4_3, lc_0, lc_1, rok_i, rok_b, rok_y, strF, fput_1, fput_2, csum_nil, csum_i, csum_l, csum_r, va_up_self, bx_uu, Int.reduceAdd, List.elem_nil, List.elem_cons, List.take_succ_cons, List.take_zero, List.drop_succ_cons, List.drop_zero, List.take_nil, List.drop_nil, List.reverse_cons, List.reverse_nil, List.nil_append, List.cons_append, List.append_nil, Option.toList_some, Option.toList_none, List.getElem?_cons_zero, List.getElem?_cons_succ, List.set_cons_zero, List.set_cons_succ, List.length_cons, List.length_nil, reduceIte, reduceCtorEq, and_true, true_and, and_self, or_true, true_or, false_and, and_false, not_true_eq_false, not_false_eq_true, true_implies, false_implies, implies_true, Nat.reduceAdd, Nat.reduceLT, Nat.reduceEqDiff, Nat.reduceLeDiff, Nat.reduceBEq, Nat.zero_add, Nat.lt_add_one, Bool.false_eq_true, Bool.or_false, Bool.or_true, Bool.or_self, Nat.zero_ne_one, Nat.one_ne_zero, ite_true, ite_false, ne_eq, Nat.reduceSub, Nat.succ_eq_add_one, Nat.zero_lt_succ, Nat.add_one_ne_zero, false_or, or_false, mX7_leastOf_c, mX7_leastOf_n, mX7_leastOf_r, mX7_leastOf_l, dX7_leastOf_0, bc_m4, dX7_leastOf_2, dX7_leastOf_3, ic_0, dX7_leastOf_4, dX7_leastOf_5, dX7_leastOf_6, dX7_leastOf_7, fl_7_60_7, dX7_leastOf_10, tg_10_44, cnd2_ge, dX7_leastOf_13, dX7_leastOf_14, dX7_leastOf_16, tg_16_26, cnd2_eq, dX7_leastOf_19, dX7_leastOf_20, fl_7_20_7, dX7_leastOf_23, ic_4, dX7_leastOf_24, dX7_leastOf_25, dX7_leastOf_26, dX7_leastOf_27, dX7_leastOf_28, dX7_leastOf_29, dX7_leastOf_30, dX7_leastOf_33, dX7_leastOf_34, dX7_leastOf_35, dX7_leastOf_36, dX7_leastOf_37, dX7_leastOf_38, dX7_leastOf_39, tg_39_7, dX7_leastOf_42, dX7_leastOf_43, tg_43_4, dX7_leastOf_46, dX7_leastOf_47, dX7_leastOf_48, ic_1, dX7_leastOf_51, tg_51_m46, dX7_leastOf_54, dX7_leastOf_55, st_aload_n, st_bipush, st_getfield, st_goto, st_iadd, st_iaload, st_iconst, st_if_icmp, st_iinc, st_iload_n, st_imul, st_ireturn, st_istore_n]
        refine ⟨fun z => ?_, fun z => ?_⟩
        · rw [if_neg (i_nlt.mpr z)] at hj1; exact hj1
        · rw [if_pos (i_nle.mp z)] at hj1; exact hj1
  refine ⟨Nat.le_of_ble_eq_true rfl, yvc_ok (uX7_leastOf Γ) (S := [5]) 40 _ _ _ _ ?_⟩
  simp only [lv_args, Value.category, yvc_s, s1i, s2i, s1l, s2l, sil, s1r, sir, siir, slir, srir, svr, sd1, sd2, lg, lput, ldel, isL_i, isL_r, isL_l, jmp, obj, obj1, fI, fR, arI, arL, arR, hput, f4_0, f4_1, f4_2, f4_3, lc_0, lc_1, rok_i, rok_b, rok_y, strF, fput_1, fput_2, csum_nil, csum_i, csum_l, csum_r, va_up_self, bx_uu, Int.reduceAdd, List.elem_nil, List.elem_cons, List.take_succ_cons, List.take_zero, List.drop_succ_cons, List.drop_zero, List.take_nil, List.drop_nil, List.reverse_cons, List.reverse_nil, List.nil_append, List.cons_append, List.append_nil, Option.toList_some, Option.toList_none, List.getElem?_cons_zero, List.getElem?_cons_succ, List.set_cons_zero, List.set_cons_succ, List.length_cons, List.length_nil, reduceIte, reduceCtorEq, and_true, true_and, and_self, or_true, true_or, false_and, and_false, not_true_eq_false, not_false_eq_true, true_implies, false_implies, implies_true, Nat.reduceAdd, Nat.reduceLT, Nat.reduceEqDiff, Nat.reduceLeDiff, Nat.reduceBEq, Nat.zero_add, Nat.lt_add_one, Bool.false_eq_true, Bool.or_false, Bool.or_true, Bool.or_self, Nat.zero_ne_one, Nat.one_ne_zero, ite_true, ite_false, ne_eq, Nat.reduceSub, Nat.succ_eq_add_one, Nat.zero_lt_succ, Nat.add_one_ne_zero, false_or, or_false, mX7_leastOf_c, mX7_leastOf_n, mX7_leastOf_r, mX7_leastOf_l, dX7_leastOf_0, bc_m4, dX7_leastOf_2, dX7_leastOf_3, ic_0, dX7_leastOf_4, dX7_leastOf_5, dX7_leastOf_6, dX7_leastOf_7, fl_7_60_7, dX7_leastOf_10, tg_10_44, cnd2_ge, dX7_leastOf_13, dX7_leastOf_14, dX7_leastOf_16, tg_16_26, cnd2_eq, dX7_leastOf_19, dX7_leastOf_20, fl_7_20_7, dX7_leastOf_23, ic_4, dX7_leastOf_24, dX7_leastOf_25, dX7_leastOf_26, dX7_leastOf_27, dX7_leastOf_28, dX7_leastOf_29, dX7_leastOf_30, dX7_leastOf_33, dX7_leastOf_34, dX7_leastOf_35, dX7_leastOf_36, dX7_leastOf_37, dX7_leastOf_38, dX7_leastOf_39, tg_39_7, dX7_leastOf_42, dX7_leastOf_43, tg_43_4, dX7_leastOf_46, dX7_leastOf_47, dX7_leastOf_48, ic_1, dX7_leastOf_51, tg_51_m46, dX7_leastOf_54, dX7_leastOf_55, st_aload_n, st_bipush, st_getfield, st_goto, st_iadd, st_iaload, st_iconst, st_if_icmp, st_iinc, st_iload_n, st_imul, st_ireturn, st_istore_n]
  exact loop P 0 (by omega)
/-- one is talked to, on the side row -/
def tlk (s : MS) (k : Nat) (n : Int32) : MS := (s.1, updA s.2.1 4 (upd (s.2.1 4) k (cap20 (s.2.1 4 k + n))), s.2.2)
def sp_X7_talkTo (Γ : Cx) : YSp := fun av σ K => ∃ (p d : Nat) (n : Int32), mq Γ [.int (nI p), .int (nI d), .int n] (fun _ => p < 5 ∧ d < 4) (fun s s' r => s' = tlk s (4 * p + d) n ∧ r = none) av σ K
theorem rv_X7_talkTo {Γ : Cx} : Recv (sp_X7_talkTo Γ) 3 7 := by
  intro av σ K h
  obtain ⟨p, d, n, h⟩ := h
  obtain ⟨q, fs, h1, h2, h3⟩ := rv_mq h
  exact ⟨q, _, fs, h1, rfl, h2, h3⟩
theorem tg_27_8 : tgo 27 8 = some 35 := by decide
def mX7_talkTo : Mt := (⟨0, 0, 0, 0⟩, RX7, cX7_talkTo, 5, none, (0, 0), none)
theorem mX7_talkTo_c : mX7_talkTo.2.2.1 = cX7_talkTo := rfl
theorem mX7_talkTo_n : mX7_talkTo.2.2.2.1 = 5 := rfl
theorem mX7_talkTo_r : mX7_talkTo.2.2.2.2.1 = none := rfl
theorem mX7_talkTo_l : mX7_talkTo.2.2.2.2.2.2 = none := rfl
def jX7_talkTo (Γ : Cx) : List ((Nat × Nat) × Nat × Bool × YSp) := []
theorem uX7_talkTo (Γ : Cx) : TbOK Γ mX7_talkTo (fT fX7, cT kX7, kT (jX7_talkTo Γ)) := tb_ok fX7_ok kX7_ok (all_nil)
set_option maxRecDepth 20000 in
theorem ok_X7_talkTo (Γ : Cx) : Ok Γ yX7_talkTo mX7_talkTo (sp_X7_talkTo Γ) := by
  refine ok_intro (by decide +kernel) rfl rfl ?_
  intro av σ K h
  obtain ⟨p, d, n, lab, ⟨a, ad⟩, ⟨sc, ar, it⟩, rfl, hM, ⟨hp, hd⟩, h⟩ := h
  simp only at h hM
  obtain ⟨⟨m1, -⟩, e1, -⟩ := id hM
  obtain ⟨m4, e4⟩ := hM.arr 4 rfl
  obtain ⟨i1, i2⟩ := ix4 hp hd
  have hM2 := hM.putA (k := 4) rfl (upd (ar 4) (4 * p + d) (cap20 (ar 4 (4 * p + d) + n)))
  have hk := h _ _ _ ⟨rfl, rfl⟩ (hM.frA (k := 4) rfl) hM2
  simp only [ME, iA, lenM, hput] at m1 e1 m4 e4 hk
  rw [cap20_gt] at hk
  refine ⟨Nat.le_of_ble_eq_true rfl, yvc_ok (uX7_talkTo Γ) (S := []) 60 _ _ _ _ ?_⟩
  simp only [lv_args, Value.category, m1, e1, m4, e4, i1, i2, yvc_s, s1i, s2i, s1l, s2l, sil, s1r, sir, siir, slir, srir, svr, sd1, sd2, lg, lput, ldel, isL_i, isL_r, isL_l, jmp, obj, obj1, fI, fR, arI, arL, arR, hput, f4_0, f4_1, f4_2, f4_3, lc_0, lc_1, rok_i, rok_b, rok_y, strF, fput_1, fput_2, csum_nil, csum_i, csum_l, csum_r, va_up_self, bx_uu, Int.reduceAdd, List.elem_nil, List.elem_cons, List.take_succ_cons, List.take_zero, List.drop_succ_cons, List.drop_zero, List.take_nil, List.drop_nil, List.reverse_cons, List.reverse_nil, List.nil_append, List.cons_append, List.append_nil, Option.toList_some, Option.toList_none, List.getElem?_cons_zero, List.getElem?_cons_succ, List.set_cons_zero, List.set_cons_succ, List.length_cons, List.length_nil, reduceIte, reduceCtorEq, and_true, true_and, and_self, or_true, true_or, false_and, and_false, not_true_eq_false, not_false_eq_true, true_implies, false_implies, implies_true, Nat.reduceAdd, Nat.reduceLT, Nat.reduceEqDiff, Nat.reduceLeDiff, Nat.reduceBEq, Nat.zero_add, Nat.lt_add_one, Bool.false_eq_true, Bool.or_false, Bool.or_true, Bool.or_self, Nat.zero_ne_one, Nat.one_ne_zero, ite_true, ite_false, ne_eq, Nat.reduceSub, Nat.succ_eq_add_one, Nat.zero_lt_succ, Nat.add_one_ne_zero, false_or, or_false, mX7_talkTo_c, mX7_talkTo_n, mX7_talkTo_r, mX7_talkTo_l, dX7_talkTo_0, dX7_talkTo_1, fl_7_20_7, dX7_talkTo_4, ic_4, dX7_talkTo_5, dX7_talkTo_6, dX7_talkTo_7, dX7_talkTo_8, dX7_talkTo_9, dX7_talkTo_10, dX7_talkTo_11, dX7_talkTo_12, dX7_talkTo_14, dX7_talkTo_15, dX7_talkTo_18, dX7_talkTo_19, dX7_talkTo_20, dX7_talkTo_21, dX7_talkTo_22, dX7_talkTo_23, dX7_talkTo_25, bc_20, dX7_talkTo_27, tg_27_8, cnd2_le, dX7_talkTo_30, dX7_talkTo_32, tg_32_5, dX7_talkTo_35, dX7_talkTo_37, dX7_talkTo_38, st_aload_n, st_bipush, st_getfield, st_goto, st_iadd, st_iaload, st_iastore, st_iconst, st_if_icmp, st_iload, st_iload_n, st_imul, st_istore, st_return]
  refine ⟨fun z => ?_, fun z => ?_⟩
  · rw [if_neg (i_nlt.mpr z)] at hk; exact hk
  · rw [if_pos (i_nle.mp z)] at hk; exact hk
