/-! ===== YawnKeysModel: sheets ===== -/
theorem Mod.neK {Γ : Cx} {lab : Nat → Nat} {A : Nat × (Nat → Nat)} {s : MS} {σ : Hp} (h : Mod Γ lab A s σ) {j k : Nat} (hj : isA j = true) (hk : isA k = true) (hn : k ≠ j) (f : Nat → va_E) (x : va_E) : va_up f (A.2 j) x (A.2 k) = f (A.2 k) := va_up_ne f x (h.2.2.2.2 k j hk hj hn)
theorem Mod.itm {Γ : Cx} {lab : Nat → Nat} {A : Nat × (Nat → Nat)} {s : MS} {σ : Hp} (h : Mod Γ lab A s σ) : A.2 11 ∈ σ.1 ∧ σ.2 (A.2 11) = lA Γ 96 s.2.2 := ⟨h.1.2.2.1, h.2.2.1⟩
/-- the sheets change -/
theorem R.upS {ψ : XS} {s : MS} {ss : Nat → SS} {ar : Nat → Nat → Int32} {it : Nat → Int64} (h : R ψ s) (ha : ∀ k, k ≠ 12 → k ≠ 13 → ar k = s.2.1 k) (hs : RS ss (ar 12) (ar 13) it) : R (ψ.1, ψ.2.1, ψ.2.2.1, ψ.2.2.2.1, ψ.2.2.2.2.1, ψ.2.2.2.2.2.1, ss) (s.1, ar, it) := by
  unfold R
  simp only
  rw [ha 2 (by decide) (by decide), ha 3 (by decide) (by decide), ha 5 (by decide) (by decide), ha 8 (by decide) (by decide), ha 9 (by decide) (by decide), ha 10 (by decide) (by decide), ha 15 (by decide) (by decide)]
  exact ⟨h.1, h.2.1, h.2.2.1, h.2.2.2.1, hs⟩
theorem sz_lt {z : Int32} (hz : z = -1 ∨ ∃ k, k ≤ 24 ∧ z = nI k) : z < 0 ↔ z = -1 := by
  rcases hz with rfl | ⟨k, hk, rfl⟩
  · decide
  · refine ⟨fun h => absurd h (nI_pos (by omega)), fun h => ?_⟩
    have := congrArg Int32.toInt h
    rw [nI_toInt (by omega)] at this
    have e : (-1 : Int32).toInt = -1 := by decide
    omega
theorem sz_ge {z : Int32} (hz : z = -1 ∨ ∃ k, k ≤ 24 ∧ z = nI k) : 0 ≤ z ↔ ¬ z = -1 := by
  rw [← sz_lt hz]
  exact i_nlt.symm
theorem spn_m {z i n : Int32} (hz : z = -1 ∨ ∃ k, k ≤ 24 ∧ z = nI k) (hi : ¬ i < 0) (hn : ¬ n < 0) : (z.toInt64 < i.toInt64 + n.toInt64) ↔ ¬ spn z i n = true := by
  have hzz : -1 ≤ z.toInt ∧ z.toInt ≤ 24 := by
    rcases hz with rfl | ⟨k, hk, rfl⟩
    · decide
    · rw [nI_toInt (by omega)]; omega
  obtain ⟨I, hI, rfl⟩ := nI_of hi
  obtain ⟨N, hN, rfl⟩ := nI_of hn
  unfold spn
  rw [decide_eq_true (i_nlt.mp hi), decide_eq_true (i_nlt.mp hn), Bool.true_and, Bool.true_and, decide_eq_true_eq, Int64.lt_iff_toInt_lt, Int64.toInt_add, Int32.toInt_toInt64, Int32.toInt_toInt64, Int32.toInt_toInt64, Int32.le_iff_toInt_le, Int32.toInt_sub, nI_toInt hI, nI_toInt hN]
  have e1 : ((I : Int) + (N : Int)).bmod (2 ^ 64) = (I : Int) + N := by rw [Int.bmod_eq_of_le] <;> omega
  have e2 : (z.toInt - (N : Int)).bmod (2 ^ 32) = z.toInt - N := by rw [Int.bmod_eq_of_le] <;> omega
  rw [e1, e2]
  omega
theorem spn_i {z i n : Int32} (h : i < 0) : spn z i n = false := by
  unfold spn
  rw [decide_eq_false (i_nle.mpr h), Bool.false_and, Bool.and_false]
theorem spn_k {z i n : Int32} (h : n < 0) : spn z i n = false := by
  unfold spn
  rw [decide_eq_false (i_nle.mpr h), Bool.false_and]
def sp_X7_isSpan (Γ : Cx) : YSp := fun av σ K => ∃ (q : Nat) (i n : Int32), mp Γ [.int (nI q), .int i, .int n] (fun s => q < 4 ∧ (s.2.1 13 q = -1 ∨ ∃ k, k ≤ 24 ∧ s.2.1 13 q = nI k)) (fun s => bI (spn (s.2.1 13 q) i n)) av σ K
theorem rv_X7_isSpan {Γ : Cx} : Recv (sp_X7_isSpan Γ) 3 7 := by
  intro av σ K h
  obtain ⟨q, i, n, h⟩ := h
  obtain ⟨q, fs, h1, h2, h3⟩ := rv_mp h
  exact ⟨q, _, fs, h1, rfl, h2, h3⟩
theorem tg_1_27 : tgo 1 27 = some 28 := by decide
def mX7_isSpan : Mt := (⟨0, 0, 0, 0⟩, RX7, cX7_isSpan, 4, some .boolean, (0, 0), none)
theorem mX7_isSpan_c : mX7_isSpan.2.2.1 = cX7_isSpan := rfl
theorem mX7_isSpan_n : mX7_isSpan.2.2.2.1 = 4 := rfl
theorem mX7_isSpan_r : mX7_isSpan.2.2.2.2.1 = some .boolean := rfl
theorem mX7_isSpan_l : mX7_isSpan.2.2.2.2.2.2 = none := rfl
def jX7_isSpan (Γ : Cx) : List ((Nat × Nat) × Nat × Bool × YSp) := []
theorem uX7_isSpan (Γ : Cx) : TbOK Γ mX7_isSpan (fT fX7, cT kX7, kT (jX7_isSpan Γ)) := tb_ok fX7_ok kX7_ok (all_nil)
set_option maxRecDepth 20000 in
theorem ok_X7_isSpan (Γ : Cx) : Ok Γ yX7_isSpan mX7_isSpan (sp_X7_isSpan Γ) := by
  refine ok_intro (by decide +kernel) rfl rfl ?_
  intro av σ K h
  obtain ⟨q, i, n, lab, ⟨a, ad⟩, ⟨sc, ar, it⟩, rfl, hM, ⟨hq, hz⟩, h⟩ := h
  simp only at h hz
  obtain ⟨d2, d3⟩ := in4q hq
  obtain ⟨⟨m1, -⟩, e1, -⟩ := id hM
  obtain ⟨m13, e13⟩ := hM.arr 13 rfl
  simp only [ME, iA, lenM] at m1 e1 m13 e13
  refine ⟨Nat.le_of_ble_eq_true rfl, yvc_ok (uX7_isSpan Γ) (S := []) 60 _ _ _ _ ?_⟩
  simp only [lv_args, Value.category, m1, e1, m13, e13, d2, d3, lg_cmp_gt, yvc_s, s1i, s2i, s1l, s2l, sil, s1r, sir, siir, slir, srir, svr, sd1, sd2, lg, lput, ldel, isL_i, isL_r, isL_l, jmp, obj, obj1, fI, fR, arI, arL, arR, hput, f4_0, f4_1, f4_2, f4_3, lc_0, lc_1, rok_i, rok_b, rok_y, strF, fput_1, fput_2, csum_nil, csum_i, csum_l, csum_r, va_up_self, bx_uu, Int.reduceAdd, List.elem_nil, List.elem_cons, List.take_succ_cons, List.take_zero, List.drop_succ_cons, List.drop_zero, List.take_nil, List.drop_nil, List.reverse_cons, List.reverse_nil, List.nil_append, List.cons_append, List.append_nil, Option.toList_some, Option.toList_none, List.getElem?_cons_zero, List.getElem?_cons_succ, List.set_cons_zero, List.set_cons_succ, List.length_cons, List.length_nil, reduceIte, reduceCtorEq, and_true, true_and, and_self, or_true, true_or, false_and, and_false, not_true_eq_false, not_false_eq_true, true_implies, false_implies, implies_true, Nat.reduceAdd, Nat.reduceLT, Nat.reduceEqDiff, Nat.reduceLeDiff, Nat.reduceBEq, Nat.zero_add, Nat.lt_add_one, Bool.false_eq_true, Bool.or_false, Bool.or_true, Bool.or_self, Nat.zero_ne_one, Nat.one_ne_zero, ite_true, ite_false, ne_eq, Nat.reduceSub, Nat.succ_eq_add_one, Nat.zero_lt_succ, Nat.add_one_ne_zero, false_or, or_false, mX7_isSpan_c, mX7_isSpan_n, mX7_isSpan_r, mX7_isSpan_l, dX7_isSpan_0, dX7_isSpan_1, tg_1_27, cnd1_lt, dX7_isSpan_4, dX7_isSpan_5, tg_5_23, dX7_isSpan_8, dX7_isSpan_9, dX7_isSpan_10, dX7_isSpan_11, dX7_isSpan_12, dX7_isSpan_13, dX7_isSpan_14, fl_7_42_7, dX7_isSpan_17, dX7_isSpan_18, dX7_isSpan_19, dX7_isSpan_20, dX7_isSpan_21, tg_21_7, cnd1_gt, dX7_isSpan_24, ic_1, dX7_isSpan_25, tg_25_4, dX7_isSpan_28, ic_0, dX7_isSpan_29, st_aload_n, st_getfield, st_goto, st_i2l, st_iaload, st_iconst, st_ifCond, st_iload_n, st_ireturn, st_ladd, st_lcmp]
  refine ⟨fun c => ?_, fun c => ⟨fun d => ?_, fun d => ⟨fun e => ?_, fun e => ?_⟩⟩⟩
  · rw [spn_i c] at h; exact h
  · rw [spn_k d] at h; exact h
  · rw [Bool.eq_false_iff.mpr ((spn_m hz c d).mp e)] at h; exact h
  · rw [Classical.not_not.mp (fun z => e ((spn_m hz c d).mpr z))] at h; exact h
def sp_X7_lacks (Γ : Cx) : YSp := fun av σ K => ∃ (q : Nat) (l i n : Int32), mp Γ [.int (nI q), .int l, .int i, .int n] (fun s => q < 4 ∧ (s.2.1 13 q = -1 ∨ ∃ k, k ≤ 24 ∧ s.2.1 13 q = nI k)) (fun s => rfz (s.2.1 12 q) (s.2.1 13 q) l i n) av σ K
theorem rv_X7_lacks {Γ : Cx} : Recv (sp_X7_lacks Γ) 4 7 := by
  intro av σ K h
  obtain ⟨q, l, i, n, h⟩ := h
  obtain ⟨q, fs, h1, h2, h3⟩ := rv_mp h
  exact ⟨q, _, fs, h1, rfl, h2, h3⟩
theorem bw_1027 : Cond.code yX7_isSpan cX7_isSpan 4 (some .boolean) ∈ BW := bw_i 1027 (by decide +kernel) (by decide +kernel)
theorem no_X7_isSpan : NameOK yX7_isSpan 3 := by unfold NameOK; decide +kernel
theorem bw_1024 : Cond.methodLink RX7 211 yX7_isSpan ∈ BW := bw_i 1024 (by decide +kernel) (by decide +kernel)
theorem bw_1026 : Cond.instanceMethod yX7_isSpan ∈ BW := bw_i 1026 (by decide +kernel) (by decide +kernel)
theorem bw_36 : Cond.selects RX7 yX7_isSpan yX7_isSpan ∈ BW := bw_i 36 (by decide +kernel) (by decide +kernel)
theorem tg_6_8 : tgo 6 8 = some 14 := by decide
theorem tg_11_35 : tgo 11 35 = some 46 := by decide
theorem tg_21_8 : tgo 21 8 = some 29 := by decide
theorem tg_26_20 : tgo 26 20 = some 46 := by decide
theorem tg_37_7 : tgo 37 7 = some 44 := by decide
def mX7_lacks : Mt := (⟨1, 0, 0, 23⟩, RX7, cX7_lacks, 5, some .int, (0, 0), none)
theorem mX7_lacks_c : mX7_lacks.2.2.1 = cX7_lacks := rfl
theorem mX7_lacks_n : mX7_lacks.2.2.2.1 = 5 := rfl
theorem mX7_lacks_r : mX7_lacks.2.2.2.2.1 = some .int := rfl
theorem mX7_lacks_l : mX7_lacks.2.2.2.2.2.2 = none := rfl
def jX7_lacks (Γ : Cx) : List ((Nat × Nat) × Nat × Bool × YSp) := [((0, 211), 4, false, sp_X7_isSpan Γ)]
theorem jX7_lacks_0_211 (Γ : Cx) : kT (jX7_lacks Γ) 0 211 = some (4, false, sp_X7_isSpan Γ) := rfl
theorem uX7_lacks (Γ : Cx) : TbOK Γ mX7_lacks (fT fX7, cT kX7, kT (jX7_lacks Γ)) := tb_ok fX7_ok kX7_ok (all_cons ⟨call_V (n := 3) (T := TX7) (N := 26) (ok_X7_isSpan Γ) (rv_X7_isSpan (Γ := Γ)) rfl bw_1027 bw_1024 bw_1026 bw_36 bw_49 no_X7_isSpan ⟨⟨rfl, rfl⟩, ⟨by decide, by decide⟩, ⟨by decide, by decide⟩⟩, fun z => by cases z⟩ (all_nil))
set_option maxRecDepth 20000 in
theorem ok_X7_lacks (Γ : Cx) : Ok Γ yX7_lacks mX7_lacks (sp_X7_lacks Γ) := by
  refine ok_intro (by decide +kernel) rfl rfl ?_
  intro av σ K h
  obtain ⟨q, l, i, n, lab, ⟨a, ad⟩, ⟨sc, ar, it⟩, rfl, hM, ⟨hq, hz⟩, h⟩ := h
  simp only at h hz
  obtain ⟨d2, d3⟩ := in4q hq
  obtain ⟨⟨m1, -⟩, e1, -⟩ := id hM
  obtain ⟨m12, e12⟩ := hM.arr 12 rfl
  obtain ⟨m13, e13⟩ := hM.arr 13 rfl
  simp only [ME, iA, lenM] at m1 e1 m12 e12 m13 e13
  unfold rfz at h
  refine ⟨Nat.le_of_ble_eq_true rfl, yvc_ok (uX7_lacks Γ) (S := []) 60 _ _ _ _ ?_⟩
  simp only [lv_args, Value.category, m1, e1, m12, e12, m13, e13, d2, d3, sz_ge hz, yvc_s, s1i, s2i, s1l, s2l, sil, s1r, sir, siir, slir, srir, svr, sd1, sd2, lg, lput, ldel, isL_i, isL_r, isL_l, jmp, obj, obj1, fI, fR, arI, arL, arR, hput, f4_0, f4_1, f4_2, f4_3, lc_0, lc_1, rok_i, rok_b, rok_y, strF, fput_1, fput_2, csum_nil, csum_i, csum_l, csum_r, va_up_self, bx_uu, Int.reduceAdd, List.elem_nil, List.elem_cons, List.take_succ_cons, List.take_zero, List.drop_succ_cons, List.drop_zero, List.take_nil, List.drop_nil, List.reverse_cons, List.reverse_nil, List.nil_append, List.cons_append, List.append_nil, Option.toList_some, Option.toList_none, List.getElem?_cons_zero, List.getElem?_cons_succ, List.set_cons_zero, List.set_cons_succ, List.length_cons, List.length_nil, reduceIte, reduceCtorEq, and_true, true_and, and_self, or_true, true_or, false_and, and_false, not_true_eq_false, not_false_eq_true, true_implies, false_implies, implies_true, Nat.reduceAdd, Nat.reduceLT, Nat.reduceEqDiff, Nat.reduceLeDiff, Nat.reduceBEq, Nat.zero_add, Nat.lt_add_one, Bool.false_eq_true, Bool.or_false, Bool.or_true, Bool.or_self, Nat.zero_ne_one, Nat.one_ne_zero, ite_true, ite_false, ne_eq, Nat.reduceSub, Nat.succ_eq_add_one, Nat.zero_lt_succ, Nat.add_one_ne_zero, false_or, or_false, mX7_lacks_c, mX7_lacks_n, mX7_lacks_r, mX7_lacks_l, dX7_lacks_0, dX7_lacks_1, fl_7_42_7, dX7_lacks_4, dX7_lacks_5, dX7_lacks_6, tg_6_8, cnd1_ge, dX7_lacks_9, bc_m11, dX7_lacks_11, tg_11_35, dX7_lacks_14, dX7_lacks_15, fl_7_39_7, dX7_lacks_18, dX7_lacks_19, dX7_lacks_20, dX7_lacks_21, tg_21_8, cnd2_eq, dX7_lacks_24, bc_m12, dX7_lacks_26, tg_26_20, dX7_lacks_29, dX7_lacks_30, dX7_lacks_31, dX7_lacks_32, dX7_lacks_34, dX7_lacks_37, tg_37_7, cnd1_eq, dX7_lacks_40, ic_0, dX7_lacks_41, tg_41_5, dX7_lacks_44, bc_m13, dX7_lacks_46, jX7_lacks_0_211, st_aload_n, st_bipush, st_getfield, st_goto, st_iaload, st_iconst, st_ifCond, st_if_icmp, st_iload, st_iload_n, st_invokevirtual, st_ireturn]
  refine ⟨fun c => ⟨fun d => ?_, fun d => ?_⟩, fun c => ?_⟩
  · rw [if_neg c, if_pos d.symm] at h
    refine ⟨q, i, n, lab, (a, ad), (sc, ar, it), rfl, hM, ⟨hq, hz⟩, ?_⟩
    simp only
    refine yvc_ok (uX7_lacks Γ) (S := []) 60 _ _ _ _ ?_
    simp only [bI_eq0, Bool.not_eq_false, yvc_s, s1i, s2i, s1l, s2l, sil, s1r, sir, siir, slir, srir, svr, sd1, sd2, lg, lput, ldel, isL_i, isL_r, isL_l, jmp, obj, obj1, fI, fR, arI, arL, arR, hput, f4_0, f4_1, f4_2, f4_3, lc_0, lc_1, rok_i, rok_b, rok_y, strF, fput_1, fput_2, csum_nil, csum_i, csum_l, csum_r, va_up_self, bx_uu, Int.reduceAdd, List.elem_nil, List.elem_cons, List.take_succ_cons, List.take_zero, List.drop_succ_cons, List.drop_zero, List.take_nil, List.drop_nil, List.reverse_cons, List.reverse_nil, List.nil_append, List.cons_append, List.append_nil, Option.toList_some, Option.toList_none, List.getElem?_cons_zero, List.getElem?_cons_succ, List.set_cons_zero, List.set_cons_succ, List.length_cons, List.length_nil, reduceIte, reduceCtorEq, and_true, true_and, and_self, or_true, true_or, false_and, and_false, not_true_eq_false, not_false_eq_true, true_implies, false_implies, implies_true, Nat.reduceAdd, Nat.reduceLT, Nat.reduceEqDiff, Nat.reduceLeDiff, Nat.reduceBEq, Nat.zero_add, Nat.lt_add_one, Bool.false_eq_true, Bool.or_false, Bool.or_true, Bool.or_self, Nat.zero_ne_one, Nat.one_ne_zero, ite_true, ite_false, ne_eq, Nat.reduceSub, Nat.succ_eq_add_one, Nat.zero_lt_succ, Nat.add_one_ne_zero, false_or, or_false, mX7_lacks_c, mX7_lacks_n, mX7_lacks_r, mX7_lacks_l, dX7_lacks_0, dX7_lacks_1, fl_7_42_7, dX7_lacks_4, dX7_lacks_5, dX7_lacks_6, tg_6_8, cnd1_ge, dX7_lacks_9, bc_m11, dX7_lacks_11, tg_11_35, dX7_lacks_14, dX7_lacks_15, fl_7_39_7, dX7_lacks_18, dX7_lacks_19, dX7_lacks_20, dX7_lacks_21, tg_21_8, cnd2_eq, dX7_lacks_24, bc_m12, dX7_lacks_26, tg_26_20, dX7_lacks_29, dX7_lacks_30, dX7_lacks_31, dX7_lacks_32, dX7_lacks_34, dX7_lacks_37, tg_37_7, cnd1_eq, dX7_lacks_40, ic_0, dX7_lacks_41, tg_41_5, dX7_lacks_44, bc_m13, dX7_lacks_46, jX7_lacks_0_211, st_aload_n, st_bipush, st_getfield, st_goto, st_iaload, st_iconst, st_ifCond, st_if_icmp, st_iload, st_iload_n, st_invokevirtual, st_ireturn]
    refine ⟨fun e => ?_, fun e => ?_⟩
    · rw [if_neg (by rw [e]; decide)] at h; exact h
    · rw [if_pos e] at h; exact h
  · rw [if_neg c, if_neg (fun z => d z.symm)] at h
    exact h
  · rw [if_pos (Classical.not_not.mp c)] at h
    exact h
theorem ix24 {q j : Nat} (hq : q < 4) (hj : j < 24) : vp_in (24 * nI q + nI j) 96 ∧ (24 * nI q + nI j).toNatClampNeg = 24 * q + j := by
  rw [show (24 : Int32) = nI 24 from rfl, pk_mul, nI_add]
  exact ⟨vp_in_nI (by omega) (by decide), nI_clamp (by omega)⟩
theorem updL_s {f : Nat → Int64} {k : Nat} {x : Int64} : vp_updL f k x k = x := if_pos rfl
theorem updL_n {f : Nat → Int64} {k j : Nat} {x : Int64} (h : j ≠ k) : vp_updL f k x j = f j := if_neg h
theorem updS_n {ss : Nat → SS} {j k : Nat} {s : SS} (h : k ≠ j) : updS ss j s k = ss k := if_neg h
def itZ (it : Nat → Int64) (q n : Nat) : Nat → Int64 := fun k => if 24 * q ≤ k ∧ k < 24 * q + n then 0 else it k
theorem itZ_0 {it : Nat → Int64} {q : Nat} : itZ it q 0 = it := by
  funext k
  unfold itZ
  rw [if_neg (by omega)]
theorem itZ_s {it : Nat → Int64} {q n : Nat} : vp_updL (itZ it q n) (24 * q + n) 0 = itZ it q (n + 1) := by
  funext k
  by_cases e : k = 24 * q + n
  · subst e
    rw [updL_s]
    unfold itZ
    rw [if_pos (by omega)]
  · rw [updL_n e]
    unfold itZ
    by_cases c : 24 * q ≤ k ∧ k < 24 * q + n
    · rw [if_pos c, if_pos (by omega)]
    · rw [if_neg c, if_neg (by omega)]
theorem i24_n {x : Int32} (h0 : 0 ≤ x) (h : x ≤ 24) : ∃ n, n ≤ 24 ∧ x = nI n := nI_of2 (M := 24) (n := 24) (by decide) (i_nlt.mpr h0) h
def sp_X7_sheet (Γ : Cx) : YSp := fun av σ K => ∃ (x : Int32) (y : Int32) (z : Int32), mo Γ [.int x, .int y, .int z] (fn (x_sheet x y z)) av σ K
theorem rv_X7_sheet {Γ : Cx} : Recv (sp_X7_sheet Γ) 3 7 := by
  intro av σ K h
  obtain ⟨x, y, z, h⟩ := h
  obtain ⟨q, fs, h1, h2, h3⟩ := rv_mo h
  exact ⟨q, _, fs, h1, rfl, h2, h3⟩
theorem bw_1015 : Cond.code yX7_isSheet cX7_isSheet 1 (some .boolean) ∈ BW := bw_i 1015 (by decide +kernel) (by decide +kernel)
theorem no_X7_isSheet : NameOK yX7_isSheet 1 := by unfold NameOK; decide +kernel
theorem bw_1013 : Cond.methodLink RX7 219 yX7_isSheet ∈ BW := bw_i 1013 (by decide +kernel) (by decide +kernel)
theorem bw_1014 : Cond.static yX7_isSheet ∈ BW := bw_i 1014 (by decide +kernel) (by decide +kernel)
theorem bw_1018 : Cond.code yX7_isLane cX7_isLane 1 (some .boolean) ∈ BW := bw_i 1018 (by decide +kernel) (by decide +kernel)
theorem no_X7_isLane : NameOK yX7_isLane 1 := by unfold NameOK; decide +kernel
theorem bw_1016 : Cond.methodLink RX7 222 yX7_isLane ∈ BW := bw_i 1016 (by decide +kernel) (by decide +kernel)
theorem bw_1017 : Cond.static yX7_isLane ∈ BW := bw_i 1017 (by decide +kernel) (by decide +kernel)
theorem tg_49_22 : tgo 49 22 = some 71 := by decide
theorem tg_68_m22 : tgo 68 (-22) = some 46 := by decide
def mX7_sheet : Mt := (⟨2, 0, 0, 45⟩, RX7, cX7_sheet, 5, some .int, (0, 0), none)
theorem mX7_sheet_c : mX7_sheet.2.2.1 = cX7_sheet := rfl
theorem mX7_sheet_n : mX7_sheet.2.2.2.1 = 5 := rfl
theorem mX7_sheet_r : mX7_sheet.2.2.2.2.1 = some .int := rfl
theorem mX7_sheet_l : mX7_sheet.2.2.2.2.2.2 = none := rfl
def jX7_sheet (Γ : Cx) : List ((Nat × Nat) × Nat × Bool × YSp) := [((1, 219), 1, true, sp_X7_isSheet Γ), ((1, 222), 1, true, sp_X7_isLane Γ)]
theorem jX7_sheet_1_219 (Γ : Cx) : kT (jX7_sheet Γ) 1 219 = some (1, true, sp_X7_isSheet Γ) := rfl
theorem jX7_sheet_1_222 (Γ : Cx) : kT (jX7_sheet Γ) 1 222 = some (1, true, sp_X7_isLane Γ) := rfl
theorem uX7_sheet (Γ : Cx) : TbOK Γ mX7_sheet (fT fX7, cT kX7, kT (jX7_sheet Γ)) := tb_ok fX7_ok kX7_ok (all_cons ⟨call_S (n := 1) (ok_X7_isSheet Γ) (rv_X7_isSheet (Γ := Γ)) bw_1015 bw_1013 bw_1014 bw_49 no_X7_isSheet ⟨⟨rfl, rfl⟩, ⟨by decide, by decide⟩, ⟨by decide, by decide⟩⟩, fun _ => mono_X7_isSheet (Γ := Γ)⟩ (all_cons ⟨call_S (n := 1) (ok_X7_isLane Γ) (rv_X7_isLane (Γ := Γ)) bw_1018 bw_1016 bw_1017 bw_49 no_X7_isLane ⟨⟨rfl, rfl⟩, ⟨by decide, by decide⟩, ⟨by decide, by decide⟩⟩, fun _ => mono_X7_isLane (Γ := Γ)⟩ (all_nil)))
set_option maxRecDepth 20000 in
theorem ok_X7_sheet (Γ : Cx) : Ok Γ yX7_sheet mX7_sheet (sp_X7_sheet Γ) := by
  refine ok_intro (by decide +kernel) rfl rfl ?_
  intro av σ K h
  obtain ⟨x, y, z, h⟩ := h
  obtain ⟨lab, ⟨a, ad⟩, ⟨sc, ar, it⟩, ψ, ψ', r, rfl, hM, hR, hrel, h⟩ := h
  try simp only at h
  obtain ⟨⟨m1, -⟩, e1, -⟩ := id hM
  obtain ⟨⟨p1, p2, p3, p4, pI, p5, p6, p7⟩, hImg, h16, hT, hSh⟩ := id hR
  have hP := pI.P5
  simp only at p1 p2 p3 p4 p5 p6 p7 hImg h16 hT hSh
  simp only [ME] at m1 e1
  obtain ⟨hq1, hq2⟩ := fn_r hrel
  rw [hq1, hq2] at h
  clear hq1 hq2 hrel ψ' r
  unfold x_sheet at h
  have no : ¬ (inr x 0 3 = true ∧ inr y 0 3 = true ∧ z ≤ 24) → K (some (.int (-1))) σ := fun w => by
    rw [if_neg w] at h
    exact h _ _ hR frm.rf hM
  refine ⟨Nat.le_of_ble_eq_true rfl, yvc_ok (uX7_sheet Γ) (S := [29]) 60 _ _ _ _ ?_⟩
  simp only [lv_args, Value.category, sp_X7_isSheet, sp_X7_isLane, sp_X6_isDoor, bI_eq0, Bool.not_eq_false, yvc_s, s1i, s2i, s1l, s2l, sil, s1r, sir, siir, slir, srir, svr, sd1, sd2, lg, lput, ldel, isL_i, isL_r, isL_l, jmp, obj, obj1, fI, fR, arI, arL, arR, hput, f4_0, f4_1, f4_2, f4_3, lc_0, lc_1, rok_i, rok_b, rok_y, strF, fput_1, fput_2, csum_nil, csum_i, csum_l, csum_r, va_up_self, bx_uu, Int.reduceAdd, List.elem_nil, List.elem_cons, List.take_succ_cons, List.take_zero, List.drop_succ_cons, List.drop_zero, List.take_nil, List.drop_nil, List.reverse_cons, List.reverse_nil, List.nil_append, List.cons_append, List.append_nil, Option.toList_some, Option.toList_none, List.getElem?_cons_zero, List.getElem?_cons_succ, List.set_cons_zero, List.set_cons_succ, List.length_cons, List.length_nil, reduceIte, reduceCtorEq, and_true, true_and, and_self, or_true, true_or, false_and, and_false, not_true_eq_false, not_false_eq_true, true_implies, false_implies, implies_true, Nat.reduceAdd, Nat.reduceLT, Nat.reduceEqDiff, Nat.reduceLeDiff, Nat.reduceBEq, Nat.zero_add, Nat.lt_add_one, Bool.false_eq_true, Bool.or_false, Bool.or_true, Bool.or_self, Nat.zero_ne_one, Nat.one_ne_zero, ite_true, ite_false, ne_eq, Nat.reduceSub, Nat.succ_eq_add_one, Nat.zero_lt_succ, Nat.add_one_ne_zero, false_or, or_false, mX7_sheet_c, mX7_sheet_n, mX7_sheet_r, mX7_sheet_l, dX7_sheet_0, dX7_sheet_1, dX7_sheet_4, tg_4_16, cnd1_eq, dX7_sheet_7, dX7_sheet_8, dX7_sheet_11, tg_11_9, dX7_sheet_14, dX7_sheet_15, bc_24, dX7_sheet_17, tg_17_5, cnd2_le, dX7_sheet_20, ic_m1, dX7_sheet_21, dX7_sheet_22, dX7_sheet_23, tg_23_6, cnd1_ge, dX7_sheet_26, bc_m14, dX7_sheet_28, dX7_sheet_29, dX7_sheet_30, fl_7_39_7, dX7_sheet_33, dX7_sheet_34, dX7_sheet_35, dX7_sheet_36, dX7_sheet_37, fl_7_42_7, dX7_sheet_40, dX7_sheet_41, dX7_sheet_42, dX7_sheet_43, ic_0, dX7_sheet_44, dX7_sheet_46, dX7_sheet_48, dX7_sheet_49, tg_49_22, cnd2_ge, dX7_sheet_52, dX7_sheet_53, fl_7_35_7, dX7_sheet_56, dX7_sheet_58, dX7_sheet_59, dX7_sheet_60, dX7_sheet_62, dX7_sheet_63, dX7_sheet_64, dX7_sheet_65, ic_1, dX7_sheet_68, tg_68_m22, dX7_sheet_71, dX7_sheet_72, jX7_sheet_1_219, jX7_sheet_1_222, st_aload_n, st_bipush, st_getfield, st_goto, st_iadd, st_iastore, st_iconst, st_ifCond, st_if_icmp, st_iinc, st_iload, st_iload_n, st_imul, st_invokestatic, st_ireturn, st_istore, st_lastore, st_lconst]
  refine ⟨fun c1 => no (fun z => by rw [c1] at z; cases z.1), fun c1 => ⟨fun c2 => no (fun z => by rw [c2] at z; cases z.2.1), fun c2 => ⟨fun c3 => ⟨fun c4 => ?_, fun c4 => ?_⟩, fun c3 => no (fun z => c3 z.2.2)⟩⟩⟩
  · rw [if_pos ⟨c1, c2, c3⟩, if_pos c4] at h
    obtain ⟨q, hq, rfl⟩ := door_n c1
    obtain ⟨n, hn, rfl⟩ := i24_n c4 c3
    obtain ⟨d2, d3⟩ := in4q hq
    rw [d3] at h
    unfold setS at h
    have hs : RS (updS ψ.2.2.2.2.2.2 q (zer (ψ.2.2.2.2.2.2 q).1 24, y, nI n)) (upd (ar 12) q y) (upd (ar 13) q (nI n)) (itZ it q n) := by
      intro j hj
      by_cases e : j = q
      · subst e
        rw [updS_at, pk_us, pk_us]
        refine ⟨Or.inr ⟨n, hn, rfl⟩, rfl, rfl, fun k i hk hkn hi => ?_⟩
        have : n = k := (nI_eq (by omega) (by omega)).mp hkn
        show itZ it j n (24 * j + i) = zer (ψ.2.2.2.2.2.2 j).1 24 i
        rw [zer_in (by omega)]
        unfold itZ
        rw [if_pos (by omega)]
      · rw [updS_n e, pk_un e, pk_un e]
        obtain ⟨g1, g2, g3, g4⟩ := hSh j hj
        refine ⟨g1, g2, g3, fun k i hk hkn hi => ?_⟩
        rw [← g4 k i hk hkn hi]
        unfold itZ
        rw [if_neg (by omega)]
    have hR2 := hR.upS (ar := updA (updA ar 12 (upd (ar 12) q y)) 13 (upd (ar 13) q (nI n))) (it := itZ it q n) (fun k h1 h2 => by rw [updA_ne h2, updA_ne h1]) (by
      rw [updA_at, updA_ne (by decide), updA_at]
      exact hs)
    have loop : ∀ m j : Nat, j + m = n → ∀ σ1, frm (fL lab 30) σ σ1 → Mod Γ lab (a, ad) (sc, updA (updA ar 12 (upd (ar 12) q y)) 13 (upd (ar 13) q (nI n)), itZ it q j) σ1 → YG Γ mX7_sheet K 46 [(0, .ref a), (1, .int (nI q)), (2, .int y), (3, .int (nI n)), (4, .int (nI j))] [] σ1 := by
      intro m
      induction m with
      | zero =>
        intro j hj σ1 hf1 hM1
        obtain rfl : j = n := by omega
        have hk := h _ _ hR2 hf1 hM1
        refine yvc1_ok (uX7_sheet Γ) (S := [46]) 40 ?_
        simp only [yvc1, geP, yvc_s, s1i, s2i, s1l, s2l, sil, s1r, sir, siir, slir, srir, svr, sd1, sd2, lg, lput, ldel, isL_i, isL_r, isL_l, jmp, obj, obj1, fI, fR, arI, arL, arR, hput, f4_0, f4_1, f4_2, f4_3, lc_0, lc_1, rok_i, rok_b, rok_y, strF, fput_1, fput_2, csum_nil, csum_i, csum_l, csum_r, va_up_self, bx_uu, Int.reduceAdd, List.elem_nil, List.elem_cons, List.take_succ_cons, List.take_zero, List.drop_succ_cons, List.drop_zero, List.take_nil, List.drop_nil, List.reverse_cons, List.reverse_nil, List.nil_append, List.cons_append, List.append_nil, Option.toList_some, Option.toList_none, List.getElem?_cons_zero, List.getElem?_cons_succ, List.set_cons_zero, List.set_cons_succ, List.length_cons, List.length_nil, reduceIte, reduceCtorEq, and_true, true_and, and_self, or_true, true_or, false_and, and_false, not_true_eq_false, not_false_eq_true, true_implies, false_implies, implies_true, Nat.reduceAdd, Nat.reduceLT, Nat.reduceEqDiff, Nat.reduceLeDiff, Nat.reduceBEq, Nat.zero_add, Nat.lt_add_one, Bool.false_eq_true, Bool.or_false, Bool.or_true, Bool.or_self, Nat.zero_ne_one, Nat.one_ne_zero, ite_true, ite_false, ne_eq, Nat.reduceSub, Nat.succ_eq_add_one, Nat.zero_lt_succ, Nat.add_one_ne_zero, false_or, or_false, mX7_sheet_c, mX7_sheet_n, mX7_sheet_r, mX7_sheet_l, dX7_sheet_0, dX7_sheet_1, dX7_sheet_4, tg_4_16, cnd1_eq, dX7_sheet_7, dX7_sheet_8, dX7_sheet_11, tg_11_9, dX7_sheet_14, dX7_sheet_15, bc_24, dX7_sheet_17, tg_17_5, cnd2_le, dX7_sheet_20, ic_m1, dX7_sheet_21, dX7_sheet_22, dX7_sheet_23, tg_23_6, cnd1_ge, dX7_sheet_26, bc_m14, dX7_sheet_28, dX7_sheet_29, dX7_sheet_30, fl_7_39_7, dX7_sheet_33, dX7_sheet_34, dX7_sheet_35, dX7_sheet_36, dX7_sheet_37, fl_7_42_7, dX7_sheet_40, dX7_sheet_41, dX7_sheet_42, dX7_sheet_43, ic_0, dX7_sheet_44, dX7_sheet_46, dX7_sheet_48, dX7_sheet_49, tg_49_22, cnd2_ge, dX7_sheet_52, dX7_sheet_53, fl_7_35_7, dX7_sheet_56, dX7_sheet_58, dX7_sheet_59, dX7_sheet_60, dX7_sheet_62, dX7_sheet_63, dX7_sheet_64, dX7_sheet_65, ic_1, dX7_sheet_68, tg_68_m22, dX7_sheet_71, dX7_sheet_72, jX7_sheet_1_219, jX7_sheet_1_222, st_aload_n, st_bipush, st_getfield, st_goto, st_iadd, st_iastore, st_iconst, st_ifCond, st_if_icmp, st_iinc, st_iload, st_iload_n, st_imul, st_invokestatic, st_ireturn, st_istore, st_lastore, st_lconst]
        exact hk
      | succ m ih =>
        intro j hj σ1 hf1 hM1
        have c1 := ltN (show j < n by omega) (by omega)
        obtain ⟨i1, i2⟩ := ix24 hq (show j < 24 by omega)
        have hM2 := hM1.putL (itZ it q (j + 1))
        have hj1 := ih (j + 1) (by omega) _ (hf1.tr hM1.frL) hM2
        obtain ⟨⟨m1, -⟩, e1, -⟩ := id hM1
        obtain ⟨m11, e11⟩ := hM1.itm
        rw [← itZ_s] at hj1
        simp only [ME, lA, hput] at m1 e1 m11 e11 hj1
        refine yvc1_ok (uX7_sheet Γ) (S := [46]) 40 ?_
        simp only [yvc1, c1, i1, i2, m1, e1, m11, e11, nI_1, yvc_s, s1i, s2i, s1l, s2l, sil, s1r, sir, siir, slir, srir, svr, sd1, sd2, lg, lput, ldel, isL_i, isL_r, isL_l, jmp, obj, obj1, fI, fR, arI, arL, arR, hput, f4_0, f4_1, f4_2, f4_3, lc_0, lc_1, rok_i, rok_b, rok_y, strF, fput_1, fput_2, csum_nil, csum_i, csum_l, csum_r, va_up_self, bx_uu, Int.reduceAdd, List.elem_nil, List.elem_cons, List.take_succ_cons, List.take_zero, List.drop_succ_cons, List.drop_zero, List.take_nil, List.drop_nil, List.reverse_cons, List.reverse_nil, List.nil_append, List.cons_append, List.append_nil, Option.toList_some, Option.toList_none, List.getElem?_cons_zero, List.getElem?_cons_succ, List.set_cons_zero, List.set_cons_succ, List.length_cons, List.length_nil, reduceIte, reduceCtorEq, and_true, true_and, and_self, or_true, true_or, false_and, and_false, not_true_eq_false, not_false_eq_true, true_implies, false_implies, implies_true, Nat.reduceAdd, Nat.reduceLT, Nat.reduceEqDiff, Nat.reduceLeDiff, Nat.reduceBEq, Nat.zero_add, Nat.lt_add_one, Bool.false_eq_true, Bool.or_false, Bool.or_true, Bool.or_self, Nat.zero_ne_one, Nat.one_ne_zero, ite_true, ite_false, ne_eq, Nat.reduceSub, Nat.succ_eq_add_one, Nat.zero_lt_succ, Nat.add_one_ne_zero, false_or, or_false, mX7_sheet_c, mX7_sheet_n, mX7_sheet_r, mX7_sheet_l, dX7_sheet_0, dX7_sheet_1, dX7_sheet_4, tg_4_16, cnd1_eq, dX7_sheet_7, dX7_sheet_8, dX7_sheet_11, tg_11_9, dX7_sheet_14, dX7_sheet_15, bc_24, dX7_sheet_17, tg_17_5, cnd2_le, dX7_sheet_20, ic_m1, dX7_sheet_21, dX7_sheet_22, dX7_sheet_23, tg_23_6, cnd1_ge, dX7_sheet_26, bc_m14, dX7_sheet_28, dX7_sheet_29, dX7_sheet_30, fl_7_39_7, dX7_sheet_33, dX7_sheet_34, dX7_sheet_35, dX7_sheet_36, dX7_sheet_37, fl_7_42_7, dX7_sheet_40, dX7_sheet_41, dX7_sheet_42, dX7_sheet_43, ic_0, dX7_sheet_44, dX7_sheet_46, dX7_sheet_48, dX7_sheet_49, tg_49_22, cnd2_ge, dX7_sheet_52, dX7_sheet_53, fl_7_35_7, dX7_sheet_56, dX7_sheet_58, dX7_sheet_59, dX7_sheet_60, dX7_sheet_62, dX7_sheet_63, dX7_sheet_64, dX7_sheet_65, ic_1, dX7_sheet_68, tg_68_m22, dX7_sheet_71, dX7_sheet_72, jX7_sheet_1_219, jX7_sheet_1_222, st_aload_n, st_bipush, st_getfield, st_goto, st_iadd, st_iastore, st_iconst, st_ifCond, st_if_icmp, st_iinc, st_iload, st_iload_n, st_imul, st_invokestatic, st_ireturn, st_istore, st_lastore, st_lconst]
        exact hj1
    have hM1 := hM.putA (k := 12) rfl (upd (ar 12) q y)
    have hM2 := hM1.putA (k := 13) rfl (upd (ar 13) q (nI n))
    have hl := loop n 0 (by omega) _ ((hM.frA (k := 12) rfl).tr (hM1.frA (k := 13) rfl)) (by rw [itZ_0]; exact hM2)
    obtain ⟨m12, e12⟩ := hM.arr 12 rfl
    obtain ⟨m13, e13⟩ := hM.arr 13 rfl
    have q1 := fun f x => hM.neA (k := 12) rfl f x
    have q2 := fun f x => hM.neA (k := 13) rfl f x
    have q3 := fun f x => hM.neK (j := 12) (k := 13) rfl rfl (by decide) f x
    simp only [iA, lenM, hput] at m12 e12 m13 e13 hl q1 q2 q3
    refine yvc1_ok (uX7_sheet Γ) (S := [29, 46]) 60 ?_
    simp only [yvc1, m1, e1, m12, e12, m13, e13, q1, q2, q3, d2, d3, yvc_s, s1i, s2i, s1l, s2l, sil, s1r, sir, siir, slir, srir, svr, sd1, sd2, lg, lput, ldel, isL_i, isL_r, isL_l, jmp, obj, obj1, fI, fR, arI, arL, arR, hput, f4_0, f4_1, f4_2, f4_3, lc_0, lc_1, rok_i, rok_b, rok_y, strF, fput_1, fput_2, csum_nil, csum_i, csum_l, csum_r, va_up_self, bx_uu, Int.reduceAdd, List.elem_nil, List.elem_cons, List.take_succ_cons, List.take_zero, List.drop_succ_cons, List.drop_zero, List.take_nil, List.drop_nil, List.reverse_cons, List.reverse_nil, List.nil_append, List.cons_append, List.append_nil, Option.toList_some, Option.toList_none, List.getElem?_cons_zero, List.getElem?_cons_succ, List.set_cons_zero, List.set_cons_succ, List.length_cons, List.length_nil, reduceIte, reduceCtorEq, and_true, true_and, and_self, or_true, true_or, false_and, and_false, not_true_eq_false, not_false_eq_true, true_implies, false_implies, implies_true, Nat.reduceAdd, Nat.reduceLT, Nat.reduceEqDiff, Nat.reduceLeDiff, Nat.reduceBEq, Nat.zero_add, Nat.lt_add_one, Bool.false_eq_true, Bool.or_false, Bool.or_true, Bool.or_self, Nat.zero_ne_one, Nat.one_ne_zero, ite_true, ite_false, ne_eq, Nat.reduceSub, Nat.succ_eq_add_one, Nat.zero_lt_succ, Nat.add_one_ne_zero, false_or, or_false, mX7_sheet_c, mX7_sheet_n, mX7_sheet_r, mX7_sheet_l, dX7_sheet_0, dX7_sheet_1, dX7_sheet_4, tg_4_16, cnd1_eq, dX7_sheet_7, dX7_sheet_8, dX7_sheet_11, tg_11_9, dX7_sheet_14, dX7_sheet_15, bc_24, dX7_sheet_17, tg_17_5, cnd2_le, dX7_sheet_20, ic_m1, dX7_sheet_21, dX7_sheet_22, dX7_sheet_23, tg_23_6, cnd1_ge, dX7_sheet_26, bc_m14, dX7_sheet_28, dX7_sheet_29, dX7_sheet_30, fl_7_39_7, dX7_sheet_33, dX7_sheet_34, dX7_sheet_35, dX7_sheet_36, dX7_sheet_37, fl_7_42_7, dX7_sheet_40, dX7_sheet_41, dX7_sheet_42, dX7_sheet_43, ic_0, dX7_sheet_44, dX7_sheet_46, dX7_sheet_48, dX7_sheet_49, tg_49_22, cnd2_ge, dX7_sheet_52, dX7_sheet_53, fl_7_35_7, dX7_sheet_56, dX7_sheet_58, dX7_sheet_59, dX7_sheet_60, dX7_sheet_62, dX7_sheet_63, dX7_sheet_64, dX7_sheet_65, ic_1, dX7_sheet_68, tg_68_m22, dX7_sheet_71, dX7_sheet_72, jX7_sheet_1_219, jX7_sheet_1_222, st_aload_n, st_bipush, st_getfield, st_goto, st_iadd, st_iastore, st_iconst, st_ifCond, st_if_icmp, st_iinc, st_iload, st_iload_n, st_imul, st_invokestatic, st_ireturn, st_istore, st_lastore, st_lconst]
    exact hl
  · rw [if_pos ⟨c1, c2, c3⟩, if_neg c4] at h
    exact h _ _ hR frm.rf hM
def sp_X7_drop (Γ : Cx) : YSp := fun av σ K => ∃ (x : Int32), mo Γ [.int x] (fn (x_drop x)) av σ K
theorem rv_X7_drop {Γ : Cx} : Recv (sp_X7_drop Γ) 1 7 := by
  intro av σ K h
  obtain ⟨x, h⟩ := h
  obtain ⟨q, fs, h1, h2, h3⟩ := rv_mo h
  exact ⟨q, _, fs, h1, rfl, h2, h3⟩
def mX7_drop : Mt := (⟨2, 0, 0, 45⟩, RX7, cX7_drop, 3, some .int, (0, 0), none)
theorem mX7_drop_c : mX7_drop.2.2.1 = cX7_drop := rfl
theorem mX7_drop_n : mX7_drop.2.2.2.1 = 3 := rfl
theorem mX7_drop_r : mX7_drop.2.2.2.2.1 = some .int := rfl
theorem mX7_drop_l : mX7_drop.2.2.2.2.2.2 = none := rfl
def jX7_drop (Γ : Cx) : List ((Nat × Nat) × Nat × Bool × YSp) := [((1, 219), 1, true, sp_X7_isSheet Γ)]
theorem jX7_drop_1_219 (Γ : Cx) : kT (jX7_drop Γ) 1 219 = some (1, true, sp_X7_isSheet Γ) := rfl
theorem uX7_drop (Γ : Cx) : TbOK Γ mX7_drop (fT fX7, cT kX7, kT (jX7_drop Γ)) := tb_ok fX7_ok kX7_ok (all_cons ⟨call_S (n := 1) (ok_X7_isSheet Γ) (rv_X7_isSheet (Γ := Γ)) bw_1015 bw_1013 bw_1014 bw_49 no_X7_isSheet ⟨⟨rfl, rfl⟩, ⟨by decide, by decide⟩, ⟨by decide, by decide⟩⟩, fun _ => mono_X7_isSheet (Γ := Γ)⟩ (all_nil))
set_option maxRecDepth 20000 in
theorem ok_X7_drop (Γ : Cx) : Ok Γ yX7_drop mX7_drop (sp_X7_drop Γ) := by
  refine ok_intro (by decide +kernel) rfl rfl ?_
  intro av σ K h
  obtain ⟨x, h⟩ := h
  obtain ⟨lab, ⟨a, ad⟩, ⟨sc, ar, it⟩, ψ, ψ', r, rfl, hM, hR, hrel, h⟩ := h
  try simp only at h
  obtain ⟨⟨m1, -⟩, e1, -⟩ := id hM
  obtain ⟨⟨p1, p2, p3, p4, pI, p5, p6, p7⟩, hImg, h16, hT, hSh⟩ := id hR
  have hP := pI.P5
  simp only at p1 p2 p3 p4 p5 p6 p7 hImg h16 hT hSh
  simp only [ME] at m1 e1
  obtain ⟨hq1, hq2⟩ := fn_r hrel
  rw [hq1, hq2] at h
  clear hq1 hq2 hrel ψ' r
  unfold x_drop at h
  obtain ⟨m13, e13⟩ := hM.arr 13 rfl
  simp only [iA, lenM] at m13 e13
  refine ⟨Nat.le_of_ble_eq_true rfl, yvc_ok (uX7_drop Γ) (S := [9]) 60 _ _ _ _ ?_⟩
  simp only [lv_args, Value.category, sp_X7_isSheet, sp_X6_isDoor, bI_eq0, Bool.not_eq_false, yvc_s, s1i, s2i, s1l, s2l, sil, s1r, sir, siir, slir, srir, svr, sd1, sd2, lg, lput, ldel, isL_i, isL_r, isL_l, jmp, obj, obj1, fI, fR, arI, arL, arR, hput, f4_0, f4_1, f4_2, f4_3, lc_0, lc_1, rok_i, rok_b, rok_y, strF, fput_1, fput_2, csum_nil, csum_i, csum_l, csum_r, va_up_self, bx_uu, Int.reduceAdd, List.elem_nil, List.elem_cons, List.take_succ_cons, List.take_zero, List.drop_succ_cons, List.drop_zero, List.take_nil, List.drop_nil, List.reverse_cons, List.reverse_nil, List.nil_append, List.cons_append, List.append_nil, Option.toList_some, Option.toList_none, List.getElem?_cons_zero, List.getElem?_cons_succ, List.set_cons_zero, List.set_cons_succ, List.length_cons, List.length_nil, reduceIte, reduceCtorEq, and_true, true_and, and_self, or_true, true_or, false_and, and_false, not_true_eq_false, not_false_eq_true, true_implies, false_implies, implies_true, Nat.reduceAdd, Nat.reduceLT, Nat.reduceEqDiff, Nat.reduceLeDiff, Nat.reduceBEq, Nat.zero_add, Nat.lt_add_one, Bool.false_eq_true, Bool.or_false, Bool.or_true, Bool.or_self, Nat.zero_ne_one, Nat.one_ne_zero, ite_true, ite_false, ne_eq, Nat.reduceSub, Nat.succ_eq_add_one, Nat.zero_lt_succ, Nat.add_one_ne_zero, false_or, or_false, mX7_drop_c, mX7_drop_n, mX7_drop_r, mX7_drop_l, dX7_drop_0, dX7_drop_1, dX7_drop_4, tg_4_5, cnd1_ne, dX7_drop_7, ic_m1, dX7_drop_8, dX7_drop_9, dX7_drop_10, fl_7_42_7, dX7_drop_13, dX7_drop_14, dX7_drop_15, tg_15_6, cnd1_ge, dX7_drop_18, bc_m11, dX7_drop_20, dX7_drop_21, dX7_drop_22, dX7_drop_25, dX7_drop_26, dX7_drop_27, dX7_drop_28, dX7_drop_29, dX7_drop_32, dX7_drop_33, dX7_drop_34, dX7_drop_35, dX7_drop_36, jX7_drop_1_219, st_aload_n, st_bipush, st_getfield, st_iaload, st_iastore, st_iconst, st_ifCond, st_iload_n, st_invokestatic, st_ireturn, st_istore_n]
  refine ⟨fun c => ?_, fun c => ?_⟩
  · rw [if_pos c] at h
    obtain ⟨q, hq, rfl⟩ := door_n c
    obtain ⟨d2, d3⟩ := in4q hq
    rw [d3] at h
    obtain ⟨g1, g2, g3, g4⟩ := hSh q hq
    rw [← g2] at g1
    have hk : ¬ (ψ.2.2.2.2.2.2 q).2.2 = -1 → K (some (.int (ψ.2.2.2.2.2.2 q).2.2)) (hput σ (ad 13) (iA Γ 4 (upd (ar 13) q (-1)))) := by
      intro d
      rw [if_neg d] at h
      unfold setS at h
      refine h _ _ (hR.upS (ar := updA ar 13 (upd (ar 13) q (-1))) (it := it) (fun k h1 h2 => updA_ne h2) ?_) (hM.frA (k := 13) rfl) (hM.putA (k := 13) rfl _)
      rw [updA_at, updA_ne (by decide)]
      intro j hj
      obtain ⟨g1, g2, g3, g4⟩ := hSh j hj
      by_cases e : j = q
      · subst e
        rw [updS_at, pk_us]
        refine ⟨Or.inl rfl, rfl, g3, fun k i hk hkn hi => ?_⟩
        have := congrArg Int32.toInt hkn
        rw [nI_toInt (by omega)] at this
        have e : (-1 : Int32).toInt = -1 := by decide
        simp only at this
        omega
      · rw [updS_n e, pk_un e]
        exact ⟨g1, g2, g3, g4⟩
    rw [← g2] at hk
    simp only [hput, iA] at hk
    refine yvc1_ok (uX7_drop Γ) (S := [9]) 60 ?_
    simp only [yvc1, m1, e1, m13, e13, d2, d3, sz_ge g1, yvc_s, s1i, s2i, s1l, s2l, sil, s1r, sir, siir, slir, srir, svr, sd1, sd2, lg, lput, ldel, isL_i, isL_r, isL_l, jmp, obj, obj1, fI, fR, arI, arL, arR, hput, f4_0, f4_1, f4_2, f4_3, lc_0, lc_1, rok_i, rok_b, rok_y, strF, fput_1, fput_2, csum_nil, csum_i, csum_l, csum_r, va_up_self, bx_uu, Int.reduceAdd, List.elem_nil, List.elem_cons, List.take_succ_cons, List.take_zero, List.drop_succ_cons, List.drop_zero, List.take_nil, List.drop_nil, List.reverse_cons, List.reverse_nil, List.nil_append, List.cons_append, List.append_nil, Option.toList_some, Option.toList_none, List.getElem?_cons_zero, List.getElem?_cons_succ, List.set_cons_zero, List.set_cons_succ, List.length_cons, List.length_nil, reduceIte, reduceCtorEq, and_true, true_and, and_self, or_true, true_or, false_and, and_false, not_true_eq_false, not_false_eq_true, true_implies, false_implies, implies_true, Nat.reduceAdd, Nat.reduceLT, Nat.reduceEqDiff, Nat.reduceLeDiff, Nat.reduceBEq, Nat.zero_add, Nat.lt_add_one, Bool.false_eq_true, Bool.or_false, Bool.or_true, Bool.or_self, Nat.zero_ne_one, Nat.one_ne_zero, ite_true, ite_false, ne_eq, Nat.reduceSub, Nat.succ_eq_add_one, Nat.zero_lt_succ, Nat.add_one_ne_zero, false_or, or_false, mX7_drop_c, mX7_drop_n, mX7_drop_r, mX7_drop_l, dX7_drop_0, dX7_drop_1, dX7_drop_4, tg_4_5, cnd1_ne, dX7_drop_7, ic_m1, dX7_drop_8, dX7_drop_9, dX7_drop_10, fl_7_42_7, dX7_drop_13, dX7_drop_14, dX7_drop_15, tg_15_6, cnd1_ge, dX7_drop_18, bc_m11, dX7_drop_20, dX7_drop_21, dX7_drop_22, dX7_drop_25, dX7_drop_26, dX7_drop_27, dX7_drop_28, dX7_drop_29, dX7_drop_32, dX7_drop_33, dX7_drop_34, dX7_drop_35, dX7_drop_36, jX7_drop_1_219, st_aload_n, st_bipush, st_getfield, st_iaload, st_iastore, st_iconst, st_ifCond, st_iload_n, st_invokestatic, st_ireturn, st_istore_n]
    refine ⟨fun d => hk d, fun d => ?_⟩
    have d := Classical.not_not.mp d
    rw [g2] at d
    rw [if_pos d] at h
    exact h _ _ hR frm.rf hM
  · rw [if_neg c] at h
    exact h _ _ hR frm.rf hM
