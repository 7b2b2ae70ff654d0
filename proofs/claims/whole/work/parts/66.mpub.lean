/-! ===== YawnKeysModel: person to count ===== -/
theorem inL_04 {x : Int32} : inL x.toInt64 0 4 = inr x 0 4 := inL_i (a := 0) (b := 4)
theorem inL_020 {x : Int32} : inL x.toInt64 0 20 = inr x 0 20 := inL_i (a := 0) (b := 20)
theorem inL_120 {x : Int32} : inL x.toInt64 1 20 = inr x 1 20 := inL_i (a := 1) (b := 20)
theorem inL_02 {x : Int32} : inL x.toInt64 0 2 = inr x 0 2 := inL_i (a := 0) (b := 2)
theorem inL_32 {x : Int32} : inL x.toInt64 32 126 = inr x 32 126 := inL_i (a := 32) (b := 126)
theorem inL_140 {x : Int32} : inL x.toInt64 1 40 = inr x 1 40 := inL_i (a := 1) (b := 40)
theorem inL_060 {x : Int32} : inL x.toInt64 0 60 = inr x 0 60 := inL_i (a := 0) (b := 60)
theorem inL_130 {x : Int32} : inL x.toInt64 1 30 = inr x 1 30 := inL_i (a := 1) (b := 30)
theorem inL_m2 {x : Int32} : inL x.toInt64 (-2) 3 = inr x (-2) 3 := inL_i (a := -2) (b := 3)
theorem inL_010 {x : Int32} : inL x.toInt64 0 10 = inr x 0 10 := inL_i (a := 0) (b := 10)
theorem inL_01 {x : Int32} : inL x.toInt64 0 1 = inr x 0 1 := inL_i (a := 0) (b := 1)
theorem inL_18 {x : Int32} : inL x.toInt64 1 8 = inr x 1 8 := inL_i (a := 1) (b := 8)
theorem inL_124 {x : Int32} : inL x.toInt64 1 24 = inr x 1 24 := inL_i (a := 1) (b := 24)
theorem inL_48 {x : Int32} : inL x.toInt64 48 57 = inr x 48 57 := inL_i (a := 48) (b := 57)
theorem inL_97 {x : Int32} : inL x.toInt64 97 117 = inr x 97 117 := inL_i (a := 97) (b := 117)
def sp_X7_rule (Γ : Cx) : YSp := fun av σ K => ∃ (x : Int32), mo Γ [.int x] (fn (x_rule x)) av σ K
theorem rv_X7_rule {Γ : Cx} : Recv (sp_X7_rule Γ) 1 7 := by
  intro av σ K h
  obtain ⟨x, h⟩ := h
  obtain ⟨q, fs, h1, h2, h3⟩ := rv_mo h
  exact ⟨q, _, fs, h1, rfl, h2, h3⟩
theorem tg_9_5 : tgo 9 5 = some 14 := by decide
def mX7_rule : Mt := (⟨1, 0, 0, 25⟩, RX7, cX7_rule, 3, some .int, (0, 0), none)
theorem mX7_rule_c : mX7_rule.2.2.1 = cX7_rule := rfl
theorem mX7_rule_n : mX7_rule.2.2.2.1 = 3 := rfl
theorem mX7_rule_r : mX7_rule.2.2.2.2.1 = some .int := rfl
theorem mX7_rule_l : mX7_rule.2.2.2.2.2.2 = none := rfl
def jX7_rule (Γ : Cx) : List ((Nat × Nat) × Nat × Bool × YSp) := [((1, 63), 3, true, sp_X7_lies Γ)]
theorem jX7_rule_1_63 (Γ : Cx) : kT (jX7_rule Γ) 1 63 = some (3, true, sp_X7_lies Γ) := rfl
theorem uX7_rule (Γ : Cx) : TbOK Γ mX7_rule (fT fX7, cT kX7, kT (jX7_rule Γ)) := tb_ok fX7_ok kX7_ok (all_cons ⟨call_S (n := 3) (ok_X7_lies Γ) (rv_X7_lies (Γ := Γ)) bw_797 bw_795 bw_796 bw_49 no_X7_lies ⟨⟨rfl, rfl⟩, ⟨by decide, by decide⟩, ⟨by decide, by decide⟩⟩, fun _ => mono_X7_lies (Γ := Γ)⟩ (all_nil))
set_option maxRecDepth 20000 in
theorem ok_X7_rule (Γ : Cx) : Ok Γ yX7_rule mX7_rule (sp_X7_rule Γ) := by
  refine ok_intro (by decide +kernel) rfl rfl ?_
  intro av σ K h
  obtain ⟨x, h⟩ := h
  obtain ⟨lab, ⟨a, ad⟩, ⟨sc, ar, it⟩, ψ, ψ', r, rfl, hM, hR, hrel, h⟩ := h
  try simp only at h
  obtain ⟨⟨m1, -⟩, e1, -⟩ := id hM
  obtain ⟨⟨p1, p2, p3, p4, pI, p5, p6, p7⟩, hImg, h16, hT, hSh⟩ := id hR
  have hP := pI.P5
  simp only at p1 p2 p3 p4 p5 p6 p7 hImg h16 hT hSh
  simp only [ME] at m1 e1
  obtain ⟨rfl, rfl⟩ := fn_r hrel
  unfold x_rule at h
  refine ⟨Nat.le_of_ble_eq_true rfl, yvc_ok (uX7_rule Γ) (S := []) 40 _ _ _ _ ?_⟩
  simp only [lv_args, Value.category, m1, e1, sp_X7_lies, inL_120, bI_eq0, Bool.not_eq_false, yvc_s, s1i, s2i, s1l, s2l, sil, s1r, sir, siir, slir, srir, svr, sd1, sd2, lg, lput, ldel, isL_i, isL_r, isL_l, jmp, obj, obj1, fI, fR, arI, arL, arR, hput, f4_0, f4_1, f4_2, f4_3, lc_0, lc_1, rok_i, rok_b, rok_y, strF, fput_1, fput_2, csum_nil, csum_i, csum_l, csum_r, va_up_self, bx_uu, Int.reduceAdd, List.elem_nil, List.elem_cons, List.take_succ_cons, List.take_zero, List.drop_succ_cons, List.drop_zero, List.take_nil, List.drop_nil, List.reverse_cons, List.reverse_nil, List.nil_append, List.cons_append, List.append_nil, Option.toList_some, Option.toList_none, List.getElem?_cons_zero, List.getElem?_cons_succ, List.set_cons_zero, List.set_cons_succ, List.length_cons, List.length_nil, reduceIte, reduceCtorEq, and_true, true_and, and_self, or_true, true_or, false_and, and_false, not_true_eq_false, not_false_eq_true, true_implies, false_implies, implies_true, Nat.reduceAdd, Nat.reduceLT, Nat.reduceEqDiff, Nat.reduceLeDiff, Nat.reduceBEq, Nat.zero_add, Nat.lt_add_one, Bool.false_eq_true, Bool.or_false, Bool.or_true, Bool.or_self, Nat.zero_ne_one, Nat.one_ne_zero, ite_true, ite_false, ne_eq, Nat.reduceSub, Nat.succ_eq_add_one, Nat.zero_lt_succ, Nat.add_one_ne_zero, false_or, or_false, mX7_rule_c, mX7_rule_n, mX7_rule_r, mX7_rule_l, dX7_rule_0, dX7_rule_1, dX7_rule_2, dX7_rule_3, cl_7_102, dX7_rule_6, dX7_rule_9, tg_9_5, cnd1_ne, dX7_rule_12, ic_m1, dX7_rule_13, dX7_rule_14, dX7_rule_15, fl_7_7_7, dX7_rule_18, dX7_rule_19, dX7_rule_20, dX7_rule_21, dX7_rule_24, dX7_rule_25, jX7_rule_1_63, st_aload_n, st_getfield, st_i2l, st_iconst, st_ifCond, st_iload_n, st_invokestatic, st_ireturn, st_istore_n, st_lconst, st_ldc2_w, st_putfield]
  refine ⟨fun c => ?_, fun c => ?_⟩
  · rw [if_pos c] at h
    have hk := h _ _ (hR.upN (s' := (upd sc 1 x, ar, it)) (c := setR ψ.1 x) (pa := ψ.2.2.1) rfl rfl rfl rfl rfl rfl rfl rfl rfl rfl ⟨p1, rfl, p3, p4, pI, p5, p6, p7⟩) hM.frO (hM.putO (upd sc 1 x))
    simp only [ME, hput] at hk
    rw [← p2] at hk
    exact hk
  · rw [if_neg c] at h
    exact h _ _ hR frm.rf hM
def sp_X7_wants (Γ : Cx) : YSp := fun av σ K => ∃ (x : Int32) (y : Int32), mo Γ [.int x, .int y] (fn (x_wants x y)) av σ K
theorem rv_X7_wants {Γ : Cx} : Recv (sp_X7_wants Γ) 2 7 := by
  intro av σ K h
  obtain ⟨x, y, h⟩ := h
  obtain ⟨q, fs, h1, h2, h3⟩ := rv_mo h
  exact ⟨q, _, fs, h1, rfl, h2, h3⟩
theorem bw_810 : Cond.code yX7_isOne cX7_isOne 2 (some .boolean) ∈ BW := bw_i 810 (by decide +kernel) (by decide +kernel)
theorem no_X7_isOne : NameOK yX7_isOne 1 := by unfold NameOK; decide +kernel
theorem bw_807 : Cond.methodLink RX7 107 yX7_isOne ∈ BW := bw_i 807 (by decide +kernel) (by decide +kernel)
theorem bw_809 : Cond.instanceMethod yX7_isOne ∈ BW := bw_i 809 (by decide +kernel) (by decide +kernel)
theorem bw_14 : Cond.selects RX7 yX7_isOne yX7_isOne ∈ BW := bw_i 14 (by decide +kernel) (by decide +kernel)
theorem bw_813 : Cond.code yX7_isDoor cX7_isDoor 1 (some .boolean) ∈ BW := bw_i 813 (by decide +kernel) (by decide +kernel)
theorem no_X7_isDoor : NameOK yX7_isDoor 1 := by unfold NameOK; decide +kernel
theorem bw_811 : Cond.methodLink RX7 111 yX7_isDoor ∈ BW := bw_i 811 (by decide +kernel) (by decide +kernel)
theorem bw_812 : Cond.static yX7_isDoor ∈ BW := bw_i 812 (by decide +kernel) (by decide +kernel)
theorem tg_5_23 : tgo 5 23 = some 28 := by decide
theorem tg_12_16 : tgo 12 16 = some 28 := by decide
theorem tg_25_4 : tgo 25 4 = some 29 := by decide
def mX7_wants : Mt := (⟨2, 0, 0, 46⟩, RX7, cX7_wants, 3, some .int, (0, 0), none)
theorem mX7_wants_c : mX7_wants.2.2.1 = cX7_wants := rfl
theorem mX7_wants_n : mX7_wants.2.2.2.1 = 3 := rfl
theorem mX7_wants_r : mX7_wants.2.2.2.2.1 = some .int := rfl
theorem mX7_wants_l : mX7_wants.2.2.2.2.2.2 = none := rfl
def jX7_wants (Γ : Cx) : List ((Nat × Nat) × Nat × Bool × YSp) := [((0, 107), 2, true, sp_X7_isOne Γ), ((1, 111), 1, true, sp_X7_isDoor Γ)]
theorem jX7_wants_0_107 (Γ : Cx) : kT (jX7_wants Γ) 0 107 = some (2, true, sp_X7_isOne Γ) := rfl
theorem jX7_wants_1_111 (Γ : Cx) : kT (jX7_wants Γ) 1 111 = some (1, true, sp_X7_isDoor Γ) := rfl
theorem uX7_wants (Γ : Cx) : TbOK Γ mX7_wants (fT fX7, cT kX7, kT (jX7_wants Γ)) := tb_ok fX7_ok kX7_ok (all_cons ⟨call_V (n := 1) (T := TX7) (N := 26) (ok_X7_isOne Γ) (rv_X7_isOne (Γ := Γ)) rfl bw_810 bw_807 bw_809 bw_14 bw_49 no_X7_isOne ⟨⟨rfl, rfl⟩, ⟨by decide, by decide⟩, ⟨by decide, by decide⟩⟩, fun _ => mono_X7_isOne (Γ := Γ)⟩ (all_cons ⟨call_S (n := 1) (ok_X7_isDoor Γ) (rv_X7_isDoor (Γ := Γ)) bw_813 bw_811 bw_812 bw_49 no_X7_isDoor ⟨⟨rfl, rfl⟩, ⟨by decide, by decide⟩, ⟨by decide, by decide⟩⟩, fun _ => mono_X7_isDoor (Γ := Γ)⟩ (all_nil)))
set_option maxRecDepth 20000 in
theorem ok_X7_wants (Γ : Cx) : Ok Γ yX7_wants mX7_wants (sp_X7_wants Γ) := by
  refine ok_intro (by decide +kernel) rfl rfl ?_
  intro av σ K h
  obtain ⟨x, y, h⟩ := h
  obtain ⟨lab, ⟨a, ad⟩, ⟨sc, ar, it⟩, ψ, ψ', r, rfl, hM, hR, hrel, h⟩ := h
  try simp only at h
  obtain ⟨⟨m1, -⟩, e1, -⟩ := id hM
  obtain ⟨⟨p1, p2, p3, p4, pI, p5, p6, p7⟩, hImg, h16, hT, hSh⟩ := id hR
  have hP := pI.P5
  simp only at p1 p2 p3 p4 p5 p6 p7 hImg h16 hT hSh
  simp only [ME] at m1 e1
  obtain ⟨rfl, rfl⟩ := fn_r hrel
  unfold x_wants at h
  simp only at h
  obtain ⟨m3, e3⟩ := hM.arr 3 rfl
  simp only [iA, lenM] at m3 e3
  refine ⟨Nat.le_of_ble_eq_true rfl, yvc_ok (uX7_wants Γ) (S := []) 40 _ _ _ _ ?_⟩
  simp only [lv_args, Value.category, m1, e1, m3, e3, sp_X7_isOne, sp_X7_isDoor, sp_X6_isDoor, p1, bI_eq0, Bool.not_eq_false, yvc_s, s1i, s2i, s1l, s2l, sil, s1r, sir, siir, slir, srir, svr, sd1, sd2, lg, lput, ldel, isL_i, isL_r, isL_l, jmp, obj, obj1, fI, fR, arI, arL, arR, hput, f4_0, f4_1, f4_2, f4_3, lc_0, lc_1, rok_i, rok_b, rok_y, strF, fput_1, fput_2, csum_nil, csum_i, csum_l, csum_r, va_up_self, bx_uu, Int.reduceAdd, List.elem_nil, List.elem_cons, List.take_succ_cons, List.take_zero, List.drop_succ_cons, List.drop_zero, List.take_nil, List.drop_nil, List.reverse_cons, List.reverse_nil, List.nil_append, List.cons_append, List.append_nil, Option.toList_some, Option.toList_none, List.getElem?_cons_zero, List.getElem?_cons_succ, List.set_cons_zero, List.set_cons_succ, List.length_cons, List.length_nil, reduceIte, reduceCtorEq, and_true, true_and, and_self, or_true, true_or, false_and, and_false, not_true_eq_false, not_false_eq_true, true_implies, false_implies, implies_true, Nat.reduceAdd, Nat.reduceLT, Nat.reduceEqDiff, Nat.reduceLeDiff, Nat.reduceBEq, Nat.zero_add, Nat.lt_add_one, Bool.false_eq_true, Bool.or_false, Bool.or_true, Bool.or_self, Nat.zero_ne_one, Nat.one_ne_zero, ite_true, ite_false, ne_eq, Nat.reduceSub, Nat.succ_eq_add_one, Nat.zero_lt_succ, Nat.add_one_ne_zero, false_or, or_false, mX7_wants_c, mX7_wants_n, mX7_wants_r, mX7_wants_l, dX7_wants_0, dX7_wants_1, dX7_wants_2, dX7_wants_5, tg_5_23, cnd1_eq, dX7_wants_8, dX7_wants_9, dX7_wants_12, tg_12_16, dX7_wants_15, dX7_wants_16, fl_7_17_7, dX7_wants_19, ic_4, dX7_wants_20, dX7_wants_21, dX7_wants_22, dX7_wants_23, dX7_wants_24, dX7_wants_25, tg_25_4, dX7_wants_28, ic_m1, dX7_wants_29, jX7_wants_0_107, jX7_wants_1_111, st_aload_n, st_getfield, st_goto, st_iadd, st_iaload, st_iconst, st_ifCond, st_iload_n, st_imul, st_invokestatic, st_invokevirtual, st_ireturn]
  refine ⟨fun c => ?_, fun c => ⟨fun d => ?_, fun d => ?_⟩⟩
  · rw [if_neg (fun z => by rw [z.1] at c; cases c)] at h
    exact h _ _ hR frm.rf hM
  · rw [if_neg (fun z => by rw [z.2] at d; cases d)] at h
    exact h _ _ hR frm.rf hM
  · rw [if_pos ⟨c, d⟩] at h
    obtain ⟨q, hq, rfl⟩ := has_n hP c
    obtain ⟨e, he, rfl⟩ := door_n d
    obtain ⟨i1, i2⟩ := ix4 (show q < 5 by omega) he
    rw [ix_n (by omega) he] at h
    rw [i2, p6.1 (4 * q + e) (by omega)]
    exact ⟨i1, h _ _ hR frm.rf hM⟩
def sp_X7_sumOf (Γ : Cx) : YSp := fun av σ K => ∃ (p : Nat) (ψ : XS), mp Γ [.int (nI p)] (fun s => R ψ s ∧ p < ψ.1.2.2.2.2.2.2.1) (fun _ => wsum ψ.1.1 (nI p) 4) av σ K
theorem rv_X7_sumOf {Γ : Cx} : Recv (sp_X7_sumOf Γ) 1 7 := by
  intro av σ K h
  obtain ⟨p, ψ, h⟩ := h
  obtain ⟨q, fs, h1, h2, h3⟩ := rv_mp h
  exact ⟨q, _, fs, h1, rfl, h2, h3⟩
def mX7_sumOf : Mt := (⟨0, 0, 0, 0⟩, RX7, cX7_sumOf, 2, some .int, (0, 0), none)
theorem mX7_sumOf_c : mX7_sumOf.2.2.1 = cX7_sumOf := rfl
theorem mX7_sumOf_n : mX7_sumOf.2.2.2.1 = 2 := rfl
theorem mX7_sumOf_r : mX7_sumOf.2.2.2.2.1 = some .int := rfl
theorem mX7_sumOf_l : mX7_sumOf.2.2.2.2.2.2 = none := rfl
def jX7_sumOf (Γ : Cx) : List ((Nat × Nat) × Nat × Bool × YSp) := []
theorem uX7_sumOf (Γ : Cx) : TbOK Γ mX7_sumOf (fT fX7, cT kX7, kT (jX7_sumOf Γ)) := tb_ok fX7_ok kX7_ok (all_nil)
theorem ix4_0 {p : Nat} (hp : p < 5) : vp_in (4 * nI p) 27 ∧ (4 * nI p).toNatClampNeg = 4 * p := by
  rw [show (4 : Int32) = nI 4 from rfl, pk_mul]
  exact ⟨vp_in_nI (by omega) (by decide), nI_clamp (by omega)⟩
set_option maxRecDepth 20000 in
theorem ok_X7_sumOf (Γ : Cx) : Ok Γ yX7_sumOf mX7_sumOf (sp_X7_sumOf Γ) := by
  refine ok_intro (by decide +kernel) rfl rfl ?_
  intro av σ K h
  obtain ⟨p, ψ, lab, ⟨a, ad⟩, ⟨sc, ar, it⟩, rfl, hM, ⟨hR, hp⟩, h⟩ := h
  obtain ⟨⟨m1, -⟩, e1, -⟩ := id hM
  obtain ⟨m3, e3⟩ := hM.arr 3 rfl
  obtain ⟨⟨p1, p2, p3, p4, pI, p5, p6, p7⟩, -⟩ := id hR
  have hP := pI.P5
  simp only [ME, iA, lenM] at m1 e1 m3 e3
  simp only at p6
  obtain ⟨i1, i2⟩ := ix4_0 (show p < 5 by omega)
  obtain ⟨j1, j2⟩ := ix4 (show p < 5 by omega) (show 1 < 4 by decide)
  obtain ⟨k1, k2⟩ := ix4 (show p < 5 by omega) (show 2 < 4 by decide)
  obtain ⟨l1, l2⟩ := ix4 (show p < 5 by omega) (show 3 < 4 by decide)
  rw [show nI 1 = 1 from rfl] at j1 j2
  rw [show nI 2 = 2 from rfl] at k1 k2
  rw [show nI 3 = 3 from rfl] at l1 l2
  simp only [wsum] at h
  rw [ix_n (show p < 5 by omega) (show 0 < 4 by decide), ix_n (show p < 5 by omega) (show 1 < 4 by decide), ix_n (show p < 5 by omega) (show 2 < 4 by decide), ix_n (show p < 5 by omega) (show 3 < 4 by decide), Int32.zero_add] at h
  have w0 := p6.1 (4 * p) (by omega)
  have w1 := p6.1 (4 * p + 1) (by omega)
  have w2 := p6.1 (4 * p + 2) (by omega)
  have w3 := p6.1 (4 * p + 3) (by omega)
  simp only [mom] at w0 w1 w2 w3
  refine ⟨Nat.le_of_ble_eq_true rfl, yvc_ok (uX7_sumOf Γ) (S := []) 60 _ _ _ _ ?_⟩
  simp only [lv_args, Value.category, m1, e1, m3, e3, i1, i2, j1, j2, k1, k2, l1, l2, w0, w1, w2, w3, yvc_s, s1i, s2i, s1l, s2l, sil, s1r, sir, siir, slir, srir, svr, sd1, sd2, lg, lput, ldel, isL_i, isL_r, isL_l, jmp, obj, obj1, fI, fR, arI, arL, arR, hput, f4_0, f4_1, f4_2, f4_3, lc_0, lc_1, rok_i, rok_b, rok_y, strF, fput_1, fput_2, csum_nil, csum_i, csum_l, csum_r, va_up_self, bx_uu, Int.reduceAdd, List.elem_nil, List.elem_cons, List.take_succ_cons, List.take_zero, List.drop_succ_cons, List.drop_zero, List.take_nil, List.drop_nil, List.reverse_cons, List.reverse_nil, List.nil_append, List.cons_append, List.append_nil, Option.toList_some, Option.toList_none, List.getElem?_cons_zero, List.getElem?_cons_succ, List.set_cons_zero, List.set_cons_succ, List.length_cons, List.length_nil, reduceIte, reduceCtorEq, and_true, true_and, and_self, or_true, true_or, false_and, and_false, not_true_eq_false, not_false_eq_true, true_implies, false_implies, implies_true, Nat.reduceAdd, Nat.reduceLT, Nat.reduceEqDiff, Nat.reduceLeDiff, Nat.reduceBEq, Nat.zero_add, Nat.lt_add_one, Bool.false_eq_true, Bool.or_false, Bool.or_true, Bool.or_self, Nat.zero_ne_one, Nat.one_ne_zero, ite_true, ite_false, ne_eq, Nat.reduceSub, Nat.succ_eq_add_one, Nat.zero_lt_succ, Nat.add_one_ne_zero, false_or, or_false, mX7_sumOf_c, mX7_sumOf_n, mX7_sumOf_r, mX7_sumOf_l, dX7_sumOf_0, dX7_sumOf_1, fl_7_17_7, dX7_sumOf_4, ic_4, dX7_sumOf_5, dX7_sumOf_6, dX7_sumOf_7, dX7_sumOf_8, dX7_sumOf_9, dX7_sumOf_12, dX7_sumOf_13, dX7_sumOf_14, dX7_sumOf_15, ic_1, dX7_sumOf_16, dX7_sumOf_17, dX7_sumOf_18, dX7_sumOf_19, dX7_sumOf_20, dX7_sumOf_23, dX7_sumOf_24, dX7_sumOf_25, dX7_sumOf_26, ic_2, dX7_sumOf_27, dX7_sumOf_28, dX7_sumOf_29, dX7_sumOf_30, dX7_sumOf_31, dX7_sumOf_34, dX7_sumOf_35, dX7_sumOf_36, dX7_sumOf_37, ic_3, dX7_sumOf_38, dX7_sumOf_39, dX7_sumOf_40, dX7_sumOf_41, st_aload_n, st_getfield, st_iadd, st_iaload, st_iconst, st_iload_n, st_imul, st_ireturn]
  exact h
theorem kset_row {P : Nat} {row : Nat → Int32} {m : MC} (h : RowM P row m) (p : Int32) : ∀ n, n ≤ 4 → kset (fun d => row (20 + d)) p n = kset m.2.1 p n := by
  intro n
  induction n with
  | zero => intro _; rfl
  | succ n ih => intro hn; have e := h.2.1 n (by omega); simp only [kset, ih (by omega), e]
theorem kany_row {P : Nat} {row : Nat → Int32} {m : MC} (h : RowM P row m) : ∀ n, n ≤ 4 → kany (fun d => row (20 + d)) n = kany m.2.1 n := by
  intro n
  induction n with
  | zero => intro _; rfl
  | succ n ih => intro hn; have e := h.2.1 n (by omega); simp only [kany, ih (by omega), e]
theorem or0 {x : Int32} : x ||| 0 = x := by
  apply Int32.toBitVec_inj.mp
  simp
def sp_X7_keySet (Γ : Cx) : YSp := fun av σ K => ∃ p : Int32, mp Γ [.int p] (fun _ => True) (fun s => kset (fun d => s.2.1 3 (20 + d)) p 4) av σ K
theorem rv_X7_keySet {Γ : Cx} : Recv (sp_X7_keySet Γ) 1 7 := by
  intro av σ K h
  obtain ⟨p, h⟩ := h
  obtain ⟨q, fs, h1, h2, h3⟩ := rv_mp h
  exact ⟨q, _, fs, h1, rfl, h2, h3⟩
theorem tg_6_32 : tgo 6 32 = some 38 := by decide
theorem tg_20_9 : tgo 20 9 = some 29 := by decide
theorem tg_26_4 : tgo 26 4 = some 30 := by decide
theorem tg_35_m31 : tgo 35 (-31) = some 4 := by decide
def mX7_keySet : Mt := (⟨0, 0, 0, 0⟩, RX7, cX7_keySet, 4, some .int, (0, 0), none)
theorem mX7_keySet_c : mX7_keySet.2.2.1 = cX7_keySet := rfl
theorem mX7_keySet_n : mX7_keySet.2.2.2.1 = 4 := rfl
theorem mX7_keySet_r : mX7_keySet.2.2.2.2.1 = some .int := rfl
theorem mX7_keySet_l : mX7_keySet.2.2.2.2.2.2 = none := rfl
def jX7_keySet (Γ : Cx) : List ((Nat × Nat) × Nat × Bool × YSp) := []
theorem uX7_keySet (Γ : Cx) : TbOK Γ mX7_keySet (fT fX7, cT kX7, kT (jX7_keySet Γ)) := tb_ok fX7_ok kX7_ok (all_nil)
set_option maxRecDepth 20000 in
theorem ok_X7_keySet (Γ : Cx) : Ok Γ yX7_keySet mX7_keySet (sp_X7_keySet Γ) := by
  refine ok_intro (by decide +kernel) rfl rfl ?_
  intro av σ K h
  obtain ⟨p, lab, ⟨a, ad⟩, ⟨sc, ar, it⟩, rfl, hM, -, h⟩ := h
  simp only at h hM
  obtain ⟨⟨m1, -⟩, e1, -⟩ := id hM
  obtain ⟨m3, e3⟩ := hM.arr 3 rfl
  simp only [ME, iA, lenM] at m1 e1 m3 e3
  have loop : ∀ n j : Nat, j + n = 4 → YG Γ mX7_keySet K 4 [(0, .ref a), (1, .int p), (2, .int (kset (fun d => ar 3 (20 + d)) p j)), (3, .int (nI j))] [] σ := by
    intro n
    induction n with
    | zero =>
      intro j hj
      obtain rfl : j = 4 := by omega
      refine yvc1_ok (uX7_keySet Γ) (S := [4]) 40 ?_
      simp only [yvc1, ge4, yvc_s, s1i, s2i, s1l, s2l, sil, s1r, sir, siir, slir, srir, svr, sd1, sd2, lg, lput, ldel, isL_i, isL_r, isL_l, jmp, obj, obj1, fI, fR, arI, arL, arR, hput, f4_0, f4_1, f4_2, f4_3, lc_0, lc_1, rok_i, rok_b, rok_y, strF, fput_1, fput_2, csum_nil, csum_i, csum_l, csum_r, va_up_self, bx_uu, Int.reduceAdd, List.elem_nil, List.elem_cons, List.take_succ_cons, List.take_zero, List.drop_succ_cons, List.drop_zero, List.take_nil, List.drop_nil, List.reverse_cons, List.reverse_nil, List.nil_append, List.cons_append, List.append_nil, Option.toList_some, Option.toList_none, List.getElem?_cons_zero, List.getElem?_cons_succ, List.set_cons_zero, List.set_cons_succ, List.length_cons, List.length_nil, reduceIte, reduceCtorEq, and_true, true_and, and_self, or_true, true_or, false_and, and_false, not_true_eq_false, not_false_eq_true, true_implies, false_implies, implies_true, Nat.reduceAdd, Nat.reduceLT, Nat.reduceEqDiff, Nat.reduceLeDiff, Nat.reduceBEq, Nat.zero_add, Nat.lt_add_one, Bool.false_eq_true, Bool.or_false, Bool.or_true, Bool.or_self, Nat.zero_ne_one, Nat.one_ne_zero, ite_true, ite_false, ne_eq, Nat.reduceSub, Nat.succ_eq_add_one, Nat.zero_lt_succ, Nat.add_one_ne_zero, false_or, or_false, mX7_keySet_c, mX7_keySet_n, mX7_keySet_r, mX7_keySet_l, dX7_keySet_0, ic_0, dX7_keySet_1, dX7_keySet_2, dX7_keySet_3, dX7_keySet_4, dX7_keySet_5, ic_4, dX7_keySet_6, tg_6_32, cnd2_ge, dX7_keySet_9, dX7_keySet_10, dX7_keySet_11, fl_7_17_7, dX7_keySet_14, bc_20, dX7_keySet_16, dX7_keySet_17, dX7_keySet_18, dX7_keySet_19, dX7_keySet_20, tg_20_9, cnd2_ne, dX7_keySet_23, ic_1, dX7_keySet_24, dX7_keySet_25, dX7_keySet_26, tg_26_4, dX7_keySet_29, dX7_keySet_30, dX7_keySet_31, dX7_keySet_32, dX7_keySet_35, tg_35_m31, dX7_keySet_38, dX7_keySet_39, st_aload_n, st_bipush, st_getfield, st_goto, st_iadd, st_iaload, st_iconst, st_if_icmp, st_iinc, st_iload_n, st_ior, st_ireturn, st_ishl, st_istore_n]
      exact h
    | succ n ih =>
      intro j hj
      obtain ⟨c1, -, -⟩ := lt4 (show j < 4 by omega)
      obtain ⟨c2, c3⟩ := ix20 (show j < 4 by omega)
      have hj1 := ih (j + 1) (by omega)
      refine yvc1_ok (uX7_keySet Γ) (S := [4]) 40 ?_
      simp only [yvc1, c1, c2, c3, m1, m3, e1, e3, nI_1, or0, yvc_s, s1i, s2i, s1l, s2l, sil, s1r, sir, siir, slir, srir, svr, sd1, sd2, lg, lput, ldel, isL_i, isL_r, isL_l, jmp, obj, obj1, fI, fR, arI, arL, arR, hput, f4_0, f4_1, f4_2, f4_3, lc_0, lc_1, rok_i, rok_b, rok_y, strF, fput_1, fput_2, csum_nil, csum_i, csum_l, csum_r, va_up_self, bx_uu, Int.reduceAdd, List.elem_nil, List.elem_cons, List.take_succ_cons, List.take_zero, List.drop_succ_cons, List.drop_zero, List.take_nil, List.drop_nil, List.reverse_cons, List.reverse_nil, List.nil_append, List.cons_append, List.append_nil, Option.toList_some, Option.toList_none, List.getElem?_cons_zero, List.getElem?_cons_succ, List.set_cons_zero, List.set_cons_succ, List.length_cons, List.length_nil, reduceIte, reduceCtorEq, and_true, true_and, and_self, or_true, true_or, false_and, and_false, not_true_eq_false, not_false_eq_true, true_implies, false_implies, implies_true, Nat.reduceAdd, Nat.reduceLT, Nat.reduceEqDiff, Nat.reduceLeDiff, Nat.reduceBEq, Nat.zero_add, Nat.lt_add_one, Bool.false_eq_true, Bool.or_false, Bool.or_true, Bool.or_self, Nat.zero_ne_one, Nat.one_ne_zero, ite_true, ite_false, ne_eq, Nat.reduceSub, Nat.succ_eq_add_one, Nat.zero_lt_succ, Nat.add_one_ne_zero, false_or, or_false, mX7_keySet_c, mX7_keySet_n, mX7_keySet_r, mX7_keySet_l, dX7_keySet_0, ic_0, dX7_keySet_1, dX7_keySet_2, dX7_keySet_3, dX7_keySet_4, dX7_keySet_5, ic_4, dX7_keySet_6, tg_6_32, cnd2_ge, dX7_keySet_9, dX7_keySet_10, dX7_keySet_11, fl_7_17_7, dX7_keySet_14, bc_20, dX7_keySet_16, dX7_keySet_17, dX7_keySet_18, dX7_keySet_19, dX7_keySet_20, tg_20_9, cnd2_ne, dX7_keySet_23, ic_1, dX7_keySet_24, dX7_keySet_25, dX7_keySet_26, tg_26_4, dX7_keySet_29, dX7_keySet_30, dX7_keySet_31, dX7_keySet_32, dX7_keySet_35, tg_35_m31, dX7_keySet_38, dX7_keySet_39, st_aload_n, st_bipush, st_getfield, st_goto, st_iadd, st_iaload, st_iconst, st_if_icmp, st_iinc, st_iload_n, st_ior, st_ireturn, st_ishl, st_istore_n]
      refine ⟨fun c => ?_, fun c => ?_⟩
      · rw [kset, if_neg c] at hj1
        exact hj1
      · rw [kset, if_pos (Classical.not_not.mp c)] at hj1
        exact hj1
  refine ⟨Nat.le_of_ble_eq_true rfl, yvc_ok (uX7_keySet Γ) (S := [4]) 40 _ _ _ _ ?_⟩
  simp only [lv_args, Value.category, yvc_s, s1i, s2i, s1l, s2l, sil, s1r, sir, siir, slir, srir, svr, sd1, sd2, lg, lput, ldel, isL_i, isL_r, isL_l, jmp, obj, obj1, fI, fR, arI, arL, arR, hput, f4_0, f4_1, f4_2, f4_3, lc_0, lc_1, rok_i, rok_b, rok_y, strF, fput_1, fput_2, csum_nil, csum_i, csum_l, csum_r, va_up_self, bx_uu, Int.reduceAdd, List.elem_nil, List.elem_cons, List.take_succ_cons, List.take_zero, List.drop_succ_cons, List.drop_zero, List.take_nil, List.drop_nil, List.reverse_cons, List.reverse_nil, List.nil_append, List.cons_append, List.append_nil, Option.toList_some, Option.toList_none, List.getElem?_cons_zero, List.getElem?_cons_succ, List.set_cons_zero, List.set_cons_succ, List.length_cons, List.length_nil, reduceIte, reduceCtorEq, and_true, true_and, and_self, or_true, true_or, false_and, and_false, not_true_eq_false, not_false_eq_true, true_implies, false_implies, implies_true, Nat.reduceAdd, Nat.reduceLT, Nat.reduceEqDiff, Nat.reduceLeDiff, Nat.reduceBEq, Nat.zero_add, Nat.lt_add_one, Bool.false_eq_true, Bool.or_false, Bool.or_true, Bool.or_self, Nat.zero_ne_one, Nat.one_ne_zero, ite_true, ite_false, ne_eq, Nat.reduceSub, Nat.succ_eq_add_one, Nat.zero_lt_succ, Nat.add_one_ne_zero, false_or, or_false, mX7_keySet_c, mX7_keySet_n, mX7_keySet_r, mX7_keySet_l, dX7_keySet_0, ic_0, dX7_keySet_1, dX7_keySet_2, dX7_keySet_3, dX7_keySet_4, dX7_keySet_5, ic_4, dX7_keySet_6, tg_6_32, cnd2_ge, dX7_keySet_9, dX7_keySet_10, dX7_keySet_11, fl_7_17_7, dX7_keySet_14, bc_20, dX7_keySet_16, dX7_keySet_17, dX7_keySet_18, dX7_keySet_19, dX7_keySet_20, tg_20_9, cnd2_ne, dX7_keySet_23, ic_1, dX7_keySet_24, dX7_keySet_25, dX7_keySet_26, tg_26_4, dX7_keySet_29, dX7_keySet_30, dX7_keySet_31, dX7_keySet_32, dX7_keySet_35, tg_35_m31, dX7_keySet_38, dX7_keySet_39, st_aload_n, st_bipush, st_getfield, st_goto, st_iadd, st_iaload, st_iconst, st_if_icmp, st_iinc, st_iload_n, st_ior, st_ireturn, st_ishl, st_istore_n]
  exact loop 4 0 rfl
def sp_X7_nails (Γ : Cx) : YSp := mp Γ [] (fun _ => True) (fun s => kset (fun d => s.2.1 3 (20 + d)) (-4) 4)
theorem rv_X7_nails {Γ : Cx} : Recv (sp_X7_nails Γ) 0 7 := by
  intro av σ K h
  obtain ⟨q, fs, h1, h2, h3⟩ := rv_mp h
  exact ⟨q, _, fs, h1, rfl, h2, h3⟩
theorem tg_6_33 : tgo 6 33 = some 39 := by decide
theorem tg_21_9 : tgo 21 9 = some 30 := by decide
theorem tg_27_4 : tgo 27 4 = some 31 := by decide
theorem tg_36_m32 : tgo 36 (-32) = some 4 := by decide
def mX7_nails : Mt := (⟨0, 0, 0, 0⟩, RX7, cX7_nails, 3, some .int, (0, 0), none)
theorem mX7_nails_c : mX7_nails.2.2.1 = cX7_nails := rfl
theorem mX7_nails_n : mX7_nails.2.2.2.1 = 3 := rfl
theorem mX7_nails_r : mX7_nails.2.2.2.2.1 = some .int := rfl
theorem mX7_nails_l : mX7_nails.2.2.2.2.2.2 = none := rfl
def jX7_nails (Γ : Cx) : List ((Nat × Nat) × Nat × Bool × YSp) := []
theorem uX7_nails (Γ : Cx) : TbOK Γ mX7_nails (fT fX7, cT kX7, kT (jX7_nails Γ)) := tb_ok fX7_ok kX7_ok (all_nil)
set_option maxRecDepth 20000 in
theorem ok_X7_nails (Γ : Cx) : Ok Γ yX7_nails mX7_nails (sp_X7_nails Γ) := by
  refine ok_intro (by decide +kernel) rfl rfl ?_
  intro av σ K h
  obtain ⟨lab, ⟨a, ad⟩, ⟨sc, ar, it⟩, rfl, hM, -, h⟩ := h
  simp only at h hM
  obtain ⟨⟨m1, -⟩, e1, -⟩ := id hM
  obtain ⟨m3, e3⟩ := hM.arr 3 rfl
  simp only [ME, iA, lenM] at m1 e1 m3 e3
  have loop : ∀ n j : Nat, j + n = 4 → YG Γ mX7_nails K 4 [(0, .ref a), (1, .int (kset (fun d => ar 3 (20 + d)) (-4) j)), (2, .int (nI j))] [] σ := by
    intro n
    induction n with
    | zero =>
      intro j hj
      obtain rfl : j = 4 := by omega
      refine yvc1_ok (uX7_nails Γ) (S := [4]) 40 ?_
      simp only [yvc1, ge4, yvc_s, s1i, s2i, s1l, s2l, sil, s1r, sir, siir, slir, srir, svr, sd1, sd2, lg, lput, ldel, isL_i, isL_r, isL_l, jmp, obj, obj1, fI, fR, arI, arL, arR, hput, f4_0, f4_1, f4_2, f4_3, lc_0, lc_1, rok_i, rok_b, rok_y, strF, fput_1, fput_2, csum_nil, csum_i, csum_l, csum_r, va_up_self, bx_uu, Int.reduceAdd, List.elem_nil, List.elem_cons, List.take_succ_cons, List.take_zero, List.drop_succ_cons, List.drop_zero, List.take_nil, List.drop_nil, List.reverse_cons, List.reverse_nil, List.nil_append, List.cons_append, List.append_nil, Option.toList_some, Option.toList_none, List.getElem?_cons_zero, List.getElem?_cons_succ, List.set_cons_zero, List.set_cons_succ, List.length_cons, List.length_nil, reduceIte, reduceCtorEq, and_true, true_and, and_self, or_true, true_or, false_and, and_false, not_true_eq_false, not_false_eq_true, true_implies, false_implies, implies_true, Nat.reduceAdd, Nat.reduceLT, Nat.reduceEqDiff, Nat.reduceLeDiff, Nat.reduceBEq, Nat.zero_add, Nat.lt_add_one, Bool.false_eq_true, Bool.or_false, Bool.or_true, Bool.or_self, Nat.zero_ne_one, Nat.one_ne_zero, ite_true, ite_false, ne_eq, Nat.reduceSub, Nat.succ_eq_add_one, Nat.zero_lt_succ, Nat.add_one_ne_zero, false_or, or_false, mX7_nails_c, mX7_nails_n, mX7_nails_r, mX7_nails_l, dX7_nails_0, ic_0, dX7_nails_1, dX7_nails_2, dX7_nails_3, dX7_nails_4, dX7_nails_5, ic_4, dX7_nails_6, tg_6_33, cnd2_ge, dX7_nails_9, dX7_nails_10, dX7_nails_11, fl_7_17_7, dX7_nails_14, bc_20, dX7_nails_16, dX7_nails_17, dX7_nails_18, dX7_nails_19, bc_m4, dX7_nails_21, tg_21_9, cnd2_ne, dX7_nails_24, ic_1, dX7_nails_25, dX7_nails_26, dX7_nails_27, tg_27_4, dX7_nails_30, dX7_nails_31, dX7_nails_32, dX7_nails_33, dX7_nails_36, tg_36_m32, dX7_nails_39, dX7_nails_40, st_aload_n, st_bipush, st_getfield, st_goto, st_iadd, st_iaload, st_iconst, st_if_icmp, st_iinc, st_iload_n, st_ior, st_ireturn, st_ishl, st_istore_n]
      exact h
    | succ n ih =>
      intro j hj
      obtain ⟨c1, -, -⟩ := lt4 (show j < 4 by omega)
      obtain ⟨c2, c3⟩ := ix20 (show j < 4 by omega)
      have hj1 := ih (j + 1) (by omega)
      refine yvc1_ok (uX7_nails Γ) (S := [4]) 40 ?_
      simp only [yvc1, c1, c2, c3, m1, m3, e1, e3, nI_1, or0, yvc_s, s1i, s2i, s1l, s2l, sil, s1r, sir, siir, slir, srir, svr, sd1, sd2, lg, lput, ldel, isL_i, isL_r, isL_l, jmp, obj, obj1, fI, fR, arI, arL, arR, hput, f4_0, f4_1, f4_2, f4_3, lc_0, lc_1, rok_i, rok_b, rok_y, strF, fput_1, fput_2, csum_nil, csum_i, csum_l, csum_r, va_up_self, bx_uu, Int.reduceAdd, List.elem_nil, List.elem_cons, List.take_succ_cons, List.take_zero, List.drop_succ_cons, List.drop_zero, List.take_nil, List.drop_nil, List.reverse_cons, List.reverse_nil, List.nil_append, List.cons_append, List.append_nil, Option.toList_some, Option.toList_none, List.getElem?_cons_zero, List.getElem?_cons_succ, List.set_cons_zero, List.set_cons_succ, List.length_cons, List.length_nil, reduceIte, reduceCtorEq, and_true, true_and, and_self, or_true, true_or, false_and, and_false, not_true_eq_false, not_false_eq_true, true_implies, false_implies, implies_true, Nat.reduceAdd, Nat.reduceLT, Nat.reduceEqDiff, Nat.reduceLeDiff, Nat.reduceBEq, Nat.zero_add, Nat.lt_add_one, Bool.false_eq_true, Bool.or_false, Bool.or_true, Bool.or_self, Nat.zero_ne_one, Nat.one_ne_zero, ite_true, ite_false, ne_eq, Nat.reduceSub, Nat.succ_eq_add_one, Nat.zero_lt_succ, Nat.add_one_ne_zero, false_or, or_false, mX7_nails_c, mX7_nails_n, mX7_nails_r, mX7_nails_l, dX7_nails_0, ic_0, dX7_nails_1, dX7_nails_2, dX7_nails_3, dX7_nails_4, dX7_nails_5, ic_4, dX7_nails_6, tg_6_33, cnd2_ge, dX7_nails_9, dX7_nails_10, dX7_nails_11, fl_7_17_7, dX7_nails_14, bc_20, dX7_nails_16, dX7_nails_17, dX7_nails_18, dX7_nails_19, bc_m4, dX7_nails_21, tg_21_9, cnd2_ne, dX7_nails_24, ic_1, dX7_nails_25, dX7_nails_26, dX7_nails_27, tg_27_4, dX7_nails_30, dX7_nails_31, dX7_nails_32, dX7_nails_33, dX7_nails_36, tg_36_m32, dX7_nails_39, dX7_nails_40, st_aload_n, st_bipush, st_getfield, st_goto, st_iadd, st_iaload, st_iconst, st_if_icmp, st_iinc, st_iload_n, st_ior, st_ireturn, st_ishl, st_istore_n]
      refine ⟨fun c => ?_, fun c => ?_⟩
      · rw [kset, if_neg c] at hj1
        exact hj1
      · rw [kset, if_pos (Classical.not_not.mp c)] at hj1
        exact hj1
  refine ⟨Nat.le_of_ble_eq_true rfl, yvc_ok (uX7_nails Γ) (S := [4]) 40 _ _ _ _ ?_⟩
  simp only [lv_args, Value.category, yvc_s, s1i, s2i, s1l, s2l, sil, s1r, sir, siir, slir, srir, svr, sd1, sd2, lg, lput, ldel, isL_i, isL_r, isL_l, jmp, obj, obj1, fI, fR, arI, arL, arR, hput, f4_0, f4_1, f4_2, f4_3, lc_0, lc_1, rok_i, rok_b, rok_y, strF, fput_1, fput_2, csum_nil, csum_i, csum_l, csum_r, va_up_self, bx_uu, Int.reduceAdd, List.elem_nil, List.elem_cons, List.take_succ_cons, List.take_zero, List.drop_succ_cons, List.drop_zero, List.take_nil, List.drop_nil, List.reverse_cons, List.reverse_nil, List.nil_append, List.cons_append, List.append_nil, Option.toList_some, Option.toList_none, List.getElem?_cons_zero, List.getElem?_cons_succ, List.set_cons_zero, List.set_cons_succ, List.length_cons, List.length_nil, reduceIte, reduceCtorEq, and_true, true_and, and_self, or_true, true_or, false_and, and_false, not_true_eq_false, not_false_eq_true, true_implies, false_implies, implies_true, Nat.reduceAdd, Nat.reduceLT, Nat.reduceEqDiff, Nat.reduceLeDiff, Nat.reduceBEq, Nat.zero_add, Nat.lt_add_one, Bool.false_eq_true, Bool.or_false, Bool.or_true, Bool.or_self, Nat.zero_ne_one, Nat.one_ne_zero, ite_true, ite_false, ne_eq, Nat.reduceSub, Nat.succ_eq_add_one, Nat.zero_lt_succ, Nat.add_one_ne_zero, false_or, or_false, mX7_nails_c, mX7_nails_n, mX7_nails_r, mX7_nails_l, dX7_nails_0, ic_0, dX7_nails_1, dX7_nails_2, dX7_nails_3, dX7_nails_4, dX7_nails_5, ic_4, dX7_nails_6, tg_6_33, cnd2_ge, dX7_nails_9, dX7_nails_10, dX7_nails_11, fl_7_17_7, dX7_nails_14, bc_20, dX7_nails_16, dX7_nails_17, dX7_nails_18, dX7_nails_19, bc_m4, dX7_nails_21, tg_21_9, cnd2_ne, dX7_nails_24, ic_1, dX7_nails_25, dX7_nails_26, dX7_nails_27, tg_27_4, dX7_nails_30, dX7_nails_31, dX7_nails_32, dX7_nails_33, dX7_nails_36, tg_36_m32, dX7_nails_39, dX7_nails_40, st_aload_n, st_bipush, st_getfield, st_goto, st_iadd, st_iaload, st_iconst, st_if_icmp, st_iinc, st_iload_n, st_ior, st_ireturn, st_ishl, st_istore_n]
  exact loop 4 0 rfl
def sp_X7_keepers (Γ : Cx) : YSp := mp Γ [] (fun _ => True) (fun s => kany (fun d => s.2.1 3 (20 + d)) 4)
theorem rv_X7_keepers {Γ : Cx} : Recv (sp_X7_keepers Γ) 0 7 := by
  intro av σ K h
  obtain ⟨q, fs, h1, h2, h3⟩ := rv_mp h
  exact ⟨q, _, fs, h1, rfl, h2, h3⟩
theorem tg_6_41 : tgo 6 41 = some 47 := by decide
theorem tg_21_7 : tgo 21 7 = some 28 := by decide
theorem tg_25_14 : tgo 25 14 = some 39 := by decide
theorem tg_44_m40 : tgo 44 (-40) = some 4 := by decide
def mX7_keepers : Mt := (⟨0, 0, 0, 0⟩, RX7, cX7_keepers, 3, some .int, (0, 0), none)
theorem mX7_keepers_c : mX7_keepers.2.2.1 = cX7_keepers := rfl
theorem mX7_keepers_n : mX7_keepers.2.2.2.1 = 3 := rfl
theorem mX7_keepers_r : mX7_keepers.2.2.2.2.1 = some .int := rfl
theorem mX7_keepers_l : mX7_keepers.2.2.2.2.2.2 = none := rfl
def jX7_keepers (Γ : Cx) : List ((Nat × Nat) × Nat × Bool × YSp) := []
theorem uX7_keepers (Γ : Cx) : TbOK Γ mX7_keepers (fT fX7, cT kX7, kT (jX7_keepers Γ)) := tb_ok fX7_ok kX7_ok (all_nil)
set_option maxRecDepth 20000 in
theorem ok_X7_keepers (Γ : Cx) : Ok Γ yX7_keepers mX7_keepers (sp_X7_keepers Γ) := by
  refine ok_intro (by decide +kernel) rfl rfl ?_
  intro av σ K h
  obtain ⟨lab, ⟨a, ad⟩, ⟨sc, ar, it⟩, rfl, hM, -, h⟩ := h
  simp only at h hM
  obtain ⟨⟨m1, -⟩, e1, -⟩ := id hM
  obtain ⟨m3, e3⟩ := hM.arr 3 rfl
  simp only [ME, iA, lenM] at m1 e1 m3 e3
  have loop : ∀ n j : Nat, j + n = 4 → YG Γ mX7_keepers K 4 [(0, .ref a), (1, .int (kany (fun d => ar 3 (20 + d)) j)), (2, .int (nI j))] [] σ := by
    intro n
    induction n with
    | zero =>
      intro j hj
      obtain rfl : j = 4 := by omega
      refine yvc1_ok (uX7_keepers Γ) (S := [4]) 40 ?_
      simp only [yvc1, ge4, yvc_s, s1i, s2i, s1l, s2l, sil, s1r, sir, siir, slir, srir, svr, sd1, sd2, lg, lput, ldel, isL_i, isL_r, isL_l, jmp, obj, obj1, fI, fR, arI, arL, arR, hput, f4_0, f4_1, f4_2, f4_3, lc_0, lc_1, rok_i, rok_b, rok_y, strF, fput_1, fput_2, csum_nil, csum_i, csum_l, csum_r, va_up_self, bx_uu, Int.reduceAdd, List.elem_nil, List.elem_cons, List.take_succ_cons, List.take_zero, List.drop_succ_cons, List.drop_zero, List.take_nil, List.drop_nil, List.reverse_cons, List.reverse_nil, List.nil_append, List.cons_append, List.append_nil, Option.toList_some, Option.toList_none, List.getElem?_cons_zero, List.getElem?_cons_succ, List.set_cons_zero, List.set_cons_succ, List.length_cons, List.length_nil, reduceIte, reduceCtorEq, and_true, true_and, and_self, or_true, true_or, false_and, and_false, not_true_eq_false, not_false_eq_true, true_implies, false_implies, implies_true, Nat.reduceAdd, Nat.reduceLT, Nat.reduceEqDiff, Nat.reduceLeDiff, Nat.reduceBEq, Nat.zero_add, Nat.lt_add_one, Bool.false_eq_true, Bool.or_false, Bool.or_true, Bool.or_self, Nat.zero_ne_one, Nat.one_ne_zero, ite_true, ite_false, ne_eq, Nat.reduceSub, Nat.succ_eq_add_one, Nat.zero_lt_succ, Nat.add_one_ne_zero, false_or, or_false, mX7_keepers_c, mX7_keepers_n, mX7_keepers_r, mX7_keepers_l, dX7_keepers_0, ic_0, dX7_keepers_1, dX7_keepers_2, dX7_keepers_3, dX7_keepers_4, dX7_keepers_5, ic_4, dX7_keepers_6, tg_6_41, cnd2_ge, dX7_keepers_9, dX7_keepers_10, dX7_keepers_11, fl_7_17_7, dX7_keepers_14, bc_20, dX7_keepers_16, dX7_keepers_17, dX7_keepers_18, dX7_keepers_19, bc_m4, dX7_keepers_21, tg_21_7, cnd2_ne, dX7_keepers_24, dX7_keepers_25, tg_25_14, dX7_keepers_28, ic_1, dX7_keepers_29, dX7_keepers_30, dX7_keepers_33, dX7_keepers_35, dX7_keepers_36, dX7_keepers_37, dX7_keepers_38, dX7_keepers_39, dX7_keepers_40, dX7_keepers_41, dX7_keepers_44, tg_44_m40, dX7_keepers_47, dX7_keepers_48, st_aload_n, st_bipush, st_getfield, st_goto, st_iadd, st_iaload, st_iconst, st_if_icmp, st_iinc, st_iload_n, st_ior, st_ireturn, st_ishl, st_istore_n]
      exact h
    | succ n ih =>
      intro j hj
      obtain ⟨c1, -, -⟩ := lt4 (show j < 4 by omega)
      obtain ⟨c2, c3⟩ := ix20 (show j < 4 by omega)
      have hj1 := ih (j + 1) (by omega)
      refine yvc1_ok (uX7_keepers Γ) (S := [4]) 40 ?_
      simp only [yvc1, c1, c2, c3, m1, m3, e1, e3, nI_1, or0, yvc_s, s1i, s2i, s1l, s2l, sil, s1r, sir, siir, slir, srir, svr, sd1, sd2, lg, lput, ldel, isL_i, isL_r, isL_l, jmp, obj, obj1, fI, fR, arI, arL, arR, hput, f4_0, f4_1, f4_2, f4_3, lc_0, lc_1, rok_i, rok_b, rok_y, strF, fput_1, fput_2, csum_nil, csum_i, csum_l, csum_r, va_up_self, bx_uu, Int.reduceAdd, List.elem_nil, List.elem_cons, List.take_succ_cons, List.take_zero, List.drop_succ_cons, List.drop_zero, List.take_nil, List.drop_nil, List.reverse_cons, List.reverse_nil, List.nil_append, List.cons_append, List.append_nil, Option.toList_some, Option.toList_none, List.getElem?_cons_zero, List.getElem?_cons_succ, List.set_cons_zero, List.set_cons_succ, List.length_cons, List.length_nil, reduceIte, reduceCtorEq, and_true, true_and, and_self, or_true, true_or, false_and, and_false, not_true_eq_false, not_false_eq_true, true_implies, false_implies, implies_true, Nat.reduceAdd, Nat.reduceLT, Nat.reduceEqDiff, Nat.reduceLeDiff, Nat.reduceBEq, Nat.zero_add, Nat.lt_add_one, Bool.false_eq_true, Bool.or_false, Bool.or_true, Bool.or_self, Nat.zero_ne_one, Nat.one_ne_zero, ite_true, ite_false, ne_eq, Nat.reduceSub, Nat.succ_eq_add_one, Nat.zero_lt_succ, Nat.add_one_ne_zero, false_or, or_false, mX7_keepers_c, mX7_keepers_n, mX7_keepers_r, mX7_keepers_l, dX7_keepers_0, ic_0, dX7_keepers_1, dX7_keepers_2, dX7_keepers_3, dX7_keepers_4, dX7_keepers_5, ic_4, dX7_keepers_6, tg_6_41, cnd2_ge, dX7_keepers_9, dX7_keepers_10, dX7_keepers_11, fl_7_17_7, dX7_keepers_14, bc_20, dX7_keepers_16, dX7_keepers_17, dX7_keepers_18, dX7_keepers_19, bc_m4, dX7_keepers_21, tg_21_7, cnd2_ne, dX7_keepers_24, dX7_keepers_25, tg_25_14, dX7_keepers_28, ic_1, dX7_keepers_29, dX7_keepers_30, dX7_keepers_33, dX7_keepers_35, dX7_keepers_36, dX7_keepers_37, dX7_keepers_38, dX7_keepers_39, dX7_keepers_40, dX7_keepers_41, dX7_keepers_44, tg_44_m40, dX7_keepers_47, dX7_keepers_48, st_aload_n, st_bipush, st_getfield, st_goto, st_iadd, st_iaload, st_iconst, st_if_icmp, st_iinc, st_iload_n, st_ior, st_ireturn, st_ishl, st_istore_n]
      refine ⟨fun c => ?_, fun c => ?_⟩
      · rw [kany, kas, if_neg c] at hj1
        exact hj1
      · rw [kany, kas, if_pos (Classical.not_not.mp c), or0] at hj1
        exact hj1
  refine ⟨Nat.le_of_ble_eq_true rfl, yvc_ok (uX7_keepers Γ) (S := [4]) 40 _ _ _ _ ?_⟩
  simp only [lv_args, Value.category, yvc_s, s1i, s2i, s1l, s2l, sil, s1r, sir, siir, slir, srir, svr, sd1, sd2, lg, lput, ldel, isL_i, isL_r, isL_l, jmp, obj, obj1, fI, fR, arI, arL, arR, hput, f4_0, f4_1, f4_2, f4_3, lc_0, lc_1, rok_i, rok_b, rok_y, strF, fput_1, fput_2, csum_nil, csum_i, csum_l, csum_r, va_up_self, bx_uu, Int.reduceAdd, List.elem_nil, List.elem_cons, List.take_succ_cons, List.take_zero, List.drop_succ_cons, List.drop_zero, List.take_nil, List.drop_nil, List.reverse_cons, List.reverse_nil, List.nil_append, List.cons_append, List.append_nil, Option.toList_some, Option.toList_none, List.getElem?_cons_zero, List.getElem?_cons_succ, List.set_cons_zero, List.set_cons_succ, List.length_cons, List.length_nil, reduceIte, reduceCtorEq, and_true, true_and, and_self, or_true, true_or, false_and, and_false, not_true_eq_false, not_false_eq_true, true_implies, false_implies, implies_true, Nat.reduceAdd, Nat.reduceLT, Nat.reduceEqDiff, Nat.reduceLeDiff, Nat.reduceBEq, Nat.zero_add, Nat.lt_add_one, Bool.false_eq_true, Bool.or_false, Bool.or_true, Bool.or_self, Nat.zero_ne_one, Nat.one_ne_zero, ite_true, ite_false, ne_eq, Nat.reduceSub, Nat.succ_eq_add_one, Nat.zero_lt_succ, Nat.add_one_ne_zero, false_or, or_false, mX7_keepers_c, mX7_keepers_n, mX7_keepers_r, mX7_keepers_l, dX7_keepers_0, ic_0, dX7_keepers_1, dX7_keepers_2, dX7_keepers_3, dX7_keepers_4, dX7_keepers_5, ic_4, dX7_keepers_6, tg_6_41, cnd2_ge, dX7_keepers_9, dX7_keepers_10, dX7_keepers_11, fl_7_17_7, dX7_keepers_14, bc_20, dX7_keepers_16, dX7_keepers_17, dX7_keepers_18, dX7_keepers_19, bc_m4, dX7_keepers_21, tg_21_7, cnd2_ne, dX7_keepers_24, dX7_keepers_25, tg_25_14, dX7_keepers_28, ic_1, dX7_keepers_29, dX7_keepers_30, dX7_keepers_33, dX7_keepers_35, dX7_keepers_36, dX7_keepers_37, dX7_keepers_38, dX7_keepers_39, dX7_keepers_40, dX7_keepers_41, dX7_keepers_44, tg_44_m40, dX7_keepers_47, dX7_keepers_48, st_aload_n, st_bipush, st_getfield, st_goto, st_iadd, st_iaload, st_iconst, st_if_icmp, st_iinc, st_iload_n, st_ior, st_ireturn, st_ishl, st_istore_n]
  exact loop 4 0 rfl
