/-! ===== YawnKeys: sheets ===== -/
def ShI (ss : Nat → SS) : Prop := ∀ j, j < 4 → (ss j).2.2 = -1 ∨ ∃ z, z ≤ 24 ∧ (ss j).2.2 = nI z
def PXS (ψ : XS) : Prop := WfC ψ.1 ∧ ShI ψ.2.2.2.2.2.2
theorem in4q {q : Nat} (h : q < 4) : vp_in (nI q) 4 ∧ (nI q).toNatClampNeg = q := ⟨(lt4 h).2.1, (lt4 h).2.2⟩
def setS (ψ : XS) (j : Nat) (s : SS) : XS := (ψ.1, ψ.2.1, ψ.2.2.1, ψ.2.2.2.1, ψ.2.2.2.2.1, ψ.2.2.2.2.2.1, updS ψ.2.2.2.2.2.2 j s)
def x_sheet (a b c : Int32) (ψ : XS) : XS × Int32 := if inr a 0 3 = true ∧ inr b 0 3 = true ∧ c ≤ 24 then (if 0 ≤ c then (setS ψ a.toNatClampNeg (zer (ψ.2.2.2.2.2.2 a.toNatClampNeg).1 24, b, c), c) else (ψ, -14)) else (ψ, -1)
def sp_X6_sheet (Γ : Cx) : YSp := fun av σ K => ∃ a b c : Int32, xq Γ [.int a, .int b, .int c] (fn (x_sheet a b c)) PXS av σ K
theorem rv_X6_sheet {Γ : Cx} : Recv (sp_X6_sheet Γ) 3 6 := by
  intro av σ K h
  obtain ⟨a, b, c, h⟩ := h
  obtain ⟨q, fs, h1, h2, h3⟩ := rv_xq h
  exact ⟨q, _, fs, h1, rfl, h2, h3⟩
theorem bw_643 : Cond.code yX6_isSheet cX6_isSheet 1 (some .boolean) ∈ BW := bw_i 643 (by decide +kernel) (by decide +kernel)
theorem no_X6_isSheet : NameOK yX6_isSheet 1 := by unfold NameOK; decide +kernel
theorem bw_641 : Cond.methodLink RX6 190 yX6_isSheet ∈ BW := bw_i 641 (by decide +kernel) (by decide +kernel)
theorem bw_642 : Cond.static yX6_isSheet ∈ BW := bw_i 642 (by decide +kernel) (by decide +kernel)
theorem bw_646 : Cond.code yX6_isLane cX6_isLane 1 (some .boolean) ∈ BW := bw_i 646 (by decide +kernel) (by decide +kernel)
theorem no_X6_isLane : NameOK yX6_isLane 1 := by unfold NameOK; decide +kernel
theorem bw_644 : Cond.methodLink RX6 193 yX6_isLane ∈ BW := bw_i 644 (by decide +kernel) (by decide +kernel)
theorem bw_645 : Cond.static yX6_isLane ∈ BW := bw_i 645 (by decide +kernel) (by decide +kernel)
theorem bw_685 : Cond.code yX4_renew cX4_renew 4 none ∈ BW := bw_i 685 (by decide +kernel) (by decide +kernel)
theorem no_X4_renew : NameOK yX4_renew 2 := by unfold NameOK; decide +kernel
theorem bw_682 : Cond.methodLink RX6 212 yX4_renew ∈ BW := bw_i 682 (by decide +kernel) (by decide +kernel)
theorem bw_683 : Cond.instanceMethod yX4_renew ∈ BW := bw_i 683 (by decide +kernel) (by decide +kernel)
theorem bw_684 : Cond.selects RX4 yX4_renew yX4_renew ∈ BW := bw_i 684 (by decide +kernel) (by decide +kernel)
theorem tg_4_16 : tgo 4 16 = some 20 := by decide
theorem tg_11_9 : tgo 11 9 = some 20 := by decide
theorem tg_23_6 : tgo 23 6 = some 29 := by decide
theorem bc_m14 : (Int8.ofInt (-14)).toInt32 = (-14) := by decide
def mX6_sheet : Mt := (⟨2, 0, 0, 42⟩, RX6, cX6_sheet, 4, some .int, (0, 0), none)
theorem mX6_sheet_c : mX6_sheet.2.2.1 = cX6_sheet := rfl
theorem mX6_sheet_n : mX6_sheet.2.2.2.1 = 4 := rfl
theorem mX6_sheet_r : mX6_sheet.2.2.2.2.1 = some .int := rfl
theorem mX6_sheet_l : mX6_sheet.2.2.2.2.2.2 = none := rfl
def jX6_sheet (Γ : Cx) : List ((Nat × Nat) × Nat × Bool × YSp) := [((1, 190), 1, true, sp_X6_isSheet Γ), ((1, 193), 1, true, sp_X6_isLane Γ), ((0, 212), 3, false, sp_X4_renew Γ)]
theorem jX6_sheet_1_190 (Γ : Cx) : kT (jX6_sheet Γ) 1 190 = some (1, true, sp_X6_isSheet Γ) := rfl
theorem jX6_sheet_1_193 (Γ : Cx) : kT (jX6_sheet Γ) 1 193 = some (1, true, sp_X6_isLane Γ) := rfl
theorem jX6_sheet_0_212 (Γ : Cx) : kT (jX6_sheet Γ) 0 212 = some (3, false, sp_X4_renew Γ) := rfl
theorem uX6_sheet (Γ : Cx) : TbOK Γ mX6_sheet (fT fX6, cT kX6, kT (jX6_sheet Γ)) := tb_ok fX6_ok kX6_ok (all_cons ⟨call_S (n := 1) (ok_X6_isSheet Γ) (rv_X6_isSheet (Γ := Γ)) bw_643 bw_641 bw_642 bw_42 no_X6_isSheet ⟨⟨rfl, rfl⟩, ⟨by decide, by decide⟩, ⟨by decide, by decide⟩⟩, fun _ => mono_X6_isSheet (Γ := Γ)⟩ (all_cons ⟨call_S (n := 1) (ok_X6_isLane Γ) (rv_X6_isLane (Γ := Γ)) bw_646 bw_644 bw_645 bw_42 no_X6_isLane ⟨⟨rfl, rfl⟩, ⟨by decide, by decide⟩, ⟨by decide, by decide⟩⟩, fun _ => mono_X6_isLane (Γ := Γ)⟩ (all_cons ⟨call_V (n := 2) (T := TX4) (N := 3) (ok_X4_renew Γ) (rv_X4_renew (Γ := Γ)) rfl bw_685 bw_682 bw_683 bw_684 bw_48 no_X4_renew ⟨⟨rfl, rfl⟩, ⟨by decide, by decide⟩, ⟨by decide, by decide⟩⟩, fun z => by cases z⟩ (all_nil))))
set_option maxRecDepth 20000 in
theorem ok_X6_sheet (Γ : Cx) : Ok Γ yX6_sheet mX6_sheet (sp_X6_sheet Γ) := by
  refine ok_intro (by decide +kernel) rfl rfl ?_
  intro av σ K h
  obtain ⟨a, b, c, lab, X, ψ, rfl, hW, hpre, h⟩ := h
  obtain ⟨x, sh, ⟨n0, n1, n2, n3⟩, ⟨t0, t1, t2, t3⟩, p, ⟨i0, i1, i2, i3⟩, ip, ⟨ta, tl⟩, ⟨pa, pk⟩, S⟩ := X
  obtain ⟨⟨w, kp, kd, day, gone, draw, P, rule, gd⟩, si, ⟨pc, pn⟩, ⟨qc, qn⟩, hi, ⟨l, len⟩, ss⟩ := ψ
  have hW0 := hW
  obtain ⟨⟨x1, x2, x3, x4⟩, x5, ⟨sf, x6, x7⟩, ⟨cN, lN⟩, ⟨⟨t, cT⟩, lT⟩, pP, ⟨cI, lI⟩, pI, ⟨⟨pl, tT⟩, lTp, hlen⟩, ⟨⟨pls, pPl⟩, lPl⟩, hS⟩ := hW
  simp only at cN lN cT lT pP cI lI pI tT lTp hlen pPl lPl hS x6 x7
  obtain ⟨⟨m1, m2, m3, m4⟩, e1, e2, e3, e4⟩ := id cN
  simp only [XE, ColE, iA] at x1 x2 x5 m1 m2 m3 m4 e1 e2 e3 e4
  unfold fn x_sheet at h
  simp only at h
  have hno : ¬ (inr a 0 3 = true ∧ inr b 0 3 = true ∧ c ≤ 24) → K (some (.int (-1))) σ := fun z => by
    rw [if_neg z] at h
    exact h σ _ _ rfl frm.rf hW0
  simp only [shA] at x6
  refine ⟨Nat.le_of_ble_eq_true rfl, yvc_ok (uX6_sheet Γ) (S := []) 60 _ _ _ _ ?_⟩
  simp only [lv_args, Value.category, x1, x2, x5, x6, sp_X6_isSheet, sp_X6_isLane, sp_X6_isDoor, bI_eq0, Bool.not_eq_false, yvc_s, s1i, s2i, s1l, s2l, sil, s1r, sir, siir, slir, srir, svr, sd1, sd2, lg, lput, ldel, isL_i, isL_r, isL_l, jmp, obj, obj1, fI, fR, arI, arL, arR, hput, f4_0, f4_1, f4_2, f4_3, lc_0, lc_1, rok_i, rok_b, rok_y, strF, fput_1, fput_2, csum_nil, csum_i, csum_l, csum_r, va_up_self, bx_uu, Int.reduceAdd, List.elem_nil, List.elem_cons, List.take_succ_cons, List.take_zero, List.drop_succ_cons, List.drop_zero, List.take_nil, List.drop_nil, List.reverse_cons, List.reverse_nil, List.nil_append, List.cons_append, List.append_nil, Option.toList_some, Option.toList_none, List.getElem?_cons_zero, List.getElem?_cons_succ, List.set_cons_zero, List.set_cons_succ, List.length_cons, List.length_nil, reduceIte, reduceCtorEq, and_true, true_and, and_self, or_true, true_or, false_and, and_false, not_true_eq_false, not_false_eq_true, true_implies, false_implies, implies_true, Nat.reduceAdd, Nat.reduceLT, Nat.reduceEqDiff, Nat.reduceLeDiff, Nat.reduceBEq, Nat.zero_add, Nat.lt_add_one, Bool.false_eq_true, Bool.or_false, Bool.or_true, Bool.or_self, Nat.zero_ne_one, Nat.one_ne_zero, ite_true, ite_false, ne_eq, Nat.reduceSub, Nat.succ_eq_add_one, Nat.zero_lt_succ, Nat.add_one_ne_zero, false_or, or_false, mX6_sheet_c, mX6_sheet_n, mX6_sheet_r, mX6_sheet_l, dX6_sheet_0, dX6_sheet_1, dX6_sheet_4, tg_4_16, cnd1_eq, dX6_sheet_7, dX6_sheet_8, dX6_sheet_11, tg_11_9, dX6_sheet_14, dX6_sheet_15, bc_24, dX6_sheet_17, tg_17_5, cnd2_le, dX6_sheet_20, ic_m1, dX6_sheet_21, dX6_sheet_22, dX6_sheet_23, tg_23_6, cnd1_ge, dX6_sheet_26, bc_m14, dX6_sheet_28, dX6_sheet_29, dX6_sheet_30, fl_6_53_6, dX6_sheet_33, dX6_sheet_34, dX6_sheet_35, dX6_sheet_36, dX6_sheet_37, dX6_sheet_40, dX6_sheet_41, jX6_sheet_1_190, jX6_sheet_1_193, jX6_sheet_0_212, st_aaload, st_aload_n, st_bipush, st_getfield, st_iconst, st_ifCond, st_if_icmp, st_iload_n, st_invokestatic, st_invokevirtual, st_ireturn]
  refine ⟨fun c1 => hno (fun z => by rw [c1] at z; cases z.1), fun c1 => ⟨fun c2 => hno (fun z => by rw [c2] at z; cases z.2.1), fun c2 => ⟨fun c3 => ⟨fun c4 => ?_, fun c4 => ?_⟩, fun c3 => hno (fun z => c3 z.2.2)⟩⟩⟩
  · rw [if_pos ⟨c1, c2, c3⟩, if_pos c4] at h
    obtain ⟨q, hq, rfl⟩ := door_n c1
    obtain ⟨d2, d3⟩ := in4q hq
    rw [d3] at h ⊢
    rw [x7 q hq]
    obtain ⟨hS1, hl1⟩ := hS q hq
    refine ⟨d2, S q, ss q, b, c, rfl, hS1, ?_⟩
    have hf : frm (fL lab (8 + q)) σ (shset Γ (S q) (zer (ss q).1 24, b, c) σ) := shset_frm.mono hl1
    have hW1 := hW0.sS hq hf (hS1.set (zer (ss q).1 24, b, c))
    have hk := h _ _ _ rfl (frmX hf (by omega)) hW1
    refine yvc_ok (uX6_sheet Γ) (S := []) 60 _ _ _ _ ?_
    simp only [yvc_s, s1i, s2i, s1l, s2l, sil, s1r, sir, siir, slir, srir, svr, sd1, sd2, lg, lput, ldel, isL_i, isL_r, isL_l, jmp, obj, obj1, fI, fR, arI, arL, arR, hput, f4_0, f4_1, f4_2, f4_3, lc_0, lc_1, rok_i, rok_b, rok_y, strF, fput_1, fput_2, csum_nil, csum_i, csum_l, csum_r, va_up_self, bx_uu, Int.reduceAdd, List.elem_nil, List.elem_cons, List.take_succ_cons, List.take_zero, List.drop_succ_cons, List.drop_zero, List.take_nil, List.drop_nil, List.reverse_cons, List.reverse_nil, List.nil_append, List.cons_append, List.append_nil, Option.toList_some, Option.toList_none, List.getElem?_cons_zero, List.getElem?_cons_succ, List.set_cons_zero, List.set_cons_succ, List.length_cons, List.length_nil, reduceIte, reduceCtorEq, and_true, true_and, and_self, or_true, true_or, false_and, and_false, not_true_eq_false, not_false_eq_true, true_implies, false_implies, implies_true, Nat.reduceAdd, Nat.reduceLT, Nat.reduceEqDiff, Nat.reduceLeDiff, Nat.reduceBEq, Nat.zero_add, Nat.lt_add_one, Bool.false_eq_true, Bool.or_false, Bool.or_true, Bool.or_self, Nat.zero_ne_one, Nat.one_ne_zero, ite_true, ite_false, ne_eq, Nat.reduceSub, Nat.succ_eq_add_one, Nat.zero_lt_succ, Nat.add_one_ne_zero, false_or, or_false, mX6_sheet_c, mX6_sheet_n, mX6_sheet_r, mX6_sheet_l, dX6_sheet_0, dX6_sheet_1, dX6_sheet_4, tg_4_16, cnd1_eq, dX6_sheet_7, dX6_sheet_8, dX6_sheet_11, tg_11_9, dX6_sheet_14, dX6_sheet_15, bc_24, dX6_sheet_17, tg_17_5, cnd2_le, dX6_sheet_20, ic_m1, dX6_sheet_21, dX6_sheet_22, dX6_sheet_23, tg_23_6, cnd1_ge, dX6_sheet_26, bc_m14, dX6_sheet_28, dX6_sheet_29, dX6_sheet_30, fl_6_53_6, dX6_sheet_33, dX6_sheet_34, dX6_sheet_35, dX6_sheet_36, dX6_sheet_37, dX6_sheet_40, dX6_sheet_41, jX6_sheet_1_190, jX6_sheet_1_193, jX6_sheet_0_212, st_aaload, st_aload_n, st_bipush, st_getfield, st_iconst, st_ifCond, st_if_icmp, st_iload_n, st_invokestatic, st_invokevirtual, st_ireturn]
    exact hk
  · rw [if_pos ⟨c1, c2, c3⟩, if_neg c4] at h
    exact h σ _ _ rfl frm.rf hW0
def x_drop (a : Int32) (ψ : XS) : XS × Int32 := if inr a 0 3 = true then (if (ψ.2.2.2.2.2.2 a.toNatClampNeg).2.2 = -1 then (ψ, -11) else (setS ψ a.toNatClampNeg ((ψ.2.2.2.2.2.2 a.toNatClampNeg).1, (ψ.2.2.2.2.2.2 a.toNatClampNeg).2.1, -1), (ψ.2.2.2.2.2.2 a.toNatClampNeg).2.2)) else (ψ, -1)
def sp_X6_drop (Γ : Cx) : YSp := fun av σ K => ∃ a : Int32, xq Γ [.int a] (fn (x_drop a)) PXS av σ K
theorem rv_X6_drop {Γ : Cx} : Recv (sp_X6_drop Γ) 1 6 := by
  intro av σ K h
  obtain ⟨a, h⟩ := h
  obtain ⟨q, fs, h1, h2, h3⟩ := rv_xq h
  exact ⟨q, _, fs, h1, rfl, h2, h3⟩
theorem bw_690 : Cond.methodLink RX6 216 yX4_isMissing ∈ BW := bw_i 690 (by decide +kernel) (by decide +kernel)
theorem bw_694 : Cond.code yX4_empty cX4_empty 2 (some .int) ∈ BW := bw_i 694 (by decide +kernel) (by decide +kernel)
theorem no_X4_empty : NameOK yX4_empty 0 := by unfold NameOK; decide +kernel
theorem bw_691 : Cond.methodLink RX6 220 yX4_empty ∈ BW := bw_i 691 (by decide +kernel) (by decide +kernel)
theorem bw_692 : Cond.instanceMethod yX4_empty ∈ BW := bw_i 692 (by decide +kernel) (by decide +kernel)
theorem bw_693 : Cond.selects RX4 yX4_empty yX4_empty ∈ BW := bw_i 693 (by decide +kernel) (by decide +kernel)
theorem tg_18_6 : tgo 18 6 = some 24 := by decide
def mX6_drop : Mt := (⟨2, 0, 0, 42⟩, RX6, cX6_drop, 2, some .int, (0, 0), none)
theorem mX6_drop_c : mX6_drop.2.2.1 = cX6_drop := rfl
theorem mX6_drop_n : mX6_drop.2.2.2.1 = 2 := rfl
theorem mX6_drop_r : mX6_drop.2.2.2.2.1 = some .int := rfl
theorem mX6_drop_l : mX6_drop.2.2.2.2.2.2 = none := rfl
def jX6_drop (Γ : Cx) : List ((Nat × Nat) × Nat × Bool × YSp) := [((1, 190), 1, true, sp_X6_isSheet Γ), ((0, 216), 1, true, sp_X4_isMissing Γ), ((0, 220), 1, false, sp_X4_empty Γ)]
theorem jX6_drop_1_190 (Γ : Cx) : kT (jX6_drop Γ) 1 190 = some (1, true, sp_X6_isSheet Γ) := rfl
theorem jX6_drop_0_216 (Γ : Cx) : kT (jX6_drop Γ) 0 216 = some (1, true, sp_X4_isMissing Γ) := rfl
theorem jX6_drop_0_220 (Γ : Cx) : kT (jX6_drop Γ) 0 220 = some (1, false, sp_X4_empty Γ) := rfl
theorem uX6_drop (Γ : Cx) : TbOK Γ mX6_drop (fT fX6, cT kX6, kT (jX6_drop Γ)) := tb_ok fX6_ok kX6_ok (all_cons ⟨call_S (n := 1) (ok_X6_isSheet Γ) (rv_X6_isSheet (Γ := Γ)) bw_643 bw_641 bw_642 bw_42 no_X6_isSheet ⟨⟨rfl, rfl⟩, ⟨by decide, by decide⟩, ⟨by decide, by decide⟩⟩, fun _ => mono_X6_isSheet (Γ := Γ)⟩ (all_cons ⟨call_V (n := 0) (T := TX4) (N := 3) (ok_X4_isMissing Γ) (rv_X4_isMissing (Γ := Γ)) rfl bw_654 bw_690 bw_652 bw_653 bw_48 no_X4_isMissing ⟨⟨rfl, rfl⟩, ⟨by decide, by decide⟩, ⟨by decide, by decide⟩⟩, fun _ => mono_X4_isMissing (Γ := Γ)⟩ (all_cons ⟨call_V (n := 0) (T := TX4) (N := 3) (ok_X4_empty Γ) (rv_X4_empty (Γ := Γ)) rfl bw_694 bw_691 bw_692 bw_693 bw_48 no_X4_empty ⟨⟨rfl, rfl⟩, ⟨by decide, by decide⟩, ⟨by decide, by decide⟩⟩, fun z => by cases z⟩ (all_nil))))
set_option maxRecDepth 20000 in
theorem ok_X6_drop (Γ : Cx) : Ok Γ yX6_drop mX6_drop (sp_X6_drop Γ) := by
  refine ok_intro (by decide +kernel) rfl rfl ?_
  intro av σ K h
  obtain ⟨a, lab, X, ψ, rfl, hW, hpre, h⟩ := h
  obtain ⟨x, sh, ⟨n0, n1, n2, n3⟩, ⟨t0, t1, t2, t3⟩, p, ⟨i0, i1, i2, i3⟩, ip, ⟨ta, tl⟩, ⟨pa, pk⟩, S⟩ := X
  obtain ⟨⟨w, kp, kd, day, gone, draw, P, rule, gd⟩, si, ⟨pc, pn⟩, ⟨qc, qn⟩, hi, ⟨l, len⟩, ss⟩ := ψ
  have hW0 := hW
  obtain ⟨⟨x1, x2, x3, x4⟩, x5, ⟨sf, x6, x7⟩, ⟨cN, lN⟩, ⟨⟨t, cT⟩, lT⟩, pP, ⟨cI, lI⟩, pI, ⟨⟨pl, tT⟩, lTp, hlen⟩, ⟨⟨pls, pPl⟩, lPl⟩, hS⟩ := hW
  simp only at cN lN cT lT pP cI lI pI tT lTp hlen pPl lPl hS x6 x7
  obtain ⟨⟨m1, m2, m3, m4⟩, e1, e2, e3, e4⟩ := id cN
  simp only [XE, ColE, iA] at x1 x2 x5 m1 m2 m3 m4 e1 e2 e3 e4
  unfold fn x_drop at h
  simp only at h
  simp only [shA] at x6
  by_cases c1 : inr a 0 3 = true
  · rw [if_pos c1] at h
    obtain ⟨q, hq, rfl⟩ := door_n c1
    obtain ⟨d2, d3⟩ := in4q hq
    rw [d3] at h
    obtain ⟨hS1, hl1⟩ := hS q hq
    have hx7 := x7 q hq
    obtain ⟨⟨v1, v2⟩, f1, f2⟩ := id hS1
    simp only [ShE] at f1
    refine ⟨Nat.le_of_ble_eq_true rfl, yvc_ok (uX6_drop Γ) (S := []) 60 _ _ _ _ ?_⟩
    simp only [lv_args, Value.category, x1, x2, x5, x6, d2, d3, hx7, v1, f1, c1, sp_X6_isSheet, sp_X6_isDoor, sp_X4_isMissing, bI_eq0, Bool.not_eq_false, yvc_s, s1i, s2i, s1l, s2l, sil, s1r, sir, siir, slir, srir, svr, sd1, sd2, lg, lput, ldel, isL_i, isL_r, isL_l, jmp, obj, obj1, fI, fR, arI, arL, arR, hput, f4_0, f4_1, f4_2, f4_3, lc_0, lc_1, rok_i, rok_b, rok_y, strF, fput_1, fput_2, csum_nil, csum_i, csum_l, csum_r, va_up_self, bx_uu, Int.reduceAdd, List.elem_nil, List.elem_cons, List.take_succ_cons, List.take_zero, List.drop_succ_cons, List.drop_zero, List.take_nil, List.drop_nil, List.reverse_cons, List.reverse_nil, List.nil_append, List.cons_append, List.append_nil, Option.toList_some, Option.toList_none, List.getElem?_cons_zero, List.getElem?_cons_succ, List.set_cons_zero, List.set_cons_succ, List.length_cons, List.length_nil, reduceIte, reduceCtorEq, and_true, true_and, and_self, or_true, true_or, false_and, and_false, not_true_eq_false, not_false_eq_true, true_implies, false_implies, implies_true, Nat.reduceAdd, Nat.reduceLT, Nat.reduceEqDiff, Nat.reduceLeDiff, Nat.reduceBEq, Nat.zero_add, Nat.lt_add_one, Bool.false_eq_true, Bool.or_false, Bool.or_true, Bool.or_self, Nat.zero_ne_one, Nat.one_ne_zero, ite_true, ite_false, ne_eq, Nat.reduceSub, Nat.succ_eq_add_one, Nat.zero_lt_succ, Nat.add_one_ne_zero, false_or, or_false, mX6_drop_c, mX6_drop_n, mX6_drop_r, mX6_drop_l, dX6_drop_0, dX6_drop_1, dX6_drop_4, tg_4_5, cnd1_ne, dX6_drop_7, ic_m1, dX6_drop_8, dX6_drop_9, dX6_drop_10, fl_6_53_6, dX6_drop_13, dX6_drop_14, dX6_drop_15, dX6_drop_18, tg_18_6, cnd1_eq, dX6_drop_21, bc_m11, dX6_drop_23, dX6_drop_24, dX6_drop_25, dX6_drop_28, dX6_drop_29, dX6_drop_30, dX6_drop_33, jX6_drop_1_190, jX6_drop_0_216, jX6_drop_0_220, st_aaload, st_aload_n, st_bipush, st_getfield, st_iconst, st_ifCond, st_iload_n, st_invokestatic, st_invokevirtual, st_ireturn]
    refine ⟨fun c2 => ?_, fun c2 => ?_⟩
    · rw [if_neg (of_decide_eq_false c2)] at h
      refine ⟨S q, ss q, rfl, hS1, ?_⟩
      have hf : frm (fL lab (8 + q)) σ (shset Γ (S q) ((ss q).1, (ss q).2.1, -1) σ) := shset_frm.mono hl1
      have hW1 := hW0.sS hq hf (hS1.set ((ss q).1, (ss q).2.1, -1))
      have hk := h _ _ _ rfl (frmX hf (by omega)) hW1
      refine yvc_ok (uX6_drop Γ) (S := []) 60 _ _ _ _ ?_
      simp only [yvc_s, s1i, s2i, s1l, s2l, sil, s1r, sir, siir, slir, srir, svr, sd1, sd2, lg, lput, ldel, isL_i, isL_r, isL_l, jmp, obj, obj1, fI, fR, arI, arL, arR, hput, f4_0, f4_1, f4_2, f4_3, lc_0, lc_1, rok_i, rok_b, rok_y, strF, fput_1, fput_2, csum_nil, csum_i, csum_l, csum_r, va_up_self, bx_uu, Int.reduceAdd, List.elem_nil, List.elem_cons, List.take_succ_cons, List.take_zero, List.drop_succ_cons, List.drop_zero, List.take_nil, List.drop_nil, List.reverse_cons, List.reverse_nil, List.nil_append, List.cons_append, List.append_nil, Option.toList_some, Option.toList_none, List.getElem?_cons_zero, List.getElem?_cons_succ, List.set_cons_zero, List.set_cons_succ, List.length_cons, List.length_nil, reduceIte, reduceCtorEq, and_true, true_and, and_self, or_true, true_or, false_and, and_false, not_true_eq_false, not_false_eq_true, true_implies, false_implies, implies_true, Nat.reduceAdd, Nat.reduceLT, Nat.reduceEqDiff, Nat.reduceLeDiff, Nat.reduceBEq, Nat.zero_add, Nat.lt_add_one, Bool.false_eq_true, Bool.or_false, Bool.or_true, Bool.or_self, Nat.zero_ne_one, Nat.one_ne_zero, ite_true, ite_false, ne_eq, Nat.reduceSub, Nat.succ_eq_add_one, Nat.zero_lt_succ, Nat.add_one_ne_zero, false_or, or_false, mX6_drop_c, mX6_drop_n, mX6_drop_r, mX6_drop_l, dX6_drop_0, dX6_drop_1, dX6_drop_4, tg_4_5, cnd1_ne, dX6_drop_7, ic_m1, dX6_drop_8, dX6_drop_9, dX6_drop_10, fl_6_53_6, dX6_drop_13, dX6_drop_14, dX6_drop_15, dX6_drop_18, tg_18_6, cnd1_eq, dX6_drop_21, bc_m11, dX6_drop_23, dX6_drop_24, dX6_drop_25, dX6_drop_28, dX6_drop_29, dX6_drop_30, dX6_drop_33, jX6_drop_1_190, jX6_drop_0_216, jX6_drop_0_220, st_aaload, st_aload_n, st_bipush, st_getfield, st_iconst, st_ifCond, st_iload_n, st_invokestatic, st_invokevirtual, st_ireturn]
      exact hk
    · rw [if_pos (of_decide_eq_true c2)] at h
      exact h σ _ _ rfl frm.rf hW0
  · rw [if_neg c1] at h
    refine ⟨Nat.le_of_ble_eq_true rfl, yvc_ok (uX6_drop Γ) (S := []) 60 _ _ _ _ ?_⟩
    simp only [lv_args, Value.category, c1, sp_X6_isSheet, sp_X6_isDoor, bI_eq0, Bool.not_eq_false, yvc_s, s1i, s2i, s1l, s2l, sil, s1r, sir, siir, slir, srir, svr, sd1, sd2, lg, lput, ldel, isL_i, isL_r, isL_l, jmp, obj, obj1, fI, fR, arI, arL, arR, hput, f4_0, f4_1, f4_2, f4_3, lc_0, lc_1, rok_i, rok_b, rok_y, strF, fput_1, fput_2, csum_nil, csum_i, csum_l, csum_r, va_up_self, bx_uu, Int.reduceAdd, List.elem_nil, List.elem_cons, List.take_succ_cons, List.take_zero, List.drop_succ_cons, List.drop_zero, List.take_nil, List.drop_nil, List.reverse_cons, List.reverse_nil, List.nil_append, List.cons_append, List.append_nil, Option.toList_some, Option.toList_none, List.getElem?_cons_zero, List.getElem?_cons_succ, List.set_cons_zero, List.set_cons_succ, List.length_cons, List.length_nil, reduceIte, reduceCtorEq, and_true, true_and, and_self, or_true, true_or, false_and, and_false, not_true_eq_false, not_false_eq_true, true_implies, false_implies, implies_true, Nat.reduceAdd, Nat.reduceLT, Nat.reduceEqDiff, Nat.reduceLeDiff, Nat.reduceBEq, Nat.zero_add, Nat.lt_add_one, Bool.false_eq_true, Bool.or_false, Bool.or_true, Bool.or_self, Nat.zero_ne_one, Nat.one_ne_zero, ite_true, ite_false, ne_eq, Nat.reduceSub, Nat.succ_eq_add_one, Nat.zero_lt_succ, Nat.add_one_ne_zero, false_or, or_false, mX6_drop_c, mX6_drop_n, mX6_drop_r, mX6_drop_l, dX6_drop_0, dX6_drop_1, dX6_drop_4, tg_4_5, cnd1_ne, dX6_drop_7, ic_m1, dX6_drop_8, dX6_drop_9, dX6_drop_10, fl_6_53_6, dX6_drop_13, dX6_drop_14, dX6_drop_15, dX6_drop_18, tg_18_6, cnd1_eq, dX6_drop_21, bc_m11, dX6_drop_23, dX6_drop_24, dX6_drop_25, dX6_drop_28, dX6_drop_29, dX6_drop_30, dX6_drop_33, jX6_drop_1_190, jX6_drop_0_216, jX6_drop_0_220, st_aaload, st_aload_n, st_bipush, st_getfield, st_iconst, st_ifCond, st_iload_n, st_invokestatic, st_invokevirtual, st_ireturn]
    exact h σ _ _ rfl frm.rf hW0
/-- a span that is not refused -/
theorem span_n {z i n : Int32} (hz : z = -1 ∨ ∃ k, k ≤ 24 ∧ z = nI k) (h : ¬ z = -1) (hs : spn z i n = true) : ∃ I N k, i = nI I ∧ n = nI N ∧ z = nI k ∧ I + N ≤ k ∧ k ≤ 24 := by
  rcases hz with e | ⟨k, hk, rfl⟩
  · exact absurd e h
  · unfold spn at hs
    simp only [Bool.and_eq_true, decide_eq_true_eq] at hs
    obtain ⟨h1, h2, h3⟩ := hs
    obtain ⟨N, hN, rfl⟩ := nI_of (i_nlt.mpr h1)
    obtain ⟨I, hI, rfl⟩ := nI_of (i_nlt.mpr h2)
    refine ⟨I, N, k, rfl, rfl, rfl, ?_, hk⟩
    rw [Int32.le_iff_toInt_le, nI_toInt hI, Int32.toInt_sub, nI_toInt (show k < 2 ^ 31 by omega), nI_toInt hN] at h3
    have e : ((k : Int) - (N : Int)).bmod (2 ^ 32) = (k : Int) - N := by
      rw [Int.bmod_eq_of_le] <;> omega
    rw [e] at h3
    omega
theorem rfz_0 {lane z l i n : Int32} (h : rfz lane z l i n = 0) : ¬ z = -1 ∧ l = lane ∧ spn z i n = true := by
  unfold rfz at h
  split at h
  · exact absurd h (by decide)
  · next c1 =>
    split at h
    · next c2 =>
      split at h
      · next c3 => exact ⟨c1, c2, c3⟩
      · exact absurd h (by decide)
    · exact absurd h (by decide)
def x_item (a b c : Int32) (v : Int64) (ψ : XS) : XS × Int32 := if inr a 0 3 = true ∧ inr b 0 3 = true then (if rfz (ψ.2.2.2.2.2.2 a.toNatClampNeg).2.1 (ψ.2.2.2.2.2.2 a.toNatClampNeg).2.2 b c 1 = 0 then (setS ψ a.toNatClampNeg (vp_updL (ψ.2.2.2.2.2.2 a.toNatClampNeg).1 c.toNatClampNeg (cutL (ψ.2.2.2.2.2.2 a.toNatClampNeg).2.1 v), (ψ.2.2.2.2.2.2 a.toNatClampNeg).2), 1) else (ψ, rfz (ψ.2.2.2.2.2.2 a.toNatClampNeg).2.1 (ψ.2.2.2.2.2.2 a.toNatClampNeg).2.2 b c 1)) else (ψ, -1)
def sp_X6_item (Γ : Cx) : YSp := fun av σ K => ∃ (a b c : Int32) (v : Int64), xq Γ [.int a, .int b, .int c, .long v] (fn (x_item a b c v)) PXS av σ K
theorem rv_X6_item {Γ : Cx} : Recv (sp_X6_item Γ) 4 6 := by
  intro av σ K h
  obtain ⟨a, b, c, v, h⟩ := h
  obtain ⟨q, fs, h1, h2, h3⟩ := rv_xq h
  exact ⟨q, _, fs, h1, rfl, h2, h3⟩
theorem bw_650 : Cond.code yX4_refusal cX4_refusal 4 (some .int) ∈ BW := bw_i 650 (by decide +kernel) (by decide +kernel)
theorem no_X4_refusal : NameOK yX4_refusal 3 := by unfold NameOK; decide +kernel
theorem bw_647 : Cond.methodLink RX6 196 yX4_refusal ∈ BW := bw_i 647 (by decide +kernel) (by decide +kernel)
theorem bw_648 : Cond.instanceMethod yX4_refusal ∈ BW := bw_i 648 (by decide +kernel) (by decide +kernel)
theorem bw_649 : Cond.selects RX4 yX4_refusal yX4_refusal ∈ BW := bw_i 649 (by decide +kernel) (by decide +kernel)
theorem bw_677 : Cond.code yX4_put cX4_put 4 none ∈ BW := bw_i 677 (by decide +kernel) (by decide +kernel)
theorem no_X4_put : NameOK yX4_put 2 := by unfold NameOK; decide +kernel
theorem bw_674 : Cond.methodLink RX6 208 yX4_put ∈ BW := bw_i 674 (by decide +kernel) (by decide +kernel)
theorem bw_675 : Cond.instanceMethod yX4_put ∈ BW := bw_i 675 (by decide +kernel) (by decide +kernel)
theorem bw_676 : Cond.selects RX4 yX4_put yX4_put ∈ BW := bw_i 676 (by decide +kernel) (by decide +kernel)
theorem tg_4_10 : tgo 4 10 = some 14 := by decide
theorem tg_11_5 : tgo 11 5 = some 16 := by decide
def mX6_item : Mt := (⟨2, 0, 0, 45⟩, RX6, cX6_item, 7, some .int, (0, 0), none)
theorem mX6_item_c : mX6_item.2.2.1 = cX6_item := rfl
theorem mX6_item_n : mX6_item.2.2.2.1 = 7 := rfl
theorem mX6_item_r : mX6_item.2.2.2.2.1 = some .int := rfl
theorem mX6_item_l : mX6_item.2.2.2.2.2.2 = none := rfl
def jX6_item (Γ : Cx) : List ((Nat × Nat) × Nat × Bool × YSp) := [((1, 190), 1, true, sp_X6_isSheet Γ), ((1, 193), 1, true, sp_X6_isLane Γ), ((0, 196), 4, true, sp_X4_refusal Γ), ((0, 208), 3, false, sp_X4_put Γ)]
theorem jX6_item_1_190 (Γ : Cx) : kT (jX6_item Γ) 1 190 = some (1, true, sp_X6_isSheet Γ) := rfl
theorem jX6_item_1_193 (Γ : Cx) : kT (jX6_item Γ) 1 193 = some (1, true, sp_X6_isLane Γ) := rfl
theorem jX6_item_0_196 (Γ : Cx) : kT (jX6_item Γ) 0 196 = some (4, true, sp_X4_refusal Γ) := rfl
theorem jX6_item_0_208 (Γ : Cx) : kT (jX6_item Γ) 0 208 = some (3, false, sp_X4_put Γ) := rfl
theorem uX6_item (Γ : Cx) : TbOK Γ mX6_item (fT fX6, cT kX6, kT (jX6_item Γ)) := tb_ok fX6_ok kX6_ok (all_cons ⟨call_S (n := 1) (ok_X6_isSheet Γ) (rv_X6_isSheet (Γ := Γ)) bw_643 bw_641 bw_642 bw_42 no_X6_isSheet ⟨⟨rfl, rfl⟩, ⟨by decide, by decide⟩, ⟨by decide, by decide⟩⟩, fun _ => mono_X6_isSheet (Γ := Γ)⟩ (all_cons ⟨call_S (n := 1) (ok_X6_isLane Γ) (rv_X6_isLane (Γ := Γ)) bw_646 bw_644 bw_645 bw_42 no_X6_isLane ⟨⟨rfl, rfl⟩, ⟨by decide, by decide⟩, ⟨by decide, by decide⟩⟩, fun _ => mono_X6_isLane (Γ := Γ)⟩ (all_cons ⟨call_V (n := 3) (T := TX4) (N := 3) (ok_X4_refusal Γ) (rv_X4_refusal (Γ := Γ)) rfl bw_650 bw_647 bw_648 bw_649 bw_48 no_X4_refusal ⟨⟨rfl, rfl⟩, ⟨by decide, by decide⟩, ⟨by decide, by decide⟩⟩, fun _ => mono_X4_refusal (Γ := Γ)⟩ (all_cons ⟨call_V (n := 2) (T := TX4) (N := 3) (ok_X4_put Γ) (rv_X4_put (Γ := Γ)) rfl bw_677 bw_674 bw_675 bw_676 bw_48 no_X4_put ⟨⟨rfl, rfl⟩, ⟨by decide, by decide⟩, ⟨by decide, by decide⟩⟩, fun z => by cases z⟩ (all_nil)))))
set_option maxRecDepth 20000 in
theorem ok_X6_item (Γ : Cx) : Ok Γ yX6_item mX6_item (sp_X6_item Γ) := by
  refine ok_intro (by decide +kernel) rfl rfl ?_
  intro av σ K h
  obtain ⟨a, b, c, v, lab, X, ψ, rfl, hW, hpre, h⟩ := h
  obtain ⟨x, sh, ⟨n0, n1, n2, n3⟩, ⟨t0, t1, t2, t3⟩, p, ⟨i0, i1, i2, i3⟩, ip, ⟨ta, tl⟩, ⟨pa, pk⟩, S⟩ := X
  obtain ⟨⟨w, kp, kd, day, gone, draw, P, rule, gd⟩, si, ⟨pc, pn⟩, ⟨qc, qn⟩, hi, ⟨l, len⟩, ss⟩ := ψ
  have hW0 := hW
  obtain ⟨⟨x1, x2, x3, x4⟩, x5, ⟨sf, x6, x7⟩, ⟨cN, lN⟩, ⟨⟨t, cT⟩, lT⟩, pP, ⟨cI, lI⟩, pI, ⟨⟨pl, tT⟩, lTp, hlen⟩, ⟨⟨pls, pPl⟩, lPl⟩, hS⟩ := hW
  simp only at cN lN cT lT pP cI lI pI tT lTp hlen pPl lPl hS x6 x7
  obtain ⟨⟨m1, m2, m3, m4⟩, e1, e2, e3, e4⟩ := id cN
  simp only [XE, ColE, iA] at x1 x2 x5 m1 m2 m3 m4 e1 e2 e3 e4
  unfold fn x_item at h
  simp only at h
  simp only [shA] at x6
  by_cases c1 : inr a 0 3 = true
  · by_cases c2 : inr b 0 3 = true
    · rw [if_pos ⟨c1, c2⟩] at h
      obtain ⟨q, hq, rfl⟩ := door_n c1
      obtain ⟨d2, d3⟩ := in4q hq
      rw [d3] at h
      obtain ⟨hS1, hl1⟩ := hS q hq
      have hx7 := x7 q hq
      obtain ⟨⟨v1, v2⟩, f1, f2⟩ := id hS1
      simp only [ShE] at f1
      refine ⟨Nat.le_of_ble_eq_true rfl, yvc_ok (uX6_item Γ) (S := []) 60 _ _ _ _ ?_⟩
      simp only [lv_args, Value.category, x1, x2, x5, x6, d2, d3, hx7, v1, f1, c1, c2, sp_X6_isSheet, sp_X6_isLane, sp_X6_isDoor, sp_X4_refusal, bI_t, i1ne0, yvc_s, s1i, s2i, s1l, s2l, sil, s1r, sir, siir, slir, srir, svr, sd1, sd2, lg, lput, ldel, isL_i, isL_r, isL_l, jmp, obj, obj1, fI, fR, arI, arL, arR, hput, f4_0, f4_1, f4_2, f4_3, lc_0, lc_1, rok_i, rok_b, rok_y, strF, fput_1, fput_2, csum_nil, csum_i, csum_l, csum_r, va_up_self, bx_uu, Int.reduceAdd, List.elem_nil, List.elem_cons, List.take_succ_cons, List.take_zero, List.drop_succ_cons, List.drop_zero, List.take_nil, List.drop_nil, List.reverse_cons, List.reverse_nil, List.nil_append, List.cons_append, List.append_nil, Option.toList_some, Option.toList_none, List.getElem?_cons_zero, List.getElem?_cons_succ, List.set_cons_zero, List.set_cons_succ, List.length_cons, List.length_nil, reduceIte, reduceCtorEq, and_true, true_and, and_self, or_true, true_or, false_and, and_false, not_true_eq_false, not_false_eq_true, true_implies, false_implies, implies_true, Nat.reduceAdd, Nat.reduceLT, Nat.reduceEqDiff, Nat.reduceLeDiff, Nat.reduceBEq, Nat.zero_add, Nat.lt_add_one, Bool.false_eq_true, Bool.or_false, Bool.or_true, Bool.or_self, Nat.zero_ne_one, Nat.one_ne_zero, ite_true, ite_false, ne_eq, Nat.reduceSub, Nat.succ_eq_add_one, Nat.zero_lt_succ, Nat.add_one_ne_zero, false_or, or_false, mX6_item_c, mX6_item_n, mX6_item_r, mX6_item_l, dX6_item_0, dX6_item_1, dX6_item_4, tg_4_10, cnd1_eq, dX6_item_7, dX6_item_8, dX6_item_11, tg_11_5, cnd1_ne, dX6_item_14, ic_m1, dX6_item_15, dX6_item_16, dX6_item_17, fl_6_53_6, dX6_item_20, dX6_item_21, dX6_item_22, dX6_item_23, dX6_item_24, ic_1, dX6_item_25, dX6_item_28, dX6_item_30, dX6_item_32, tg_32_6, dX6_item_35, dX6_item_37, dX6_item_38, dX6_item_39, dX6_item_42, dX6_item_43, dX6_item_44, dX6_item_45, dX6_item_47, dX6_item_50, dX6_item_51, jX6_item_1_190, jX6_item_1_193, jX6_item_0_196, jX6_item_0_208, st_aaload, st_aload_n, st_getfield, st_iconst, st_ifCond, st_iload, st_iload_n, st_invokestatic, st_invokevirtual, st_ireturn, st_istore, st_lload]
      refine ⟨fun c3 => ?_, fun c3 => ?_⟩
      · rw [if_pos c3] at h
        obtain ⟨r1, r2, r3⟩ := rfz_0 c3
        obtain ⟨I, N, k, rfl, e7, e8, e9, e10⟩ := span_n (hpre.2 q hq) r1 r3
        have hN : N = 1 := by
          have : nI 1 = nI N := e7
          have h2 := (nI_eq (a := 1) (b := N) (by decide) (by
            rcases Nat.lt_or_ge N (2 ^ 31) with z | z
            · exact z
            · omega)).mp this
          exact h2.symm
        subst hN
        rw [nI_clamp (show I < 2 ^ 31 by omega)] at h
        refine ⟨S q, ss q, I, v, rfl, by omega, hS1, ?_⟩
        have hf : frm (fL lab (8 + q)) σ (shset Γ (S q) (vp_updL (ss q).1 I (cutL (ss q).2.1 v), (ss q).2) σ) := shset_frm.mono hl1
        have hW1 := hW0.sS hq hf (hS1.set (vp_updL (ss q).1 I (cutL (ss q).2.1 v), (ss q).2))
        have hk := h _ _ _ rfl (frmX hf (by omega)) hW1
        refine yvc_ok (uX6_item Γ) (S := []) 60 _ _ _ _ ?_
        simp only [yvc_s, s1i, s2i, s1l, s2l, sil, s1r, sir, siir, slir, srir, svr, sd1, sd2, lg, lput, ldel, isL_i, isL_r, isL_l, jmp, obj, obj1, fI, fR, arI, arL, arR, hput, f4_0, f4_1, f4_2, f4_3, lc_0, lc_1, rok_i, rok_b, rok_y, strF, fput_1, fput_2, csum_nil, csum_i, csum_l, csum_r, va_up_self, bx_uu, Int.reduceAdd, List.elem_nil, List.elem_cons, List.take_succ_cons, List.take_zero, List.drop_succ_cons, List.drop_zero, List.take_nil, List.drop_nil, List.reverse_cons, List.reverse_nil, List.nil_append, List.cons_append, List.append_nil, Option.toList_some, Option.toList_none, List.getElem?_cons_zero, List.getElem?_cons_succ, List.set_cons_zero, List.set_cons_succ, List.length_cons, List.length_nil, reduceIte, reduceCtorEq, and_true, true_and, and_self, or_true, true_or, false_and, and_false, not_true_eq_false, not_false_eq_true, true_implies, false_implies, implies_true, Nat.reduceAdd, Nat.reduceLT, Nat.reduceEqDiff, Nat.reduceLeDiff, Nat.reduceBEq, Nat.zero_add, Nat.lt_add_one, Bool.false_eq_true, Bool.or_false, Bool.or_true, Bool.or_self, Nat.zero_ne_one, Nat.one_ne_zero, ite_true, ite_false, ne_eq, Nat.reduceSub, Nat.succ_eq_add_one, Nat.zero_lt_succ, Nat.add_one_ne_zero, false_or, or_false, mX6_item_c, mX6_item_n, mX6_item_r, mX6_item_l, dX6_item_0, dX6_item_1, dX6_item_4, tg_4_10, cnd1_eq, dX6_item_7, dX6_item_8, dX6_item_11, tg_11_5, cnd1_ne, dX6_item_14, ic_m1, dX6_item_15, dX6_item_16, dX6_item_17, fl_6_53_6, dX6_item_20, dX6_item_21, dX6_item_22, dX6_item_23, dX6_item_24, ic_1, dX6_item_25, dX6_item_28, dX6_item_30, dX6_item_32, tg_32_6, dX6_item_35, dX6_item_37, dX6_item_38, dX6_item_39, dX6_item_42, dX6_item_43, dX6_item_44, dX6_item_45, dX6_item_47, dX6_item_50, dX6_item_51, jX6_item_1_190, jX6_item_1_193, jX6_item_0_196, jX6_item_0_208, st_aaload, st_aload_n, st_getfield, st_iconst, st_ifCond, st_iload, st_iload_n, st_invokestatic, st_invokevirtual, st_ireturn, st_istore, st_lload]
        exact hk
      · rw [if_neg c3] at h
        exact h σ _ _ rfl frm.rf hW0
    · rw [if_neg (fun z => c2 z.2)] at h
      have c2' : inr b 0 3 = false := by cases q : inr b 0 3 <;> simp_all
      refine ⟨Nat.le_of_ble_eq_true rfl, yvc_ok (uX6_item Γ) (S := []) 60 _ _ _ _ ?_⟩
      simp only [lv_args, Value.category, c1, c2', sp_X6_isSheet, sp_X6_isLane, sp_X6_isDoor, bI_t, bI_f, i1ne0, yvc_s, s1i, s2i, s1l, s2l, sil, s1r, sir, siir, slir, srir, svr, sd1, sd2, lg, lput, ldel, isL_i, isL_r, isL_l, jmp, obj, obj1, fI, fR, arI, arL, arR, hput, f4_0, f4_1, f4_2, f4_3, lc_0, lc_1, rok_i, rok_b, rok_y, strF, fput_1, fput_2, csum_nil, csum_i, csum_l, csum_r, va_up_self, bx_uu, Int.reduceAdd, List.elem_nil, List.elem_cons, List.take_succ_cons, List.take_zero, List.drop_succ_cons, List.drop_zero, List.take_nil, List.drop_nil, List.reverse_cons, List.reverse_nil, List.nil_append, List.cons_append, List.append_nil, Option.toList_some, Option.toList_none, List.getElem?_cons_zero, List.getElem?_cons_succ, List.set_cons_zero, List.set_cons_succ, List.length_cons, List.length_nil, reduceIte, reduceCtorEq, and_true, true_and, and_self, or_true, true_or, false_and, and_false, not_true_eq_false, not_false_eq_true, true_implies, false_implies, implies_true, Nat.reduceAdd, Nat.reduceLT, Nat.reduceEqDiff, Nat.reduceLeDiff, Nat.reduceBEq, Nat.zero_add, Nat.lt_add_one, Bool.false_eq_true, Bool.or_false, Bool.or_true, Bool.or_self, Nat.zero_ne_one, Nat.one_ne_zero, ite_true, ite_false, ne_eq, Nat.reduceSub, Nat.succ_eq_add_one, Nat.zero_lt_succ, Nat.add_one_ne_zero, false_or, or_false, mX6_item_c, mX6_item_n, mX6_item_r, mX6_item_l, dX6_item_0, dX6_item_1, dX6_item_4, tg_4_10, cnd1_eq, dX6_item_7, dX6_item_8, dX6_item_11, tg_11_5, cnd1_ne, dX6_item_14, ic_m1, dX6_item_15, dX6_item_16, dX6_item_17, fl_6_53_6, dX6_item_20, dX6_item_21, dX6_item_22, dX6_item_23, dX6_item_24, ic_1, dX6_item_25, dX6_item_28, dX6_item_30, dX6_item_32, tg_32_6, dX6_item_35, dX6_item_37, dX6_item_38, dX6_item_39, dX6_item_42, dX6_item_43, dX6_item_44, dX6_item_45, dX6_item_47, dX6_item_50, dX6_item_51, jX6_item_1_190, jX6_item_1_193, jX6_item_0_196, jX6_item_0_208, st_aaload, st_aload_n, st_getfield, st_iconst, st_ifCond, st_iload, st_iload_n, st_invokestatic, st_invokevirtual, st_ireturn, st_istore, st_lload]
      exact h σ _ _ rfl frm.rf hW0
  · rw [if_neg (fun z => c1 z.1)] at h
    have c1' : inr a 0 3 = false := by cases q : inr a 0 3 <;> simp_all
    refine ⟨Nat.le_of_ble_eq_true rfl, yvc_ok (uX6_item Γ) (S := []) 60 _ _ _ _ ?_⟩
    simp only [lv_args, Value.category, c1', sp_X6_isSheet, sp_X6_isLane, sp_X6_isDoor, bI_f, yvc_s, s1i, s2i, s1l, s2l, sil, s1r, sir, siir, slir, srir, svr, sd1, sd2, lg, lput, ldel, isL_i, isL_r, isL_l, jmp, obj, obj1, fI, fR, arI, arL, arR, hput, f4_0, f4_1, f4_2, f4_3, lc_0, lc_1, rok_i, rok_b, rok_y, strF, fput_1, fput_2, csum_nil, csum_i, csum_l, csum_r, va_up_self, bx_uu, Int.reduceAdd, List.elem_nil, List.elem_cons, List.take_succ_cons, List.take_zero, List.drop_succ_cons, List.drop_zero, List.take_nil, List.drop_nil, List.reverse_cons, List.reverse_nil, List.nil_append, List.cons_append, List.append_nil, Option.toList_some, Option.toList_none, List.getElem?_cons_zero, List.getElem?_cons_succ, List.set_cons_zero, List.set_cons_succ, List.length_cons, List.length_nil, reduceIte, reduceCtorEq, and_true, true_and, and_self, or_true, true_or, false_and, and_false, not_true_eq_false, not_false_eq_true, true_implies, false_implies, implies_true, Nat.reduceAdd, Nat.reduceLT, Nat.reduceEqDiff, Nat.reduceLeDiff, Nat.reduceBEq, Nat.zero_add, Nat.lt_add_one, Bool.false_eq_true, Bool.or_false, Bool.or_true, Bool.or_self, Nat.zero_ne_one, Nat.one_ne_zero, ite_true, ite_false, ne_eq, Nat.reduceSub, Nat.succ_eq_add_one, Nat.zero_lt_succ, Nat.add_one_ne_zero, false_or, or_false, mX6_item_c, mX6_item_n, mX6_item_r, mX6_item_l, dX6_item_0, dX6_item_1, dX6_item_4, tg_4_10, cnd1_eq, dX6_item_7, dX6_item_8, dX6_item_11, tg_11_5, cnd1_ne, dX6_item_14, ic_m1, dX6_item_15, dX6_item_16, dX6_item_17, fl_6_53_6, dX6_item_20, dX6_item_21, dX6_item_22, dX6_item_23, dX6_item_24, ic_1, dX6_item_25, dX6_item_28, dX6_item_30, dX6_item_32, tg_32_6, dX6_item_35, dX6_item_37, dX6_item_38, dX6_item_39, dX6_item_42, dX6_item_43, dX6_item_44, dX6_item_45, dX6_item_47, dX6_item_50, dX6_item_51, jX6_item_1_190, jX6_item_1_193, jX6_item_0_196, jX6_item_0_208, st_aaload, st_aload_n, st_getfield, st_iconst, st_ifCond, st_iload, st_iload_n, st_invokestatic, st_invokevirtual, st_ireturn, st_istore, st_lload]
    exact h σ _ _ rfl frm.rf hW0
