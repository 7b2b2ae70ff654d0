/-! ===== YawnKeys: of, at, type, count, talk, give, undo, seed ===== -/
def x_of (p what : Int32) (ψ : XS) : XS × Int32 := (ψ, if inr p 0 (nI ψ.1.2.2.2.2.2.2.1 - 1) = true then (if what = 0 then ψ.1.2.2.1 p.toNatClampNeg else if what = 1 then kset ψ.1.2.1 p 4 else if what = 2 then wsum ψ.1.1 p 4 else -1) else -1)
def sp_X6_of (Γ : Cx) : YSp := fun av σ K => ∃ a b : Int32, xq Γ [.int a, .int b] (fn (x_of a b)) PX av σ K
theorem rv_X6_of {Γ : Cx} : Recv (sp_X6_of Γ) 2 6 := by
  intro av σ K h
  obtain ⟨a, b, h⟩ := h
  obtain ⟨q, fs, h1, h2, h3⟩ := rv_xq h
  exact ⟨q, _, fs, h1, rfl, h2, h3⟩
theorem bw_278 : Cond.methodLink RX6 89 yX0_keysOf ∈ BW := bw_i 278 (by decide +kernel) (by decide +kernel)
theorem bw_282 : Cond.methodLink RX6 93 yX0_wantsOf ∈ BW := bw_i 282 (by decide +kernel) (by decide +kernel)
theorem tg_8_5 : tgo 8 5 = some 13 := by decide
theorem tg_14_54 : tgo 14 54 = some 68 := by decide
theorem tg_14_26 : tgo 14 26 = some 40 := by decide
theorem tg_14_36 : tgo 14 36 = some 50 := by decide
theorem tg_14_45 : tgo 14 45 = some 59 := by decide
def mX6_of : Mt := (⟨2, 0, 0, 45⟩, RX6, cX6_of, 3, some .int, (0, 0), none)
theorem mX6_of_c : mX6_of.2.2.1 = cX6_of := rfl
theorem mX6_of_n : mX6_of.2.2.2.1 = 3 := rfl
theorem mX6_of_r : mX6_of.2.2.2.2.1 = some .int := rfl
theorem mX6_of_l : mX6_of.2.2.2.2.2.2 = none := rfl
def jX6_of (Γ : Cx) : List ((Nat × Nat) × Nat × Bool × YSp) := [((0, 75), 2, true, sp_X0_has Γ), ((0, 89), 2, false, sp_X0_keysOf Γ), ((0, 93), 2, false, sp_X0_wantsOf Γ)]
theorem jX6_of_0_75 (Γ : Cx) : kT (jX6_of Γ) 0 75 = some (2, true, sp_X0_has Γ) := rfl
theorem jX6_of_0_89 (Γ : Cx) : kT (jX6_of Γ) 0 89 = some (2, false, sp_X0_keysOf Γ) := rfl
theorem jX6_of_0_93 (Γ : Cx) : kT (jX6_of Γ) 0 93 = some (2, false, sp_X0_wantsOf Γ) := rfl
theorem uX6_of (Γ : Cx) : TbOK Γ mX6_of (fT fX6, cT kX6, kT (jX6_of Γ)) := tb_ok fX6_ok kX6_ok (all_cons ⟨call_V (n := 1) (T := TX0) (N := 9) (ok_X0_has Γ) (rv_X0_has (Γ := Γ)) rfl bw_265 bw_262 bw_263 bw_264 bw_44 no_X0_has ⟨⟨rfl, rfl⟩, ⟨by decide, by decide⟩, ⟨by decide, by decide⟩⟩, fun _ => mono_X0_has (Γ := Γ)⟩ (all_cons ⟨call_V (n := 1) (T := TX0) (N := 9) (ok_X0_keysOf Γ) (rv_X0_keysOf (Γ := Γ)) rfl bw_281 bw_278 bw_279 bw_280 bw_44 no_X0_keysOf ⟨⟨rfl, rfl⟩, ⟨by decide, by decide⟩, ⟨by decide, by decide⟩⟩, fun z => by cases z⟩ (all_cons ⟨call_V (n := 1) (T := TX0) (N := 9) (ok_X0_wantsOf Γ) (rv_X0_wantsOf (Γ := Γ)) rfl bw_285 bw_282 bw_283 bw_284 bw_44 no_X0_wantsOf ⟨⟨rfl, rfl⟩, ⟨by decide, by decide⟩, ⟨by decide, by decide⟩⟩, fun z => by cases z⟩ (all_nil))))
set_option maxRecDepth 20000 in
theorem ok_X6_of (Γ : Cx) : Ok Γ yX6_of mX6_of (sp_X6_of Γ) := by
  refine ok_intro (by decide +kernel) rfl rfl ?_
  intro av σ K h
  obtain ⟨a, b, lab, X, ψ, rfl, hW, hpre, h⟩ := h
  obtain ⟨x, sh, ⟨n0, n1, n2, n3⟩, ⟨t0, t1, t2, t3⟩, p, ⟨i0, i1, i2, i3⟩, ip, ⟨ta, tl⟩, ⟨pa, pk⟩, S⟩ := X
  obtain ⟨⟨w, kp, kd, day, gone, draw, P, rule, gd⟩, si, ⟨pc, pn⟩, ⟨qc, qn⟩, hi, ⟨l, len⟩, ss⟩ := ψ
  have hW0 := hW
  obtain ⟨⟨x1, x2, x3, x4⟩, x5, ⟨sf, x6, x7⟩, ⟨cN, lN⟩, ⟨⟨t, cT⟩, lT⟩, pP, ⟨cI, lI⟩, pI, ⟨⟨pl, tT⟩, lTp, hlen⟩, ⟨⟨pls, pPl⟩, lPl⟩, hS⟩ := hW
  simp only at cN lN cT lT pP cI lI pI tT lTp hlen pPl lPl hS x6 x7
  obtain ⟨⟨m1, m2, m3, m4⟩, e1, e2, e3, e4⟩ := id cN
  simp only [XE, ColE, iA] at x1 x2 x5 m1 m2 m3 m4 e1 e2 e3 e4
  have hP := hpre.1
  simp only at hP
  have hk := h σ _ _ rfl frm.rf hW0
  simp only at hk
  refine ⟨Nat.le_of_ble_eq_true rfl, yvc_ok (uX6_of Γ) (S := []) 60 _ _ _ _ ?_⟩
  simp only [lv_args, Value.category, x1, x5, m1, m4, e1, e4, sp_X0_has, bI_eq0, Bool.not_eq_false, yvc_s, s1i, s2i, s1l, s2l, sil, s1r, sir, siir, slir, srir, svr, sd1, sd2, lg, lput, ldel, isL_i, isL_r, isL_l, jmp, obj, obj1, fI, fR, arI, arL, arR, hput, f4_0, f4_1, f4_2, f4_3, lc_0, lc_1, rok_i, rok_b, rok_y, strF, fput_1, fput_2, csum_nil, csum_i, csum_l, csum_r, va_up_self, bx_uu, Int.reduceAdd, List.elem_nil, List.elem_cons, List.take_succ_cons, List.take_zero, List.drop_succ_cons, List.drop_zero, List.take_nil, List.drop_nil, List.reverse_cons, List.reverse_nil, List.nil_append, List.cons_append, List.append_nil, Option.toList_some, Option.toList_none, List.getElem?_cons_zero, List.getElem?_cons_succ, List.set_cons_zero, List.set_cons_succ, List.length_cons, List.length_nil, reduceIte, reduceCtorEq, and_true, true_and, and_self, or_true, true_or, false_and, and_false, not_true_eq_false, not_false_eq_true, true_implies, false_implies, implies_true, Nat.reduceAdd, Nat.reduceLT, Nat.reduceEqDiff, Nat.reduceLeDiff, Nat.reduceBEq, Nat.zero_add, Nat.lt_add_one, Bool.false_eq_true, Bool.or_false, Bool.or_true, Bool.or_self, Nat.zero_ne_one, Nat.one_ne_zero, ite_true, ite_false, ne_eq, Nat.reduceSub, Nat.succ_eq_add_one, Nat.zero_lt_succ, Nat.add_one_ne_zero, false_or, or_false, mX6_of_c, mX6_of_n, mX6_of_r, mX6_of_l, dX6_of_0, dX6_of_1, fl_6_10_6, dX6_of_4, dX6_of_5, dX6_of_8, tg_8_5, cnd1_ne, dX6_of_11, ic_m1, dX6_of_12, dX6_of_13, dX6_of_14, tg_14_54, tg_14_26, tg_14_36, tg_14_45, swl, ic_0, ic_1, ic_2, dX6_of_40, dX6_of_41, dX6_of_44, fl_6_85_0, dX6_of_47, dX6_of_48, dX6_of_49, dX6_of_50, dX6_of_51, dX6_of_54, dX6_of_55, dX6_of_58, dX6_of_59, dX6_of_60, dX6_of_63, dX6_of_64, dX6_of_67, dX6_of_68, dX6_of_69, jX6_of_0_75, jX6_of_0_89, jX6_of_0_93, st_aload_n, st_getfield, st_iaload, st_iconst, st_ifCond, st_iload_n, st_invokevirtual, st_ireturn, st_tableswitch]
  refine ⟨fun c => ?_, fun c => ?_⟩
  · rw [if_pos c] at hk
    obtain ⟨q, hq, rfl⟩ := has_n hP c
    refine ⟨rfl, ⟨fun d => ?_, fun d => ?_, fun d => ?_⟩, fun d => ?_⟩
    · rw [if_pos d] at hk
      exact ⟨vp_in_nI (by omega) (by decide), hk⟩
    · rw [if_neg (by rw [d]; decide), if_pos d] at hk
      refine ⟨(n0, n1, n2, n3), _, _, rfl, cN, ?_⟩
      refine yvc_ok (uX6_of Γ) (S := []) 60 _ _ _ _ ?_
      simp only [yvc_s, s1i, s2i, s1l, s2l, sil, s1r, sir, siir, slir, srir, svr, sd1, sd2, lg, lput, ldel, isL_i, isL_r, isL_l, jmp, obj, obj1, fI, fR, arI, arL, arR, hput, f4_0, f4_1, f4_2, f4_3, lc_0, lc_1, rok_i, rok_b, rok_y, strF, fput_1, fput_2, csum_nil, csum_i, csum_l, csum_r, va_up_self, bx_uu, Int.reduceAdd, List.elem_nil, List.elem_cons, List.take_succ_cons, List.take_zero, List.drop_succ_cons, List.drop_zero, List.take_nil, List.drop_nil, List.reverse_cons, List.reverse_nil, List.nil_append, List.cons_append, List.append_nil, Option.toList_some, Option.toList_none, List.getElem?_cons_zero, List.getElem?_cons_succ, List.set_cons_zero, List.set_cons_succ, List.length_cons, List.length_nil, reduceIte, reduceCtorEq, and_true, true_and, and_self, or_true, true_or, false_and, and_false, not_true_eq_false, not_false_eq_true, true_implies, false_implies, implies_true, Nat.reduceAdd, Nat.reduceLT, Nat.reduceEqDiff, Nat.reduceLeDiff, Nat.reduceBEq, Nat.zero_add, Nat.lt_add_one, Bool.false_eq_true, Bool.or_false, Bool.or_true, Bool.or_self, Nat.zero_ne_one, Nat.one_ne_zero, ite_true, ite_false, ne_eq, Nat.reduceSub, Nat.succ_eq_add_one, Nat.zero_lt_succ, Nat.add_one_ne_zero, false_or, or_false, mX6_of_c, mX6_of_n, mX6_of_r, mX6_of_l, dX6_of_0, dX6_of_1, fl_6_10_6, dX6_of_4, dX6_of_5, dX6_of_8, tg_8_5, cnd1_ne, dX6_of_11, ic_m1, dX6_of_12, dX6_of_13, dX6_of_14, tg_14_54, tg_14_26, tg_14_36, tg_14_45, swl, ic_0, ic_1, ic_2, dX6_of_40, dX6_of_41, dX6_of_44, fl_6_85_0, dX6_of_47, dX6_of_48, dX6_of_49, dX6_of_50, dX6_of_51, dX6_of_54, dX6_of_55, dX6_of_58, dX6_of_59, dX6_of_60, dX6_of_63, dX6_of_64, dX6_of_67, dX6_of_68, dX6_of_69, jX6_of_0_75, jX6_of_0_89, jX6_of_0_93, st_aload_n, st_getfield, st_iaload, st_iconst, st_ifCond, st_iload_n, st_invokevirtual, st_ireturn, st_tableswitch]
      exact hk
    · rw [if_neg (by rw [d]; decide), if_neg (by rw [d]; decide), if_pos d] at hk
      refine ⟨(n0, n1, n2, n3), _, q, rfl, by omega, cN, ?_⟩
      refine yvc_ok (uX6_of Γ) (S := []) 60 _ _ _ _ ?_
      simp only [yvc_s, s1i, s2i, s1l, s2l, sil, s1r, sir, siir, slir, srir, svr, sd1, sd2, lg, lput, ldel, isL_i, isL_r, isL_l, jmp, obj, obj1, fI, fR, arI, arL, arR, hput, f4_0, f4_1, f4_2, f4_3, lc_0, lc_1, rok_i, rok_b, rok_y, strF, fput_1, fput_2, csum_nil, csum_i, csum_l, csum_r, va_up_self, bx_uu, Int.reduceAdd, List.elem_nil, List.elem_cons, List.take_succ_cons, List.take_zero, List.drop_succ_cons, List.drop_zero, List.take_nil, List.drop_nil, List.reverse_cons, List.reverse_nil, List.nil_append, List.cons_append, List.append_nil, Option.toList_some, Option.toList_none, List.getElem?_cons_zero, List.getElem?_cons_succ, List.set_cons_zero, List.set_cons_succ, List.length_cons, List.length_nil, reduceIte, reduceCtorEq, and_true, true_and, and_self, or_true, true_or, false_and, and_false, not_true_eq_false, not_false_eq_true, true_implies, false_implies, implies_true, Nat.reduceAdd, Nat.reduceLT, Nat.reduceEqDiff, Nat.reduceLeDiff, Nat.reduceBEq, Nat.zero_add, Nat.lt_add_one, Bool.false_eq_true, Bool.or_false, Bool.or_true, Bool.or_self, Nat.zero_ne_one, Nat.one_ne_zero, ite_true, ite_false, ne_eq, Nat.reduceSub, Nat.succ_eq_add_one, Nat.zero_lt_succ, Nat.add_one_ne_zero, false_or, or_false, mX6_of_c, mX6_of_n, mX6_of_r, mX6_of_l, dX6_of_0, dX6_of_1, fl_6_10_6, dX6_of_4, dX6_of_5, dX6_of_8, tg_8_5, cnd1_ne, dX6_of_11, ic_m1, dX6_of_12, dX6_of_13, dX6_of_14, tg_14_54, tg_14_26, tg_14_36, tg_14_45, swl, ic_0, ic_1, ic_2, dX6_of_40, dX6_of_41, dX6_of_44, fl_6_85_0, dX6_of_47, dX6_of_48, dX6_of_49, dX6_of_50, dX6_of_51, dX6_of_54, dX6_of_55, dX6_of_58, dX6_of_59, dX6_of_60, dX6_of_63, dX6_of_64, dX6_of_67, dX6_of_68, dX6_of_69, jX6_of_0_75, jX6_of_0_89, jX6_of_0_93, st_aload_n, st_getfield, st_iaload, st_iconst, st_ifCond, st_iload_n, st_invokevirtual, st_ireturn, st_tableswitch]
      exact hk
    · have n1 : ¬ b = 0 := d.elim (fun z => toInt_lo z (by decide)) (fun z => toInt_hi z (by decide))
      have n2 : ¬ b = 1 := d.elim (fun z => toInt_lo z (by decide)) (fun z => toInt_hi z (by decide))
      have n3 : ¬ b = 2 := d.elim (fun z => toInt_lo z (by decide)) (fun z => toInt_hi z (by decide))
      rw [if_neg n1, if_neg n2, if_neg n3] at hk
      exact hk
  · rw [if_neg c] at hk
    exact hk
def x_at (d what : Int32) (ψ : XS) : XS × Int32 := (ψ, if inr d 0 3 = true then (if what = 0 then ψ.1.2.1 d.toNatClampNeg else if what = 1 then growth ψ.1 d.toNatClampNeg else if what = 2 then (lst ψ.1.1 d ψ.1.2.2.2.2.2.2.1).1 else -1) else -1)
def sp_X6_at (Γ : Cx) : YSp := fun av σ K => ∃ a b : Int32, xq Γ [.int a, .int b] (fn (x_at a b)) PX av σ K
theorem rv_X6_at {Γ : Cx} : Recv (sp_X6_at Γ) 2 6 := by
  intro av σ K h
  obtain ⟨a, b, h⟩ := h
  obtain ⟨q, fs, h1, h2, h3⟩ := rv_xq h
  exact ⟨q, _, fs, h1, rfl, h2, h3⟩
theorem bw_291 : Cond.methodLink RX6 99 yX0_growth ∈ BW := bw_i 291 (by decide +kernel) (by decide +kernel)
theorem bw_310 : Cond.methodLink RX6 102 yX0_least ∈ BW := bw_i 310 (by decide +kernel) (by decide +kernel)
theorem tg_10_54 : tgo 10 54 = some 64 := by decide
theorem tg_10_26 : tgo 10 26 = some 36 := by decide
theorem tg_10_36 : tgo 10 36 = some 46 := by decide
theorem tg_10_45 : tgo 10 45 = some 55 := by decide
def mX6_at : Mt := (⟨3, 0, 0, 66⟩, RX6, cX6_at, 3, some .int, (0, 0), none)
theorem mX6_at_c : mX6_at.2.2.1 = cX6_at := rfl
theorem mX6_at_n : mX6_at.2.2.2.1 = 3 := rfl
theorem mX6_at_r : mX6_at.2.2.2.2.1 = some .int := rfl
theorem mX6_at_l : mX6_at.2.2.2.2.2.2 = none := rfl
def jX6_at (Γ : Cx) : List ((Nat × Nat) × Nat × Bool × YSp) := [((1, 79), 1, true, sp_X6_isDoor Γ), ((0, 99), 2, false, sp_X0_growth Γ), ((0, 102), 2, false, sp_X0_least Γ)]
theorem jX6_at_1_79 (Γ : Cx) : kT (jX6_at Γ) 1 79 = some (1, true, sp_X6_isDoor Γ) := rfl
theorem jX6_at_0_99 (Γ : Cx) : kT (jX6_at Γ) 0 99 = some (2, false, sp_X0_growth Γ) := rfl
theorem jX6_at_0_102 (Γ : Cx) : kT (jX6_at Γ) 0 102 = some (2, false, sp_X0_least Γ) := rfl
theorem uX6_at (Γ : Cx) : TbOK Γ mX6_at (fT fX6, cT kX6, kT (jX6_at Γ)) := tb_ok fX6_ok kX6_ok (all_cons ⟨call_S (n := 1) (ok_X6_isDoor Γ) (rv_X6_isDoor (Γ := Γ)) bw_269 bw_267 bw_268 bw_42 no_X6_isDoor ⟨⟨rfl, rfl⟩, ⟨by decide, by decide⟩, ⟨by decide, by decide⟩⟩, fun _ => mono_X6_isDoor (Γ := Γ)⟩ (all_cons ⟨call_V (n := 1) (T := TX0) (N := 9) (ok_X0_growth Γ) (rv_X0_growth (Γ := Γ)) rfl bw_294 bw_291 bw_292 bw_293 bw_44 no_X0_growth ⟨⟨rfl, rfl⟩, ⟨by decide, by decide⟩, ⟨by decide, by decide⟩⟩, fun z => by cases z⟩ (all_cons ⟨call_V (n := 1) (T := TX0) (N := 9) (ok_X0_least Γ) (rv_X0_least (Γ := Γ)) rfl bw_313 bw_310 bw_311 bw_312 bw_44 no_X0_least ⟨⟨rfl, rfl⟩, ⟨by decide, by decide⟩, ⟨by decide, by decide⟩⟩, fun z => by cases z⟩ (all_nil))))
set_option maxRecDepth 20000 in
theorem ok_X6_at (Γ : Cx) : Ok Γ yX6_at mX6_at (sp_X6_at Γ) := by
  refine ok_intro (by decide +kernel) rfl rfl ?_
  intro av σ K h
  obtain ⟨a, b, lab, X, ψ, rfl, hW, hpre, h⟩ := h
  obtain ⟨x, sh, ⟨n0, n1, n2, n3⟩, ⟨t0, t1, t2, t3⟩, p, ⟨i0, i1, i2, i3⟩, ip, ⟨ta, tl⟩, ⟨pa, pk⟩, S⟩ := X
  obtain ⟨⟨w, kp, kd, day, gone, draw, P, rule, gd⟩, si, ⟨pc, pn⟩, ⟨qc, qn⟩, hi, ⟨l, len⟩, ss⟩ := ψ
  have hW0 := hW
  obtain ⟨⟨x1, x2, x3, x4⟩, x5, ⟨sf, x6, x7⟩, ⟨cN, lN⟩, ⟨⟨t, cT⟩, lT⟩, pP, ⟨cI, lI⟩, pI, ⟨⟨pl, tT⟩, lTp, hlen⟩, ⟨⟨pls, pPl⟩, lPl⟩, hS⟩ := hW
  simp only at cN lN cT lT pP cI lI pI tT lTp hlen pPl lPl hS x6 x7
  obtain ⟨⟨m1, m2, m3, m4⟩, e1, e2, e3, e4⟩ := id cN
  simp only [XE, ColE, iA] at x1 x2 x5 m1 m2 m3 m4 e1 e2 e3 e4
  have hP := hpre.1
  simp only at hP
  have hk := h σ _ _ rfl frm.rf hW0
  simp only at hk
  refine ⟨Nat.le_of_ble_eq_true rfl, yvc_ok (uX6_at Γ) (S := []) 60 _ _ _ _ ?_⟩
  simp only [lv_args, Value.category, x1, x5, m1, m3, e1, e3, sp_X6_isDoor, bI_eq0, Bool.not_eq_false, yvc_s, s1i, s2i, s1l, s2l, sil, s1r, sir, siir, slir, srir, svr, sd1, sd2, lg, lput, ldel, isL_i, isL_r, isL_l, jmp, obj, obj1, fI, fR, arI, arL, arR, hput, f4_0, f4_1, f4_2, f4_3, lc_0, lc_1, rok_i, rok_b, rok_y, strF, fput_1, fput_2, csum_nil, csum_i, csum_l, csum_r, va_up_self, bx_uu, Int.reduceAdd, List.elem_nil, List.elem_cons, List.take_succ_cons, List.take_zero, List.drop_succ_cons, List.drop_zero, List.take_nil, List.drop_nil, List.reverse_cons, List.reverse_nil, List.nil_append, List.cons_append, List.append_nil, Option.toList_some, Option.toList_none, List.getElem?_cons_zero, List.getElem?_cons_succ, List.set_cons_zero, List.set_cons_succ, List.length_cons, List.length_nil, reduceIte, reduceCtorEq, and_true, true_and, and_self, or_true, true_or, false_and, and_false, not_true_eq_false, not_false_eq_true, true_implies, false_implies, implies_true, Nat.reduceAdd, Nat.reduceLT, Nat.reduceEqDiff, Nat.reduceLeDiff, Nat.reduceBEq, Nat.zero_add, Nat.lt_add_one, Bool.false_eq_true, Bool.or_false, Bool.or_true, Bool.or_self, Nat.zero_ne_one, Nat.one_ne_zero, ite_true, ite_false, ne_eq, Nat.reduceSub, Nat.succ_eq_add_one, Nat.zero_lt_succ, Nat.add_one_ne_zero, false_or, or_false, mX6_at_c, mX6_at_n, mX6_at_r, mX6_at_l, dX6_at_0, dX6_at_1, dX6_at_4, tg_4_5, cnd1_ne, dX6_at_7, ic_m1, dX6_at_8, dX6_at_9, dX6_at_10, tg_10_54, tg_10_26, tg_10_36, tg_10_45, swl, ic_0, ic_1, ic_2, dX6_at_36, dX6_at_37, fl_6_10_6, dX6_at_40, fl_6_96_0, dX6_at_43, dX6_at_44, dX6_at_45, dX6_at_46, dX6_at_47, dX6_at_50, dX6_at_51, dX6_at_54, dX6_at_55, dX6_at_56, dX6_at_59, dX6_at_60, dX6_at_63, dX6_at_64, dX6_at_65, jX6_at_1_79, jX6_at_0_99, jX6_at_0_102, st_aload_n, st_getfield, st_iaload, st_iconst, st_ifCond, st_iload_n, st_invokestatic, st_invokevirtual, st_ireturn, st_tableswitch]
  refine ⟨fun c => ?_, fun c => ?_⟩
  · rw [if_pos c] at hk
    obtain ⟨q, hq, rfl⟩ := door_n c
    obtain ⟨-, c2, c3⟩ := lt4 hq
    rw [c3] at hk
    refine ⟨rfl, ⟨fun d => ?_, fun d => ?_, fun d => ?_⟩, fun d => ?_⟩
    · rw [if_pos d] at hk
      rw [c3]
      exact ⟨c2, hk⟩
    · rw [if_neg (by rw [d]; decide), if_pos d] at hk
      refine ⟨(n0, n1, n2, n3), _, q, rfl, hq, hpre, cN, ?_⟩
      refine yvc_ok (uX6_at Γ) (S := []) 60 _ _ _ _ ?_
      simp only [yvc_s, s1i, s2i, s1l, s2l, sil, s1r, sir, siir, slir, srir, svr, sd1, sd2, lg, lput, ldel, isL_i, isL_r, isL_l, jmp, obj, obj1, fI, fR, arI, arL, arR, hput, f4_0, f4_1, f4_2, f4_3, lc_0, lc_1, rok_i, rok_b, rok_y, strF, fput_1, fput_2, csum_nil, csum_i, csum_l, csum_r, va_up_self, bx_uu, Int.reduceAdd, List.elem_nil, List.elem_cons, List.take_succ_cons, List.take_zero, List.drop_succ_cons, List.drop_zero, List.take_nil, List.drop_nil, List.reverse_cons, List.reverse_nil, List.nil_append, List.cons_append, List.append_nil, Option.toList_some, Option.toList_none, List.getElem?_cons_zero, List.getElem?_cons_succ, List.set_cons_zero, List.set_cons_succ, List.length_cons, List.length_nil, reduceIte, reduceCtorEq, and_true, true_and, and_self, or_true, true_or, false_and, and_false, not_true_eq_false, not_false_eq_true, true_implies, false_implies, implies_true, Nat.reduceAdd, Nat.reduceLT, Nat.reduceEqDiff, Nat.reduceLeDiff, Nat.reduceBEq, Nat.zero_add, Nat.lt_add_one, Bool.false_eq_true, Bool.or_false, Bool.or_true, Bool.or_self, Nat.zero_ne_one, Nat.one_ne_zero, ite_true, ite_false, ne_eq, Nat.reduceSub, Nat.succ_eq_add_one, Nat.zero_lt_succ, Nat.add_one_ne_zero, false_or, or_false, mX6_at_c, mX6_at_n, mX6_at_r, mX6_at_l, dX6_at_0, dX6_at_1, dX6_at_4, tg_4_5, cnd1_ne, dX6_at_7, ic_m1, dX6_at_8, dX6_at_9, dX6_at_10, tg_10_54, tg_10_26, tg_10_36, tg_10_45, swl, ic_0, ic_1, ic_2, dX6_at_36, dX6_at_37, fl_6_10_6, dX6_at_40, fl_6_96_0, dX6_at_43, dX6_at_44, dX6_at_45, dX6_at_46, dX6_at_47, dX6_at_50, dX6_at_51, dX6_at_54, dX6_at_55, dX6_at_56, dX6_at_59, dX6_at_60, dX6_at_63, dX6_at_64, dX6_at_65, jX6_at_1_79, jX6_at_0_99, jX6_at_0_102, st_aload_n, st_getfield, st_iaload, st_iconst, st_ifCond, st_iload_n, st_invokestatic, st_invokevirtual, st_ireturn, st_tableswitch]
      exact hk
    · rw [if_neg (by rw [d]; decide), if_neg (by rw [d]; decide), if_pos d] at hk
      refine ⟨(n0, n1, n2, n3), _, q, rfl, hq, hP, cN, ?_⟩
      refine yvc_ok (uX6_at Γ) (S := []) 60 _ _ _ _ ?_
      simp only [yvc_s, s1i, s2i, s1l, s2l, sil, s1r, sir, siir, slir, srir, svr, sd1, sd2, lg, lput, ldel, isL_i, isL_r, isL_l, jmp, obj, obj1, fI, fR, arI, arL, arR, hput, f4_0, f4_1, f4_2, f4_3, lc_0, lc_1, rok_i, rok_b, rok_y, strF, fput_1, fput_2, csum_nil, csum_i, csum_l, csum_r, va_up_self, bx_uu, Int.reduceAdd, List.elem_nil, List.elem_cons, List.take_succ_cons, List.take_zero, List.drop_succ_cons, List.drop_zero, List.take_nil, List.drop_nil, List.reverse_cons, List.reverse_nil, List.nil_append, List.cons_append, List.append_nil, Option.toList_some, Option.toList_none, List.getElem?_cons_zero, List.getElem?_cons_succ, List.set_cons_zero, List.set_cons_succ, List.length_cons, List.length_nil, reduceIte, reduceCtorEq, and_true, true_and, and_self, or_true, true_or, false_and, and_false, not_true_eq_false, not_false_eq_true, true_implies, false_implies, implies_true, Nat.reduceAdd, Nat.reduceLT, Nat.reduceEqDiff, Nat.reduceLeDiff, Nat.reduceBEq, Nat.zero_add, Nat.lt_add_one, Bool.false_eq_true, Bool.or_false, Bool.or_true, Bool.or_self, Nat.zero_ne_one, Nat.one_ne_zero, ite_true, ite_false, ne_eq, Nat.reduceSub, Nat.succ_eq_add_one, Nat.zero_lt_succ, Nat.add_one_ne_zero, false_or, or_false, mX6_at_c, mX6_at_n, mX6_at_r, mX6_at_l, dX6_at_0, dX6_at_1, dX6_at_4, tg_4_5, cnd1_ne, dX6_at_7, ic_m1, dX6_at_8, dX6_at_9, dX6_at_10, tg_10_54, tg_10_26, tg_10_36, tg_10_45, swl, ic_0, ic_1, ic_2, dX6_at_36, dX6_at_37, fl_6_10_6, dX6_at_40, fl_6_96_0, dX6_at_43, dX6_at_44, dX6_at_45, dX6_at_46, dX6_at_47, dX6_at_50, dX6_at_51, dX6_at_54, dX6_at_55, dX6_at_56, dX6_at_59, dX6_at_60, dX6_at_63, dX6_at_64, dX6_at_65, jX6_at_1_79, jX6_at_0_99, jX6_at_0_102, st_aload_n, st_getfield, st_iaload, st_iconst, st_ifCond, st_iload_n, st_invokestatic, st_invokevirtual, st_ireturn, st_tableswitch]
      exact hk
    · have n1 : ¬ b = 0 := d.elim (fun z => toInt_lo z (by decide)) (fun z => toInt_hi z (by decide))
      have n2 : ¬ b = 1 := d.elim (fun z => toInt_lo z (by decide)) (fun z => toInt_hi z (by decide))
      have n3 : ¬ b = 2 := d.elim (fun z => toInt_lo z (by decide)) (fun z => toInt_hi z (by decide))
      rw [if_neg n1, if_neg n2, if_neg n3] at hk
      exact hk
  · rw [if_neg c] at hk
    exact hk
def x_type (c : Int32) (ψ : XS) : XS × Int32 := if inr c 32 126 = true then (if ψ.2.2.2.2.2.1.2 < 50 then ((ψ.1, ψ.2.1, ψ.2.2.1, ψ.2.2.2.1, ψ.2.2.2.2.1, (upd ψ.2.2.2.2.2.1.1 ψ.2.2.2.2.2.1.2 c, ψ.2.2.2.2.2.1.2 + 1), ψ.2.2.2.2.2.2), nI (ψ.2.2.2.2.2.1.2 + 1)) else (ψ, -3)) else (ψ, -1)
def sp_X6_type (Γ : Cx) : YSp := fun av σ K => ∃ a : Int32, xq Γ [.int a] (fn (x_type a)) PX av σ K
theorem rv_X6_type {Γ : Cx} : Recv (sp_X6_type Γ) 1 6 := by
  intro av σ K h
  obtain ⟨a, h⟩ := h
  obtain ⟨q, fs, h1, h2, h3⟩ := rv_xq h
  exact ⟨q, _, fs, h1, rfl, h2, h3⟩
theorem bw_321 : Cond.code yX5_append cX5_append 2 (some .int) ∈ BW := bw_i 321 (by decide +kernel) (by decide +kernel)
theorem no_X5_append : NameOK yX5_append 1 := by unfold NameOK; decide +kernel
theorem bw_318 : Cond.methodLink RX6 108 yX5_append ∈ BW := bw_i 318 (by decide +kernel) (by decide +kernel)
theorem bw_319 : Cond.instanceMethod yX5_append ∈ BW := bw_i 319 (by decide +kernel) (by decide +kernel)
theorem bw_320 : Cond.selects RX5 yX5_append yX5_append ∈ BW := bw_i 320 (by decide +kernel) (by decide +kernel)
theorem bc_126 : (Int8.ofInt 126).toInt32 = 126 := by decide
theorem bc_50 : (Int8.ofInt 50).toInt32 = 50 := by decide
theorem tg_22_6 : tgo 22 6 = some 28 := by decide
def mX6_type : Mt := (⟨1, 0, 0, 22⟩, RX6, cX6_type, 2, some .int, (0, 0), none)
theorem mX6_type_c : mX6_type.2.2.1 = cX6_type := rfl
theorem mX6_type_n : mX6_type.2.2.2.1 = 2 := rfl
theorem mX6_type_r : mX6_type.2.2.2.2.1 = some .int := rfl
theorem mX6_type_l : mX6_type.2.2.2.2.2.2 = none := rfl
def jX6_type (Γ : Cx) : List ((Nat × Nat) × Nat × Bool × YSp) := [((1, 57), 3, true, sp_X6_within Γ), ((0, 108), 2, false, sp_X5_append Γ)]
theorem jX6_type_1_57 (Γ : Cx) : kT (jX6_type Γ) 1 57 = some (3, true, sp_X6_within Γ) := rfl
theorem jX6_type_0_108 (Γ : Cx) : kT (jX6_type Γ) 0 108 = some (2, false, sp_X5_append Γ) := rfl
theorem uX6_type (Γ : Cx) : TbOK Γ mX6_type (fT fX6, cT kX6, kT (jX6_type Γ)) := tb_ok fX6_ok kX6_ok (all_cons ⟨call_S (n := 3) (ok_X6_within Γ) (rv_X6_within (Γ := Γ)) bw_241 bw_239 bw_240 bw_42 no_X6_within ⟨⟨rfl, rfl⟩, ⟨by decide, by decide⟩, ⟨by decide, by decide⟩⟩, fun _ => mono_X6_within (Γ := Γ)⟩ (all_cons ⟨call_V (n := 1) (T := TX5) (N := 3) (ok_X5_append Γ) (rv_X5_append (Γ := Γ)) rfl bw_321 bw_318 bw_319 bw_320 bw_46 no_X5_append ⟨⟨rfl, rfl⟩, ⟨by decide, by decide⟩, ⟨by decide, by decide⟩⟩, fun z => by cases z⟩ (all_nil)))
theorem lt50 {n : Nat} (h : n ≤ 50) : nI n < 50 ↔ n < 50 := nI_ltI (b := 50) (by omega) (by decide)
set_option maxRecDepth 20000 in
theorem ok_X6_type (Γ : Cx) : Ok Γ yX6_type mX6_type (sp_X6_type Γ) := by
  refine ok_intro (by decide +kernel) rfl rfl ?_
  intro av σ K h
  obtain ⟨a, lab, X, ψ, rfl, hW, hpre, h⟩ := h
  obtain ⟨x, sh, ⟨n0, n1, n2, n3⟩, ⟨t0, t1, t2, t3⟩, p, ⟨i0, i1, i2, i3⟩, ip, ⟨ta, tl⟩, ⟨pa, pk⟩, S⟩ := X
  obtain ⟨⟨w, kp, kd, day, gone, draw, P, rule, gd⟩, si, ⟨pc, pn⟩, ⟨qc, qn⟩, hi, ⟨l, len⟩, ss⟩ := ψ
  have hW0 := hW
  obtain ⟨⟨x1, x2, x3, x4⟩, x5, ⟨sf, x6, x7⟩, ⟨cN, lN⟩, ⟨⟨t, cT⟩, lT⟩, pP, ⟨cI, lI⟩, pI, ⟨⟨pl, tT⟩, lTp, hlen⟩, ⟨⟨pls, pPl⟩, lPl⟩, hS⟩ := hW
  simp only at cN lN cT lT pP cI lI pI tT lTp hlen pPl lPl hS x6 x7
  obtain ⟨⟨m1, m2, m3, m4⟩, e1, e2, e3, e4⟩ := id cN
  simp only [XE, ColE, iA] at x1 x2 x5 m1 m2 m3 m4 e1 e2 e3 e4
  obtain ⟨⟨v1, v2⟩, f1, f2⟩ := id tT
  simp only [TpE] at v1 f1
  unfold fn x_type at h
  simp only at h
  refine ⟨Nat.le_of_ble_eq_true rfl, yvc_ok (uX6_type Γ) (S := []) 60 _ _ _ _ ?_⟩
  simp only [lv_args, Value.category, x1, x5, v1, f1, sp_X6_within, lt50 hlen, bI_eq0, Bool.not_eq_false, yvc_s, s1i, s2i, s1l, s2l, sil, s1r, sir, siir, slir, srir, svr, sd1, sd2, lg, lput, ldel, isL_i, isL_r, isL_l, jmp, obj, obj1, fI, fR, arI, arL, arR, hput, f4_0, f4_1, f4_2, f4_3, lc_0, lc_1, rok_i, rok_b, rok_y, strF, fput_1, fput_2, csum_nil, csum_i, csum_l, csum_r, va_up_self, bx_uu, Int.reduceAdd, List.elem_nil, List.elem_cons, List.take_succ_cons, List.take_zero, List.drop_succ_cons, List.drop_zero, List.take_nil, List.drop_nil, List.reverse_cons, List.reverse_nil, List.nil_append, List.cons_append, List.append_nil, Option.toList_some, Option.toList_none, List.getElem?_cons_zero, List.getElem?_cons_succ, List.set_cons_zero, List.set_cons_succ, List.length_cons, List.length_nil, reduceIte, reduceCtorEq, and_true, true_and, and_self, or_true, true_or, false_and, and_false, not_true_eq_false, not_false_eq_true, true_implies, false_implies, implies_true, Nat.reduceAdd, Nat.reduceLT, Nat.reduceEqDiff, Nat.reduceLeDiff, Nat.reduceBEq, Nat.zero_add, Nat.lt_add_one, Bool.false_eq_true, Bool.or_false, Bool.or_true, Bool.or_self, Nat.zero_ne_one, Nat.one_ne_zero, ite_true, ite_false, ne_eq, Nat.reduceSub, Nat.succ_eq_add_one, Nat.zero_lt_succ, Nat.add_one_ne_zero, false_or, or_false, mX6_type_c, mX6_type_n, mX6_type_r, mX6_type_l, dX6_type_0, dX6_type_1, bc_32, dX6_type_3, bc_126, dX6_type_5, dX6_type_8, tg_8_5, cnd1_ne, dX6_type_11, ic_m1, dX6_type_12, dX6_type_13, dX6_type_14, fl_6_39_6, dX6_type_17, fl_6_105_5, dX6_type_20, bc_50, dX6_type_22, tg_22_6, cnd2_lt, dX6_type_25, bc_m3, dX6_type_27, dX6_type_28, dX6_type_29, dX6_type_32, dX6_type_33, dX6_type_36, jX6_type_1_57, jX6_type_0_108, st_aload_n, st_bipush, st_getfield, st_iconst, st_ifCond, st_if_icmp, st_iload_n, st_invokestatic, st_invokevirtual, st_ireturn]
  refine ⟨fun c => ⟨fun d => ?_, fun d => ?_⟩, fun c => ?_⟩
  · rw [if_pos c, if_pos d] at h
    refine ⟨(ta, tl), l, len, pl, a, rfl, tT, d, fun σ1 hf hT1 => ?_⟩
    have hf1 : frm (fL lab 6) σ σ1 := hf.mono lTp
    have hW1 := hW0.sTape hf1 hT1 (by omega)
    refine yvc_ok (uX6_type Γ) (S := []) 60 _ _ _ _ ?_
    simp only [yvc_s, s1i, s2i, s1l, s2l, sil, s1r, sir, siir, slir, srir, svr, sd1, sd2, lg, lput, ldel, isL_i, isL_r, isL_l, jmp, obj, obj1, fI, fR, arI, arL, arR, hput, f4_0, f4_1, f4_2, f4_3, lc_0, lc_1, rok_i, rok_b, rok_y, strF, fput_1, fput_2, csum_nil, csum_i, csum_l, csum_r, va_up_self, bx_uu, Int.reduceAdd, List.elem_nil, List.elem_cons, List.take_succ_cons, List.take_zero, List.drop_succ_cons, List.drop_zero, List.take_nil, List.drop_nil, List.reverse_cons, List.reverse_nil, List.nil_append, List.cons_append, List.append_nil, Option.toList_some, Option.toList_none, List.getElem?_cons_zero, List.getElem?_cons_succ, List.set_cons_zero, List.set_cons_succ, List.length_cons, List.length_nil, reduceIte, reduceCtorEq, and_true, true_and, and_self, or_true, true_or, false_and, and_false, not_true_eq_false, not_false_eq_true, true_implies, false_implies, implies_true, Nat.reduceAdd, Nat.reduceLT, Nat.reduceEqDiff, Nat.reduceLeDiff, Nat.reduceBEq, Nat.zero_add, Nat.lt_add_one, Bool.false_eq_true, Bool.or_false, Bool.or_true, Bool.or_self, Nat.zero_ne_one, Nat.one_ne_zero, ite_true, ite_false, ne_eq, Nat.reduceSub, Nat.succ_eq_add_one, Nat.zero_lt_succ, Nat.add_one_ne_zero, false_or, or_false, mX6_type_c, mX6_type_n, mX6_type_r, mX6_type_l, dX6_type_0, dX6_type_1, bc_32, dX6_type_3, bc_126, dX6_type_5, dX6_type_8, tg_8_5, cnd1_ne, dX6_type_11, ic_m1, dX6_type_12, dX6_type_13, dX6_type_14, fl_6_39_6, dX6_type_17, fl_6_105_5, dX6_type_20, bc_50, dX6_type_22, tg_22_6, cnd2_lt, dX6_type_25, bc_m3, dX6_type_27, dX6_type_28, dX6_type_29, dX6_type_32, dX6_type_33, dX6_type_36, jX6_type_1_57, jX6_type_0_108, st_aload_n, st_bipush, st_getfield, st_iconst, st_ifCond, st_if_icmp, st_iload_n, st_invokestatic, st_invokevirtual, st_ireturn]
    exact h _ _ _ rfl (frmX hf1 (by decide)) hW1
  · rw [if_pos c, if_neg d] at h
    exact h σ _ _ rfl frm.rf hW0
  · rw [if_neg c] at h
    exact h σ _ _ rfl frm.rf hW0
def x_count (what : Int32) (ψ : XS) : XS × Int32 := (ψ, if what = 0 then nI ψ.1.2.2.2.2.2.2.1 else if what = 1 then ψ.1.2.2.2.1 else if what = 2 then ψ.1.2.2.2.2.2.2.2.1 else if what = 3 then ψ.1.2.2.2.2.1 else if what = 4 then kset ψ.1.2.1 (-4) 4 else if what = 5 then wall ψ.1.1 ψ.1.2.2.2.2.2.2.1 else if what = 6 then kany ψ.1.2.1 4 else if what = 7 then nI ψ.2.2.1.2 else -1)
def sp_X6_count (Γ : Cx) : YSp := fun av σ K => ∃ a : Int32, xq Γ [.int a] (fn (x_count a)) PX av σ K
theorem rv_X6_count {Γ : Cx} : Recv (sp_X6_count Γ) 1 6 := by
  intro av σ K h
  obtain ⟨a, h⟩ := h
  obtain ⟨q, fs, h1, h2, h3⟩ := rv_xq h
  exact ⟨q, _, fs, h1, rfl, h2, h3⟩
theorem bw_470 : Cond.code yX0_nails cX0_nails 1 (some .int) ∈ BW := bw_i 470 (by decide +kernel) (by decide +kernel)
theorem no_X0_nails : NameOK yX0_nails 0 := by unfold NameOK; decide +kernel
theorem bw_467 : Cond.methodLink RX6 128 yX0_nails ∈ BW := bw_i 467 (by decide +kernel) (by decide +kernel)
theorem bw_468 : Cond.instanceMethod yX0_nails ∈ BW := bw_i 468 (by decide +kernel) (by decide +kernel)
theorem bw_469 : Cond.selects RX0 yX0_nails yX0_nails ∈ BW := bw_i 469 (by decide +kernel) (by decide +kernel)
theorem bw_474 : Cond.code yX0_wantsOfAll cX0_wantsOfAll 3 (some .int) ∈ BW := bw_i 474 (by decide +kernel) (by decide +kernel)
theorem no_X0_wantsOfAll : NameOK yX0_wantsOfAll 0 := by unfold NameOK; decide +kernel
theorem bw_471 : Cond.methodLink RX6 132 yX0_wantsOfAll ∈ BW := bw_i 471 (by decide +kernel) (by decide +kernel)
theorem bw_472 : Cond.instanceMethod yX0_wantsOfAll ∈ BW := bw_i 472 (by decide +kernel) (by decide +kernel)
theorem bw_473 : Cond.selects RX0 yX0_wantsOfAll yX0_wantsOfAll ∈ BW := bw_i 473 (by decide +kernel) (by decide +kernel)
theorem bw_479 : Cond.code yX0_keepersOfAny cX0_keepersOfAny 3 (some .int) ∈ BW := bw_i 479 (by decide +kernel) (by decide +kernel)
theorem no_X0_keepersOfAny : NameOK yX0_keepersOfAny 0 := by unfold NameOK; decide +kernel
theorem bw_476 : Cond.methodLink RX6 135 yX0_keepersOfAny ∈ BW := bw_i 476 (by decide +kernel) (by decide +kernel)
theorem bw_477 : Cond.instanceMethod yX0_keepersOfAny ∈ BW := bw_i 477 (by decide +kernel) (by decide +kernel)
theorem bw_478 : Cond.selects RX0 yX0_keepersOfAny yX0_keepersOfAny ∈ BW := bw_i 478 (by decide +kernel) (by decide +kernel)
theorem tg_1_111 : tgo 1 111 = some 112 := by decide
theorem tg_1_47 : tgo 1 47 = some 48 := by decide
theorem tg_1_55 : tgo 1 55 = some 56 := by decide
theorem tg_1_63 : tgo 1 63 = some 64 := by decide
theorem tg_1_71 : tgo 1 71 = some 72 := by decide
theorem tg_1_79 : tgo 1 79 = some 80 := by decide
theorem tg_1_87 : tgo 1 87 = some 88 := by decide
theorem tg_1_95 : tgo 1 95 = some 96 := by decide
theorem tg_1_103 : tgo 1 103 = some 104 := by decide
theorem ic_6 : Int32.ofInt 6 = 6 := by decide
theorem ic_7 : Int32.ofInt 7 = 7 := by decide
def mX6_count : Mt := (⟨3, 0, 0, 67⟩, RX6, cX6_count, 2, some .int, (0, 0), none)
theorem mX6_count_c : mX6_count.2.2.1 = cX6_count := rfl
theorem mX6_count_n : mX6_count.2.2.2.1 = 2 := rfl
theorem mX6_count_r : mX6_count.2.2.2.2.1 = some .int := rfl
theorem mX6_count_l : mX6_count.2.2.2.2.2.2 = none := rfl
def jX6_count (Γ : Cx) : List ((Nat × Nat) × Nat × Bool × YSp) := [((0, 128), 1, false, sp_X0_nails Γ), ((0, 132), 1, false, sp_X0_wantsOfAll Γ), ((0, 135), 1, false, sp_X0_keepersOfAny Γ)]
theorem jX6_count_0_128 (Γ : Cx) : kT (jX6_count Γ) 0 128 = some (1, false, sp_X0_nails Γ) := rfl
theorem jX6_count_0_132 (Γ : Cx) : kT (jX6_count Γ) 0 132 = some (1, false, sp_X0_wantsOfAll Γ) := rfl
theorem jX6_count_0_135 (Γ : Cx) : kT (jX6_count Γ) 0 135 = some (1, false, sp_X0_keepersOfAny Γ) := rfl
theorem uX6_count (Γ : Cx) : TbOK Γ mX6_count (fT fX6, cT kX6, kT (jX6_count Γ)) := tb_ok fX6_ok kX6_ok (all_cons ⟨call_V (n := 0) (T := TX0) (N := 9) (ok_X0_nails Γ) (rv_X0_nails (Γ := Γ)) rfl bw_470 bw_467 bw_468 bw_469 bw_44 no_X0_nails ⟨⟨rfl, rfl⟩, ⟨by decide, by decide⟩, ⟨by decide, by decide⟩⟩, fun z => by cases z⟩ (all_cons ⟨call_V (n := 0) (T := TX0) (N := 9) (ok_X0_wantsOfAll Γ) (rv_X0_wantsOfAll (Γ := Γ)) rfl bw_474 bw_471 bw_472 bw_473 bw_44 no_X0_wantsOfAll ⟨⟨rfl, rfl⟩, ⟨by decide, by decide⟩, ⟨by decide, by decide⟩⟩, fun z => by cases z⟩ (all_cons ⟨call_V (n := 0) (T := TX0) (N := 9) (ok_X0_keepersOfAny Γ) (rv_X0_keepersOfAny (Γ := Γ)) rfl bw_479 bw_476 bw_477 bw_478 bw_44 no_X0_keepersOfAny ⟨⟨rfl, rfl⟩, ⟨by decide, by decide⟩, ⟨by decide, by decide⟩⟩, fun z => by cases z⟩ (all_nil))))
set_option maxRecDepth 20000 in
theorem ok_X6_count (Γ : Cx) : Ok Γ yX6_count mX6_count (sp_X6_count Γ) := by
  refine ok_intro (by decide +kernel) rfl rfl ?_
  intro av σ K h
  obtain ⟨a, lab, X, ψ, rfl, hW, hpre, h⟩ := h
  obtain ⟨x, sh, ⟨n0, n1, n2, n3⟩, ⟨t0, t1, t2, t3⟩, p, ⟨i0, i1, i2, i3⟩, ip, ⟨ta, tl⟩, ⟨pa, pk⟩, S⟩ := X
  obtain ⟨⟨w, kp, kd, day, gone, draw, P, rule, gd⟩, si, ⟨pc, pn⟩, ⟨qc, qn⟩, hi, ⟨l, len⟩, ss⟩ := ψ
  have hW0 := hW
  obtain ⟨⟨x1, x2, x3, x4⟩, x5, ⟨sf, x6, x7⟩, ⟨cN, lN⟩, ⟨⟨t, cT⟩, lT⟩, pP, ⟨cI, lI⟩, pI, ⟨⟨pl, tT⟩, lTp, hlen⟩, ⟨⟨pls, pPl⟩, lPl⟩, hS⟩ := hW
  simp only at cN lN cT lT pP cI lI pI tT lTp hlen pPl lPl hS x6 x7
  obtain ⟨⟨m1, m2, m3, m4⟩, e1, e2, e3, e4⟩ := id cN
  simp only [XE, ColE, iA] at x1 x2 x5 m1 m2 m3 m4 e1 e2 e3 e4
  have hP := hpre.1
  simp only at hP
  have hk := h σ _ _ rfl frm.rf hW0
  simp only at hk
  obtain ⟨pm, pmm, ⟨⟨v1, v2, v3⟩, f1, -⟩, -⟩ := id pP
  simp only [PstE] at f1
  refine ⟨Nat.le_of_ble_eq_true rfl, yvc_ok (uX6_count Γ) (S := []) 60 _ _ _ _ ?_⟩
  simp only [lv_args, Value.category, x1, x5, m1, e1, v1, f1, yvc_s, s1i, s2i, s1l, s2l, sil, s1r, sir, siir, slir, srir, svr, sd1, sd2, lg, lput, ldel, isL_i, isL_r, isL_l, jmp, obj, obj1, fI, fR, arI, arL, arR, hput, f4_0, f4_1, f4_2, f4_3, lc_0, lc_1, rok_i, rok_b, rok_y, strF, fput_1, fput_2, csum_nil, csum_i, csum_l, csum_r, va_up_self, bx_uu, Int.reduceAdd, List.elem_nil, List.elem_cons, List.take_succ_cons, List.take_zero, List.drop_succ_cons, List.drop_zero, List.take_nil, List.drop_nil, List.reverse_cons, List.reverse_nil, List.nil_append, List.cons_append, List.append_nil, Option.toList_some, Option.toList_none, List.getElem?_cons_zero, List.getElem?_cons_succ, List.set_cons_zero, List.set_cons_succ, List.length_cons, List.length_nil, reduceIte, reduceCtorEq, and_true, true_and, and_self, or_true, true_or, false_and, and_false, not_true_eq_false, not_false_eq_true, true_implies, false_implies, implies_true, Nat.reduceAdd, Nat.reduceLT, Nat.reduceEqDiff, Nat.reduceLeDiff, Nat.reduceBEq, Nat.zero_add, Nat.lt_add_one, Bool.false_eq_true, Bool.or_false, Bool.or_true, Bool.or_self, Nat.zero_ne_one, Nat.one_ne_zero, ite_true, ite_false, ne_eq, Nat.reduceSub, Nat.succ_eq_add_one, Nat.zero_lt_succ, Nat.add_one_ne_zero, false_or, or_false, mX6_count_c, mX6_count_n, mX6_count_r, mX6_count_l, dX6_count_0, dX6_count_1, tg_1_111, tg_1_47, tg_1_55, tg_1_63, tg_1_71, tg_1_79, tg_1_87, tg_1_95, tg_1_103, swl, ic_0, ic_1, ic_2, ic_3, ic_4, ic_5, ic_6, ic_7, dX6_count_48, dX6_count_49, fl_6_10_6, dX6_count_52, fl_6_61_0, dX6_count_55, dX6_count_56, dX6_count_57, dX6_count_60, fl_6_115_0, dX6_count_63, dX6_count_64, dX6_count_65, dX6_count_68, fl_6_72_0, dX6_count_71, dX6_count_72, dX6_count_73, dX6_count_76, fl_6_118_0, dX6_count_79, dX6_count_80, dX6_count_81, dX6_count_84, dX6_count_87, dX6_count_88, dX6_count_89, dX6_count_92, dX6_count_95, dX6_count_96, dX6_count_97, dX6_count_100, dX6_count_103, dX6_count_104, dX6_count_105, fl_6_22_6, dX6_count_108, fl_6_138_2, dX6_count_111, dX6_count_112, ic_m1, dX6_count_113, jX6_count_0_128, jX6_count_0_132, jX6_count_0_135, st_aload_n, st_getfield, st_iconst, st_iload_n, st_invokevirtual, st_ireturn, st_tableswitch]
  refine ⟨rfl, ⟨fun d => ?_, fun d => ?_, fun d => ?_, fun d => ?_, fun d => ?_, fun d => ?_, fun d => ?_, fun d => ?_⟩, fun d => ?_⟩
  · subst d
    exact hk
  · subst d
    exact hk
  · subst d
    exact hk
  · subst d
    exact hk
  · subst d
    refine ⟨(n0, n1, n2, n3), _, rfl, cN, ?_⟩
    refine yvc_ok (uX6_count Γ) (S := []) 60 _ _ _ _ ?_
    simp only [yvc_s, s1i, s2i, s1l, s2l, sil, s1r, sir, siir, slir, srir, svr, sd1, sd2, lg, lput, ldel, isL_i, isL_r, isL_l, jmp, obj, obj1, fI, fR, arI, arL, arR, hput, f4_0, f4_1, f4_2, f4_3, lc_0, lc_1, rok_i, rok_b, rok_y, strF, fput_1, fput_2, csum_nil, csum_i, csum_l, csum_r, va_up_self, bx_uu, Int.reduceAdd, List.elem_nil, List.elem_cons, List.take_succ_cons, List.take_zero, List.drop_succ_cons, List.drop_zero, List.take_nil, List.drop_nil, List.reverse_cons, List.reverse_nil, List.nil_append, List.cons_append, List.append_nil, Option.toList_some, Option.toList_none, List.getElem?_cons_zero, List.getElem?_cons_succ, List.set_cons_zero, List.set_cons_succ, List.length_cons, List.length_nil, reduceIte, reduceCtorEq, and_true, true_and, and_self, or_true, true_or, false_and, and_false, not_true_eq_false, not_false_eq_true, true_implies, false_implies, implies_true, Nat.reduceAdd, Nat.reduceLT, Nat.reduceEqDiff, Nat.reduceLeDiff, Nat.reduceBEq, Nat.zero_add, Nat.lt_add_one, Bool.false_eq_true, Bool.or_false, Bool.or_true, Bool.or_self, Nat.zero_ne_one, Nat.one_ne_zero, ite_true, ite_false, ne_eq, Nat.reduceSub, Nat.succ_eq_add_one, Nat.zero_lt_succ, Nat.add_one_ne_zero, false_or, or_false, mX6_count_c, mX6_count_n, mX6_count_r, mX6_count_l, dX6_count_0, dX6_count_1, tg_1_111, tg_1_47, tg_1_55, tg_1_63, tg_1_71, tg_1_79, tg_1_87, tg_1_95, tg_1_103, swl, ic_0, ic_1, ic_2, ic_3, ic_4, ic_5, ic_6, ic_7, dX6_count_48, dX6_count_49, fl_6_10_6, dX6_count_52, fl_6_61_0, dX6_count_55, dX6_count_56, dX6_count_57, dX6_count_60, fl_6_115_0, dX6_count_63, dX6_count_64, dX6_count_65, dX6_count_68, fl_6_72_0, dX6_count_71, dX6_count_72, dX6_count_73, dX6_count_76, fl_6_118_0, dX6_count_79, dX6_count_80, dX6_count_81, dX6_count_84, dX6_count_87, dX6_count_88, dX6_count_89, dX6_count_92, dX6_count_95, dX6_count_96, dX6_count_97, dX6_count_100, dX6_count_103, dX6_count_104, dX6_count_105, fl_6_22_6, dX6_count_108, fl_6_138_2, dX6_count_111, dX6_count_112, ic_m1, dX6_count_113, jX6_count_0_128, jX6_count_0_132, jX6_count_0_135, st_aload_n, st_getfield, st_iconst, st_iload_n, st_invokevirtual, st_ireturn, st_tableswitch]
    exact hk
  · subst d
    refine ⟨(n0, n1, n2, n3), _, rfl, hP, cN, ?_⟩
    refine yvc_ok (uX6_count Γ) (S := []) 60 _ _ _ _ ?_
    simp only [yvc_s, s1i, s2i, s1l, s2l, sil, s1r, sir, siir, slir, srir, svr, sd1, sd2, lg, lput, ldel, isL_i, isL_r, isL_l, jmp, obj, obj1, fI, fR, arI, arL, arR, hput, f4_0, f4_1, f4_2, f4_3, lc_0, lc_1, rok_i, rok_b, rok_y, strF, fput_1, fput_2, csum_nil, csum_i, csum_l, csum_r, va_up_self, bx_uu, Int.reduceAdd, List.elem_nil, List.elem_cons, List.take_succ_cons, List.take_zero, List.drop_succ_cons, List.drop_zero, List.take_nil, List.drop_nil, List.reverse_cons, List.reverse_nil, List.nil_append, List.cons_append, List.append_nil, Option.toList_some, Option.toList_none, List.getElem?_cons_zero, List.getElem?_cons_succ, List.set_cons_zero, List.set_cons_succ, List.length_cons, List.length_nil, reduceIte, reduceCtorEq, and_true, true_and, and_self, or_true, true_or, false_and, and_false, not_true_eq_false, not_false_eq_true, true_implies, false_implies, implies_true, Nat.reduceAdd, Nat.reduceLT, Nat.reduceEqDiff, Nat.reduceLeDiff, Nat.reduceBEq, Nat.zero_add, Nat.lt_add_one, Bool.false_eq_true, Bool.or_false, Bool.or_true, Bool.or_self, Nat.zero_ne_one, Nat.one_ne_zero, ite_true, ite_false, ne_eq, Nat.reduceSub, Nat.succ_eq_add_one, Nat.zero_lt_succ, Nat.add_one_ne_zero, false_or, or_false, mX6_count_c, mX6_count_n, mX6_count_r, mX6_count_l, dX6_count_0, dX6_count_1, tg_1_111, tg_1_47, tg_1_55, tg_1_63, tg_1_71, tg_1_79, tg_1_87, tg_1_95, tg_1_103, swl, ic_0, ic_1, ic_2, ic_3, ic_4, ic_5, ic_6, ic_7, dX6_count_48, dX6_count_49, fl_6_10_6, dX6_count_52, fl_6_61_0, dX6_count_55, dX6_count_56, dX6_count_57, dX6_count_60, fl_6_115_0, dX6_count_63, dX6_count_64, dX6_count_65, dX6_count_68, fl_6_72_0, dX6_count_71, dX6_count_72, dX6_count_73, dX6_count_76, fl_6_118_0, dX6_count_79, dX6_count_80, dX6_count_81, dX6_count_84, dX6_count_87, dX6_count_88, dX6_count_89, dX6_count_92, dX6_count_95, dX6_count_96, dX6_count_97, dX6_count_100, dX6_count_103, dX6_count_104, dX6_count_105, fl_6_22_6, dX6_count_108, fl_6_138_2, dX6_count_111, dX6_count_112, ic_m1, dX6_count_113, jX6_count_0_128, jX6_count_0_132, jX6_count_0_135, st_aload_n, st_getfield, st_iconst, st_iload_n, st_invokevirtual, st_ireturn, st_tableswitch]
    exact hk
  · subst d
    refine ⟨(n0, n1, n2, n3), _, rfl, cN, ?_⟩
    refine yvc_ok (uX6_count Γ) (S := []) 60 _ _ _ _ ?_
    simp only [yvc_s, s1i, s2i, s1l, s2l, sil, s1r, sir, siir, slir, srir, svr, sd1, sd2, lg, lput, ldel, isL_i, isL_r, isL_l, jmp, obj, obj1, fI, fR, arI, arL, arR, hput, f4_0, f4_1, f4_2, f4_3, lc_0, lc_1, rok_i, rok_b, rok_y, strF, fput_1, fput_2, csum_nil, csum_i, csum_l, csum_r, va_up_self, bx_uu, Int.reduceAdd, List.elem_nil, List.elem_cons, List.take_succ_cons, List.take_zero, List.drop_succ_cons, List.drop_zero, List.take_nil, List.drop_nil, List.reverse_cons, List.reverse_nil, List.nil_append, List.cons_append, List.append_nil, Option.toList_some, Option.toList_none, List.getElem?_cons_zero, List.getElem?_cons_succ, List.set_cons_zero, List.set_cons_succ, List.length_cons, List.length_nil, reduceIte, reduceCtorEq, and_true, true_and, and_self, or_true, true_or, false_and, and_false, not_true_eq_false, not_false_eq_true, true_implies, false_implies, implies_true, Nat.reduceAdd, Nat.reduceLT, Nat.reduceEqDiff, Nat.reduceLeDiff, Nat.reduceBEq, Nat.zero_add, Nat.lt_add_one, Bool.false_eq_true, Bool.or_false, Bool.or_true, Bool.or_self, Nat.zero_ne_one, Nat.one_ne_zero, ite_true, ite_false, ne_eq, Nat.reduceSub, Nat.succ_eq_add_one, Nat.zero_lt_succ, Nat.add_one_ne_zero, false_or, or_false, mX6_count_c, mX6_count_n, mX6_count_r, mX6_count_l, dX6_count_0, dX6_count_1, tg_1_111, tg_1_47, tg_1_55, tg_1_63, tg_1_71, tg_1_79, tg_1_87, tg_1_95, tg_1_103, swl, ic_0, ic_1, ic_2, ic_3, ic_4, ic_5, ic_6, ic_7, dX6_count_48, dX6_count_49, fl_6_10_6, dX6_count_52, fl_6_61_0, dX6_count_55, dX6_count_56, dX6_count_57, dX6_count_60, fl_6_115_0, dX6_count_63, dX6_count_64, dX6_count_65, dX6_count_68, fl_6_72_0, dX6_count_71, dX6_count_72, dX6_count_73, dX6_count_76, fl_6_118_0, dX6_count_79, dX6_count_80, dX6_count_81, dX6_count_84, dX6_count_87, dX6_count_88, dX6_count_89, dX6_count_92, dX6_count_95, dX6_count_96, dX6_count_97, dX6_count_100, dX6_count_103, dX6_count_104, dX6_count_105, fl_6_22_6, dX6_count_108, fl_6_138_2, dX6_count_111, dX6_count_112, ic_m1, dX6_count_113, jX6_count_0_128, jX6_count_0_132, jX6_count_0_135, st_aload_n, st_getfield, st_iconst, st_iload_n, st_invokevirtual, st_ireturn, st_tableswitch]
    exact hk
  · subst d
    exact hk
  · have q : ∀ y : Int32, ¬ y.toInt < 0 → ¬ 7 < y.toInt → ¬ a = y := fun y h1 h2 => d.elim (fun z => toInt_lo z h1) (fun z => toInt_hi z h2)
    rw [if_neg (q 0 (by decide) (by decide)), if_neg (q 1 (by decide) (by decide)), if_neg (q 2 (by decide) (by decide)), if_neg (q 3 (by decide) (by decide)), if_neg (q 4 (by decide) (by decide)), if_neg (q 5 (by decide) (by decide)), if_neg (q 6 (by decide) (by decide)), if_neg (q 7 (by decide) (by decide))] at hk
    exact hk
def x_talk (p d k : Int32) (ψ : XS) : XS × Int32 := if inr p 0 (nI ψ.1.2.2.2.2.2.2.1 - 1) = true ∧ inr d 0 3 = true ∧ inr k 1 20 = true then (if ψ.1.1 (ix p d) < 20 then (((wmore ψ.1.1 p d k, ψ.1.2), ψ.2.1, (remM ψ.2.2.1.1 ψ.2.2.1.2 (mom ψ.1), remN ψ.2.2.1.2), ψ.2.2.2), wmore ψ.1.1 p d k (ix p d)) else (ψ, -2)) else (ψ, -1)
def sp_X6_talk (Γ : Cx) : YSp := fun av σ K => ∃ a b c : Int32, xq Γ [.int a, .int b, .int c] (fn (x_talk a b c)) PX av σ K
theorem rv_X6_talk {Γ : Cx} : Recv (sp_X6_talk Γ) 3 6 := by
  intro av σ K h
  obtain ⟨a, b, c, h⟩ := h
  obtain ⟨q, fs, h1, h2, h3⟩ := rv_xq h
  exact ⟨q, _, fs, h1, rfl, h2, h3⟩
theorem bw_495 : Cond.code yX2_remember cX2_remember 2 none ∈ BW := bw_i 495 (by decide +kernel) (by decide +kernel)
theorem no_X2_remember : NameOK yX2_remember 1 := by unfold NameOK; decide +kernel
theorem bw_492 : Cond.methodLink RX6 145 yX2_remember ∈ BW := bw_i 492 (by decide +kernel) (by decide +kernel)
theorem bw_493 : Cond.instanceMethod yX2_remember ∈ BW := bw_i 493 (by decide +kernel) (by decide +kernel)
theorem bw_494 : Cond.selects RX2 yX2_remember yX2_remember ∈ BW := bw_i 494 (by decide +kernel) (by decide +kernel)
theorem bw_528 : Cond.methodLink RX6 149 yX0_wantMore ∈ BW := bw_i 528 (by decide +kernel) (by decide +kernel)
theorem tg_8_20 : tgo 8 20 = some 28 := by decide
theorem tg_15_13 : tgo 15 13 = some 28 := by decide
theorem tg_25_5 : tgo 25 5 = some 30 := by decide
theorem tg_41_6 : tgo 41 6 = some 47 := by decide
theorem bc_m2 : (Int8.ofInt (-2)).toInt32 = (-2) := by decide
def mX6_talk : Mt := (⟨3, 0, 0, 102⟩, RX6, cX6_talk, 4, some .int, (0, 0), none)
theorem mX6_talk_c : mX6_talk.2.2.1 = cX6_talk := rfl
theorem mX6_talk_n : mX6_talk.2.2.2.1 = 4 := rfl
theorem mX6_talk_r : mX6_talk.2.2.2.2.1 = some .int := rfl
theorem mX6_talk_l : mX6_talk.2.2.2.2.2.2 = none := rfl
def jX6_talk (Γ : Cx) : List ((Nat × Nat) × Nat × Bool × YSp) := [((0, 75), 2, true, sp_X0_has Γ), ((1, 79), 1, true, sp_X6_isDoor Γ), ((1, 57), 3, true, sp_X6_within Γ), ((0, 82), 3, true, sp_X0_wantOf Γ), ((0, 145), 2, false, sp_X2_remember Γ), ((0, 149), 4, false, sp_X0_wantMore Γ)]
theorem jX6_talk_0_75 (Γ : Cx) : kT (jX6_talk Γ) 0 75 = some (2, true, sp_X0_has Γ) := rfl
theorem jX6_talk_1_79 (Γ : Cx) : kT (jX6_talk Γ) 1 79 = some (1, true, sp_X6_isDoor Γ) := rfl
theorem jX6_talk_1_57 (Γ : Cx) : kT (jX6_talk Γ) 1 57 = some (3, true, sp_X6_within Γ) := rfl
theorem jX6_talk_0_82 (Γ : Cx) : kT (jX6_talk Γ) 0 82 = some (3, true, sp_X0_wantOf Γ) := rfl
theorem jX6_talk_0_145 (Γ : Cx) : kT (jX6_talk Γ) 0 145 = some (2, false, sp_X2_remember Γ) := rfl
theorem jX6_talk_0_149 (Γ : Cx) : kT (jX6_talk Γ) 0 149 = some (4, false, sp_X0_wantMore Γ) := rfl
theorem uX6_talk (Γ : Cx) : TbOK Γ mX6_talk (fT fX6, cT kX6, kT (jX6_talk Γ)) := tb_ok fX6_ok kX6_ok (all_cons ⟨call_V (n := 1) (T := TX0) (N := 9) (ok_X0_has Γ) (rv_X0_has (Γ := Γ)) rfl bw_265 bw_262 bw_263 bw_264 bw_44 no_X0_has ⟨⟨rfl, rfl⟩, ⟨by decide, by decide⟩, ⟨by decide, by decide⟩⟩, fun _ => mono_X0_has (Γ := Γ)⟩ (all_cons ⟨call_S (n := 1) (ok_X6_isDoor Γ) (rv_X6_isDoor (Γ := Γ)) bw_269 bw_267 bw_268 bw_42 no_X6_isDoor ⟨⟨rfl, rfl⟩, ⟨by decide, by decide⟩, ⟨by decide, by decide⟩⟩, fun _ => mono_X6_isDoor (Γ := Γ)⟩ (all_cons ⟨call_S (n := 3) (ok_X6_within Γ) (rv_X6_within (Γ := Γ)) bw_241 bw_239 bw_240 bw_42 no_X6_within ⟨⟨rfl, rfl⟩, ⟨by decide, by decide⟩, ⟨by decide, by decide⟩⟩, fun _ => mono_X6_within (Γ := Γ)⟩ (all_cons ⟨call_V (n := 2) (T := TX0) (N := 9) (ok_X0_wantOf Γ) (rv_X0_wantOf (Γ := Γ)) rfl bw_273 bw_270 bw_271 bw_272 bw_44 no_X0_wantOf ⟨⟨rfl, rfl⟩, ⟨by decide, by decide⟩, ⟨by decide, by decide⟩⟩, fun _ => mono_X0_wantOf (Γ := Γ)⟩ (all_cons ⟨call_V (n := 1) (T := TX2) (N := 2) (ok_X2_remember Γ) (rv_X2_remember (Γ := Γ)) rfl bw_495 bw_492 bw_493 bw_494 bw_45 no_X2_remember ⟨⟨rfl, rfl⟩, ⟨by decide, by decide⟩, ⟨by decide, by decide⟩⟩, fun z => by cases z⟩ (all_cons ⟨call_V (n := 3) (T := TX0) (N := 9) (ok_X0_wantMore Γ) (rv_X0_wantMore (Γ := Γ)) rfl bw_512 bw_528 bw_510 bw_511 bw_44 no_X0_wantMore ⟨⟨rfl, rfl⟩, ⟨by decide, by decide⟩, ⟨by decide, by decide⟩⟩, fun z => by cases z⟩ (all_nil)))))))
theorem disL {lab : Nat → Nat} {A : CA} {j k : Nat} (hA : ∀ q, CF A q → lab q = j) (h : j ≠ k) : ∀ q, CF A q → ¬ fL lab k q := fun q hq z => h ((hA q hq).symm.trans z)
set_option maxRecDepth 20000 in
theorem ok_X6_talk (Γ : Cx) : Ok Γ yX6_talk mX6_talk (sp_X6_talk Γ) := by
  refine ok_intro (by decide +kernel) rfl rfl ?_
  intro av σ K h
  obtain ⟨a, b, c, lab, X, ψ, rfl, hW, hpre, h⟩ := h
  obtain ⟨x, sh, ⟨n0, n1, n2, n3⟩, ⟨t0, t1, t2, t3⟩, p, ⟨i0, i1, i2, i3⟩, ip, ⟨ta, tl⟩, ⟨pa, pk⟩, S⟩ := X
  obtain ⟨⟨w, kp, kd, day, gone, draw, P, rule, gd⟩, si, ⟨pc, pn⟩, ⟨qc, qn⟩, hi, ⟨l, len⟩, ss⟩ := ψ
  have hW0 := hW
  obtain ⟨⟨x1, x2, x3, x4⟩, x5, ⟨sf, x6, x7⟩, ⟨cN, lN⟩, ⟨⟨t, cT⟩, lT⟩, pP, ⟨cI, lI⟩, pI, ⟨⟨pl, tT⟩, lTp, hlen⟩, ⟨⟨pls, pPl⟩, lPl⟩, hS⟩ := hW
  simp only at cN lN cT lT pP cI lI pI tT lTp hlen pPl lPl hS x6 x7
  obtain ⟨⟨m1, m2, m3, m4⟩, e1, e2, e3, e4⟩ := id cN
  simp only [XE, ColE, iA] at x1 x2 x5 m1 m2 m3 m4 e1 e2 e3 e4
  have hP := hpre.1
  simp only at hP
  unfold fn x_talk at h
  simp only at h
  have hno : ¬ (inr a 0 (nI P - 1) = true ∧ inr b 0 3 = true ∧ inr c 1 20 = true) → K (some (.int (-1))) σ := fun z => by
    rw [if_neg z] at h
    exact h σ _ _ rfl frm.rf hW0
  refine ⟨Nat.le_of_ble_eq_true rfl, yvc_ok (uX6_talk Γ) (S := []) 60 _ _ _ _ ?_⟩
  simp only [lv_args, Value.category, x1, x5, m1, m2, e1, e2, sp_X6_isDoor, sp_X6_within, sp_X0_has, sp_X0_wantOf, bI_eq0, Bool.not_eq_false, yvc_s, s1i, s2i, s1l, s2l, sil, s1r, sir, siir, slir, srir, svr, sd1, sd2, lg, lput, ldel, isL_i, isL_r, isL_l, jmp, obj, obj1, fI, fR, arI, arL, arR, hput, f4_0, f4_1, f4_2, f4_3, lc_0, lc_1, rok_i, rok_b, rok_y, strF, fput_1, fput_2, csum_nil, csum_i, csum_l, csum_r, va_up_self, bx_uu, Int.reduceAdd, List.elem_nil, List.elem_cons, List.take_succ_cons, List.take_zero, List.drop_succ_cons, List.drop_zero, List.take_nil, List.drop_nil, List.reverse_cons, List.reverse_nil, List.nil_append, List.cons_append, List.append_nil, Option.toList_some, Option.toList_none, List.getElem?_cons_zero, List.getElem?_cons_succ, List.set_cons_zero, List.set_cons_succ, List.length_cons, List.length_nil, reduceIte, reduceCtorEq, and_true, true_and, and_self, or_true, true_or, false_and, and_false, not_true_eq_false, not_false_eq_true, true_implies, false_implies, implies_true, Nat.reduceAdd, Nat.reduceLT, Nat.reduceEqDiff, Nat.reduceLeDiff, Nat.reduceBEq, Nat.zero_add, Nat.lt_add_one, Bool.false_eq_true, Bool.or_false, Bool.or_true, Bool.or_self, Nat.zero_ne_one, Nat.one_ne_zero, ite_true, ite_false, ne_eq, Nat.reduceSub, Nat.succ_eq_add_one, Nat.zero_lt_succ, Nat.add_one_ne_zero, false_or, or_false, mX6_talk_c, mX6_talk_n, mX6_talk_r, mX6_talk_l, dX6_talk_0, dX6_talk_1, fl_6_10_6, dX6_talk_4, dX6_talk_5, dX6_talk_8, tg_8_20, cnd1_eq, dX6_talk_11, dX6_talk_12, dX6_talk_15, tg_15_13, dX6_talk_18, dX6_talk_19, ic_1, dX6_talk_20, bc_20, dX6_talk_22, dX6_talk_25, tg_25_5, cnd1_ne, dX6_talk_28, ic_m1, dX6_talk_29, dX6_talk_30, dX6_talk_31, dX6_talk_34, dX6_talk_35, dX6_talk_36, dX6_talk_39, dX6_talk_41, tg_41_6, cnd2_lt, dX6_talk_44, bc_m2, dX6_talk_46, dX6_talk_47, dX6_talk_48, fl_6_22_6, dX6_talk_51, dX6_talk_52, dX6_talk_55, dX6_talk_58, dX6_talk_59, dX6_talk_62, dX6_talk_63, dX6_talk_64, dX6_talk_65, dX6_talk_68, dX6_talk_69, dX6_talk_72, dX6_talk_73, dX6_talk_74, dX6_talk_77, jX6_talk_0_75, jX6_talk_1_79, jX6_talk_1_57, jX6_talk_0_82, jX6_talk_0_145, jX6_talk_0_149, st_aload_n, st_bipush, st_getfield, st_iconst, st_ifCond, st_if_icmp, st_iload_n, st_invokestatic, st_invokevirtual, st_ireturn]
  refine ⟨fun c1 => hno (fun z => by rw [c1] at z; cases z.1), fun c1 => ⟨fun c2 => hno (fun z => by rw [c2] at z; cases z.2.1), fun c2 => ⟨fun c3 => ?_, fun c3 => hno (fun z => c3 z.2.2)⟩⟩⟩
  rw [if_pos ⟨c1, c2, c3⟩] at h
  obtain ⟨q, hq, rfl⟩ := has_n hP c1
  obtain ⟨r, hr, rfl⟩ := door_n c2
  have hin := ix_in (show q < 5 by omega) hr
  refine ⟨hin, fun c4 => ?_, fun c4 => ?_⟩
  · rw [if_pos c4] at h
    refine ⟨fL lab 3, p, pc, pn, (n0, n1, n2, n3), _, rfl, pP, cN, disL lN (by decide), fun σ1 hf1 hP1 => ?_⟩
    have hW1 := hW0.sP hf1 hP1
    simp only at hW1
    obtain ⟨⟨y1, -⟩, y5, -, ⟨cN1, -⟩, -⟩ := id hW1
    simp only [XE] at y1 y5 cN1
    refine yvc_ok (uX6_talk Γ) (S := []) 60 _ _ _ _ ?_
    simp only [y1, y5, yvc_s, s1i, s2i, s1l, s2l, sil, s1r, sir, siir, slir, srir, svr, sd1, sd2, lg, lput, ldel, isL_i, isL_r, isL_l, jmp, obj, obj1, fI, fR, arI, arL, arR, hput, f4_0, f4_1, f4_2, f4_3, lc_0, lc_1, rok_i, rok_b, rok_y, strF, fput_1, fput_2, csum_nil, csum_i, csum_l, csum_r, va_up_self, bx_uu, Int.reduceAdd, List.elem_nil, List.elem_cons, List.take_succ_cons, List.take_zero, List.drop_succ_cons, List.drop_zero, List.take_nil, List.drop_nil, List.reverse_cons, List.reverse_nil, List.nil_append, List.cons_append, List.append_nil, Option.toList_some, Option.toList_none, List.getElem?_cons_zero, List.getElem?_cons_succ, List.set_cons_zero, List.set_cons_succ, List.length_cons, List.length_nil, reduceIte, reduceCtorEq, and_true, true_and, and_self, or_true, true_or, false_and, and_false, not_true_eq_false, not_false_eq_true, true_implies, false_implies, implies_true, Nat.reduceAdd, Nat.reduceLT, Nat.reduceEqDiff, Nat.reduceLeDiff, Nat.reduceBEq, Nat.zero_add, Nat.lt_add_one, Bool.false_eq_true, Bool.or_false, Bool.or_true, Bool.or_self, Nat.zero_ne_one, Nat.one_ne_zero, ite_true, ite_false, ne_eq, Nat.reduceSub, Nat.succ_eq_add_one, Nat.zero_lt_succ, Nat.add_one_ne_zero, false_or, or_false, mX6_talk_c, mX6_talk_n, mX6_talk_r, mX6_talk_l, dX6_talk_0, dX6_talk_1, fl_6_10_6, dX6_talk_4, dX6_talk_5, dX6_talk_8, tg_8_20, cnd1_eq, dX6_talk_11, dX6_talk_12, dX6_talk_15, tg_15_13, dX6_talk_18, dX6_talk_19, ic_1, dX6_talk_20, bc_20, dX6_talk_22, dX6_talk_25, tg_25_5, cnd1_ne, dX6_talk_28, ic_m1, dX6_talk_29, dX6_talk_30, dX6_talk_31, dX6_talk_34, dX6_talk_35, dX6_talk_36, dX6_talk_39, dX6_talk_41, tg_41_6, cnd2_lt, dX6_talk_44, bc_m2, dX6_talk_46, dX6_talk_47, dX6_talk_48, fl_6_22_6, dX6_talk_51, dX6_talk_52, dX6_talk_55, dX6_talk_58, dX6_talk_59, dX6_talk_62, dX6_talk_63, dX6_talk_64, dX6_talk_65, dX6_talk_68, dX6_talk_69, dX6_talk_72, dX6_talk_73, dX6_talk_74, dX6_talk_77, jX6_talk_0_75, jX6_talk_1_79, jX6_talk_1_57, jX6_talk_0_82, jX6_talk_0_145, jX6_talk_0_149, st_aload_n, st_bipush, st_getfield, st_iconst, st_ifCond, st_if_icmp, st_iload_n, st_invokestatic, st_invokevirtual, st_ireturn]
    refine ⟨(n0, n1, n2, n3), _, _, _, _, rfl, cN1, hin, ?_⟩
    have hc2 := cN1.set (wmore w (nI q) (nI r) c, kp, kd, day, gone, draw, P, rule, gd)
    have hW2 := hW1.sN (csetL (Γ := Γ) lN) hc2
    have hfr : frm (fX lab) σ (cset Γ (n0, n1, n2, n3) (wmore w (nI q) (nI r) c, kp, kd, day, gone, draw, P, rule, gd) σ1) := (frmX hf1 (by decide)).tr (frmX (csetL lN) (by decide))
    have hk := h _ _ _ rfl hfr hW2
    simp only at hW2 ⊢
    generalize cset Γ (n0, n1, n2, n3) (wmore w (nI q) (nI r) c, kp, kd, day, gone, draw, P, rule, gd) σ1 = σ2 at hc2 hW2 hk ⊢
    obtain ⟨⟨y1, -⟩, y5, -⟩ := id hW2
    obtain ⟨⟨u1, u2, u3, u4⟩, g1, g2, g3, g4⟩ := id hc2
    simp only [XE, ColE, iA] at y1 y5 u1 u2 g1 g2
    refine yvc_ok (uX6_talk Γ) (S := []) 60 _ _ _ _ ?_
    simp only [y1, y5, u1, u2, g1, g2, sp_X0_wantOf, yvc_s, s1i, s2i, s1l, s2l, sil, s1r, sir, siir, slir, srir, svr, sd1, sd2, lg, lput, ldel, isL_i, isL_r, isL_l, jmp, obj, obj1, fI, fR, arI, arL, arR, hput, f4_0, f4_1, f4_2, f4_3, lc_0, lc_1, rok_i, rok_b, rok_y, strF, fput_1, fput_2, csum_nil, csum_i, csum_l, csum_r, va_up_self, bx_uu, Int.reduceAdd, List.elem_nil, List.elem_cons, List.take_succ_cons, List.take_zero, List.drop_succ_cons, List.drop_zero, List.take_nil, List.drop_nil, List.reverse_cons, List.reverse_nil, List.nil_append, List.cons_append, List.append_nil, Option.toList_some, Option.toList_none, List.getElem?_cons_zero, List.getElem?_cons_succ, List.set_cons_zero, List.set_cons_succ, List.length_cons, List.length_nil, reduceIte, reduceCtorEq, and_true, true_and, and_self, or_true, true_or, false_and, and_false, not_true_eq_false, not_false_eq_true, true_implies, false_implies, implies_true, Nat.reduceAdd, Nat.reduceLT, Nat.reduceEqDiff, Nat.reduceLeDiff, Nat.reduceBEq, Nat.zero_add, Nat.lt_add_one, Bool.false_eq_true, Bool.or_false, Bool.or_true, Bool.or_self, Nat.zero_ne_one, Nat.one_ne_zero, ite_true, ite_false, ne_eq, Nat.reduceSub, Nat.succ_eq_add_one, Nat.zero_lt_succ, Nat.add_one_ne_zero, false_or, or_false, mX6_talk_c, mX6_talk_n, mX6_talk_r, mX6_talk_l, dX6_talk_0, dX6_talk_1, fl_6_10_6, dX6_talk_4, dX6_talk_5, dX6_talk_8, tg_8_20, cnd1_eq, dX6_talk_11, dX6_talk_12, dX6_talk_15, tg_15_13, dX6_talk_18, dX6_talk_19, ic_1, dX6_talk_20, bc_20, dX6_talk_22, dX6_talk_25, tg_25_5, cnd1_ne, dX6_talk_28, ic_m1, dX6_talk_29, dX6_talk_30, dX6_talk_31, dX6_talk_34, dX6_talk_35, dX6_talk_36, dX6_talk_39, dX6_talk_41, tg_41_6, cnd2_lt, dX6_talk_44, bc_m2, dX6_talk_46, dX6_talk_47, dX6_talk_48, fl_6_22_6, dX6_talk_51, dX6_talk_52, dX6_talk_55, dX6_talk_58, dX6_talk_59, dX6_talk_62, dX6_talk_63, dX6_talk_64, dX6_talk_65, dX6_talk_68, dX6_talk_69, dX6_talk_72, dX6_talk_73, dX6_talk_74, dX6_talk_77, jX6_talk_0_75, jX6_talk_1_79, jX6_talk_1_57, jX6_talk_0_82, jX6_talk_0_145, jX6_talk_0_149, st_aload_n, st_bipush, st_getfield, st_iconst, st_ifCond, st_if_icmp, st_iload_n, st_invokestatic, st_invokevirtual, st_ireturn]
    exact ⟨hin, hk⟩
  · rw [if_neg c4] at h
    exact h σ _ _ rfl frm.rf hW0
def x_give (d p : Int32) (ψ : XS) : XS × Int32 := if inr d 0 3 = true ∧ (p = -4 ∨ inr p 0 (nI ψ.1.2.2.2.2.2.2.1 - 1) = true) then (if ψ.1.2.1 d.toNatClampNeg = p then (ψ, -2) else (((ψ.1.1, upd ψ.1.2.1 d.toNatClampNeg p, ψ.1.2.2), ψ.2.1, (remM ψ.2.2.1.1 ψ.2.2.1.2 (mom ψ.1), remN ψ.2.2.1.2), ψ.2.2.2), ψ.1.2.1 d.toNatClampNeg)) else (ψ, -1)
def sp_X6_give (Γ : Cx) : YSp := fun av σ K => ∃ a b : Int32, xq Γ [.int a, .int b] (fn (x_give a b)) PX av σ K
theorem rv_X6_give {Γ : Cx} : Recv (sp_X6_give Γ) 2 6 := by
  intro av σ K h
  obtain ⟨a, b, h⟩ := h
  obtain ⟨q, fs, h1, h2, h3⟩ := rv_xq h
  exact ⟨q, _, fs, h1, rfl, h2, h3⟩
theorem tg_4_20 : tgo 4 20 = some 24 := by decide
theorem tg_10_16 : tgo 10 16 = some 26 := by decide
theorem tg_21_5 : tgo 21 5 = some 26 := by decide
theorem tg_38_6 : tgo 38 6 = some 44 := by decide
def mX6_give : Mt := (⟨3, 0, 0, 102⟩, RX6, cX6_give, 4, some .int, (0, 0), none)
theorem mX6_give_c : mX6_give.2.2.1 = cX6_give := rfl
theorem mX6_give_n : mX6_give.2.2.2.1 = 4 := rfl
theorem mX6_give_r : mX6_give.2.2.2.2.1 = some .int := rfl
theorem mX6_give_l : mX6_give.2.2.2.2.2.2 = none := rfl
def jX6_give (Γ : Cx) : List ((Nat × Nat) × Nat × Bool × YSp) := [((1, 79), 1, true, sp_X6_isDoor Γ), ((0, 75), 2, true, sp_X0_has Γ), ((0, 145), 2, false, sp_X2_remember Γ)]
theorem jX6_give_1_79 (Γ : Cx) : kT (jX6_give Γ) 1 79 = some (1, true, sp_X6_isDoor Γ) := rfl
theorem jX6_give_0_75 (Γ : Cx) : kT (jX6_give Γ) 0 75 = some (2, true, sp_X0_has Γ) := rfl
theorem jX6_give_0_145 (Γ : Cx) : kT (jX6_give Γ) 0 145 = some (2, false, sp_X2_remember Γ) := rfl
theorem uX6_give (Γ : Cx) : TbOK Γ mX6_give (fT fX6, cT kX6, kT (jX6_give Γ)) := tb_ok fX6_ok kX6_ok (all_cons ⟨call_S (n := 1) (ok_X6_isDoor Γ) (rv_X6_isDoor (Γ := Γ)) bw_269 bw_267 bw_268 bw_42 no_X6_isDoor ⟨⟨rfl, rfl⟩, ⟨by decide, by decide⟩, ⟨by decide, by decide⟩⟩, fun _ => mono_X6_isDoor (Γ := Γ)⟩ (all_cons ⟨call_V (n := 1) (T := TX0) (N := 9) (ok_X0_has Γ) (rv_X0_has (Γ := Γ)) rfl bw_265 bw_262 bw_263 bw_264 bw_44 no_X0_has ⟨⟨rfl, rfl⟩, ⟨by decide, by decide⟩, ⟨by decide, by decide⟩⟩, fun _ => mono_X0_has (Γ := Γ)⟩ (all_cons ⟨call_V (n := 1) (T := TX2) (N := 2) (ok_X2_remember Γ) (rv_X2_remember (Γ := Γ)) rfl bw_495 bw_492 bw_493 bw_494 bw_45 no_X2_remember ⟨⟨rfl, rfl⟩, ⟨by decide, by decide⟩, ⟨by decide, by decide⟩⟩, fun z => by cases z⟩ (all_nil))))
set_option maxRecDepth 20000 in
theorem ok_X6_give (Γ : Cx) : Ok Γ yX6_give mX6_give (sp_X6_give Γ) := by
  refine ok_intro (by decide +kernel) rfl rfl ?_
  intro av σ K h
  obtain ⟨a, b, lab, X, ψ, rfl, hW, hpre, h⟩ := h
  obtain ⟨x, sh, ⟨n0, n1, n2, n3⟩, ⟨t0, t1, t2, t3⟩, p, ⟨i0, i1, i2, i3⟩, ip, ⟨ta, tl⟩, ⟨pa, pk⟩, S⟩ := X
  obtain ⟨⟨w, kp, kd, day, gone, draw, P, rule, gd⟩, si, ⟨pc, pn⟩, ⟨qc, qn⟩, hi, ⟨l, len⟩, ss⟩ := ψ
  have hW0 := hW
  obtain ⟨⟨x1, x2, x3, x4⟩, x5, ⟨sf, x6, x7⟩, ⟨cN, lN⟩, ⟨⟨t, cT⟩, lT⟩, pP, ⟨cI, lI⟩, pI, ⟨⟨pl, tT⟩, lTp, hlen⟩, ⟨⟨pls, pPl⟩, lPl⟩, hS⟩ := hW
  simp only at cN lN cT lT pP cI lI pI tT lTp hlen pPl lPl hS x6 x7
  obtain ⟨⟨m1, m2, m3, m4⟩, e1, e2, e3, e4⟩ := id cN
  simp only [XE, ColE, iA] at x1 x2 x5 m1 m2 m3 m4 e1 e2 e3 e4
  unfold fn x_give at h
  simp only at h
  have hno : ¬ (inr a 0 3 = true ∧ (b = -4 ∨ inr b 0 (nI P - 1) = true)) → K (some (.int (-1))) σ := fun z => by
    rw [if_neg z] at h
    exact h σ _ _ rfl frm.rf hW0
  have go : (inr a 0 3 = true ∧ (b = -4 ∨ inr b 0 (nI P - 1) = true)) → YG Γ mX6_give K 26 [(0, .ref x), (1, .int a), (2, .int b)] [] σ := by
    intro z
    rw [if_pos z] at h
    obtain ⟨q, hq, rfl⟩ := door_n z.1
    obtain ⟨-, c2, c3⟩ := lt4 hq
    rw [c3] at h
    refine yvc_ok (uX6_give Γ) (S := []) 60 _ _ _ _ ?_
    simp only [x1, x5, m1, m3, e1, e3, c2, c3, yvc_s, s1i, s2i, s1l, s2l, sil, s1r, sir, siir, slir, srir, svr, sd1, sd2, lg, lput, ldel, isL_i, isL_r, isL_l, jmp, obj, obj1, fI, fR, arI, arL, arR, hput, f4_0, f4_1, f4_2, f4_3, lc_0, lc_1, rok_i, rok_b, rok_y, strF, fput_1, fput_2, csum_nil, csum_i, csum_l, csum_r, va_up_self, bx_uu, Int.reduceAdd, List.elem_nil, List.elem_cons, List.take_succ_cons, List.take_zero, List.drop_succ_cons, List.drop_zero, List.take_nil, List.drop_nil, List.reverse_cons, List.reverse_nil, List.nil_append, List.cons_append, List.append_nil, Option.toList_some, Option.toList_none, List.getElem?_cons_zero, List.getElem?_cons_succ, List.set_cons_zero, List.set_cons_succ, List.length_cons, List.length_nil, reduceIte, reduceCtorEq, and_true, true_and, and_self, or_true, true_or, false_and, and_false, not_true_eq_false, not_false_eq_true, true_implies, false_implies, implies_true, Nat.reduceAdd, Nat.reduceLT, Nat.reduceEqDiff, Nat.reduceLeDiff, Nat.reduceBEq, Nat.zero_add, Nat.lt_add_one, Bool.false_eq_true, Bool.or_false, Bool.or_true, Bool.or_self, Nat.zero_ne_one, Nat.one_ne_zero, ite_true, ite_false, ne_eq, Nat.reduceSub, Nat.succ_eq_add_one, Nat.zero_lt_succ, Nat.add_one_ne_zero, false_or, or_false, mX6_give_c, mX6_give_n, mX6_give_r, mX6_give_l, dX6_give_0, dX6_give_1, dX6_give_4, tg_4_20, cnd1_eq, dX6_give_7, dX6_give_8, bc_m4, dX6_give_10, tg_10_16, cnd2_eq, dX6_give_13, dX6_give_14, fl_6_10_6, dX6_give_17, dX6_give_18, dX6_give_21, tg_21_5, cnd1_ne, dX6_give_24, ic_m1, dX6_give_25, dX6_give_26, dX6_give_27, dX6_give_30, fl_6_96_0, dX6_give_33, dX6_give_34, dX6_give_35, dX6_give_36, dX6_give_37, dX6_give_38, tg_38_6, cnd2_ne, dX6_give_41, bc_m2, dX6_give_43, dX6_give_44, dX6_give_45, fl_6_22_6, dX6_give_48, dX6_give_49, dX6_give_52, dX6_give_55, dX6_give_56, dX6_give_59, dX6_give_62, dX6_give_63, dX6_give_64, dX6_give_65, dX6_give_66, jX6_give_1_79, jX6_give_0_75, jX6_give_0_145, st_aload_n, st_bipush, st_getfield, st_iaload, st_iastore, st_iconst, st_ifCond, st_if_icmp, st_iload_n, st_invokestatic, st_invokevirtual, st_ireturn, st_istore_n]
    refine ⟨fun c4 => ?_, fun c4 => ?_⟩
    · rw [if_neg c4] at h
      refine ⟨fL lab 3, p, pc, pn, (n0, n1, n2, n3), _, rfl, pP, cN, disL lN (by decide), fun σ1 hf1 hP1 => ?_⟩
      have hW1 := hW0.sP hf1 hP1
      simp only at hW1
      obtain ⟨⟨y1, -⟩, y5, -, ⟨cN1, -⟩, -⟩ := id hW1
      simp only [XE] at y1 y5 cN1
      have hpk := cN1.putK (upd kp q b)
      have hW2 := hW1.sN (csetL (Γ := Γ) lN) (cN1.set (w, upd kp q b, kd, day, gone, draw, P, rule, gd))
      have hfr : frm (fX lab) σ (cset Γ (n0, n1, n2, n3) (w, upd kp q b, kd, day, gone, draw, P, rule, gd) σ1) := (frmX hf1 (by decide)).tr (frmX (csetL lN) (by decide))
      have hk := h _ _ _ rfl hfr hW2
      simp only at hpk
      rw [← hpk] at hk
      obtain ⟨⟨u1, u2, u3, u4⟩, g1, g2, g3, g4⟩ := id cN1
      simp only [ColE, iA, hput] at u1 u3 g1 g3 hk
      refine yvc_ok (uX6_give Γ) (S := []) 60 _ _ _ _ ?_
      simp only [y1, y5, u1, u3, g1, g3, c2, c3, yvc_s, s1i, s2i, s1l, s2l, sil, s1r, sir, siir, slir, srir, svr, sd1, sd2, lg, lput, ldel, isL_i, isL_r, isL_l, jmp, obj, obj1, fI, fR, arI, arL, arR, hput, f4_0, f4_1, f4_2, f4_3, lc_0, lc_1, rok_i, rok_b, rok_y, strF, fput_1, fput_2, csum_nil, csum_i, csum_l, csum_r, va_up_self, bx_uu, Int.reduceAdd, List.elem_nil, List.elem_cons, List.take_succ_cons, List.take_zero, List.drop_succ_cons, List.drop_zero, List.take_nil, List.drop_nil, List.reverse_cons, List.reverse_nil, List.nil_append, List.cons_append, List.append_nil, Option.toList_some, Option.toList_none, List.getElem?_cons_zero, List.getElem?_cons_succ, List.set_cons_zero, List.set_cons_succ, List.length_cons, List.length_nil, reduceIte, reduceCtorEq, and_true, true_and, and_self, or_true, true_or, false_and, and_false, not_true_eq_false, not_false_eq_true, true_implies, false_implies, implies_true, Nat.reduceAdd, Nat.reduceLT, Nat.reduceEqDiff, Nat.reduceLeDiff, Nat.reduceBEq, Nat.zero_add, Nat.lt_add_one, Bool.false_eq_true, Bool.or_false, Bool.or_true, Bool.or_self, Nat.zero_ne_one, Nat.one_ne_zero, ite_true, ite_false, ne_eq, Nat.reduceSub, Nat.succ_eq_add_one, Nat.zero_lt_succ, Nat.add_one_ne_zero, false_or, or_false, mX6_give_c, mX6_give_n, mX6_give_r, mX6_give_l, dX6_give_0, dX6_give_1, dX6_give_4, tg_4_20, cnd1_eq, dX6_give_7, dX6_give_8, bc_m4, dX6_give_10, tg_10_16, cnd2_eq, dX6_give_13, dX6_give_14, fl_6_10_6, dX6_give_17, dX6_give_18, dX6_give_21, tg_21_5, cnd1_ne, dX6_give_24, ic_m1, dX6_give_25, dX6_give_26, dX6_give_27, dX6_give_30, fl_6_96_0, dX6_give_33, dX6_give_34, dX6_give_35, dX6_give_36, dX6_give_37, dX6_give_38, tg_38_6, cnd2_ne, dX6_give_41, bc_m2, dX6_give_43, dX6_give_44, dX6_give_45, fl_6_22_6, dX6_give_48, dX6_give_49, dX6_give_52, dX6_give_55, dX6_give_56, dX6_give_59, dX6_give_62, dX6_give_63, dX6_give_64, dX6_give_65, dX6_give_66, jX6_give_1_79, jX6_give_0_75, jX6_give_0_145, st_aload_n, st_bipush, st_getfield, st_iaload, st_iastore, st_iconst, st_ifCond, st_if_icmp, st_iload_n, st_invokestatic, st_invokevirtual, st_ireturn, st_istore_n]
      exact hk
    · rw [if_pos (Classical.not_not.mp c4)] at h
      exact h σ _ _ rfl frm.rf hW0
  refine ⟨Nat.le_of_ble_eq_true rfl, yvc_ok (uX6_give Γ) (S := [26]) 60 _ _ _ _ ?_⟩
  simp only [lv_args, Value.category, x1, x5, m1, e1, sp_X6_isDoor, sp_X0_has, bI_eq0, Bool.not_eq_false, yvc_s, s1i, s2i, s1l, s2l, sil, s1r, sir, siir, slir, srir, svr, sd1, sd2, lg, lput, ldel, isL_i, isL_r, isL_l, jmp, obj, obj1, fI, fR, arI, arL, arR, hput, f4_0, f4_1, f4_2, f4_3, lc_0, lc_1, rok_i, rok_b, rok_y, strF, fput_1, fput_2, csum_nil, csum_i, csum_l, csum_r, va_up_self, bx_uu, Int.reduceAdd, List.elem_nil, List.elem_cons, List.take_succ_cons, List.take_zero, List.drop_succ_cons, List.drop_zero, List.take_nil, List.drop_nil, List.reverse_cons, List.reverse_nil, List.nil_append, List.cons_append, List.append_nil, Option.toList_some, Option.toList_none, List.getElem?_cons_zero, List.getElem?_cons_succ, List.set_cons_zero, List.set_cons_succ, List.length_cons, List.length_nil, reduceIte, reduceCtorEq, and_true, true_and, and_self, or_true, true_or, false_and, and_false, not_true_eq_false, not_false_eq_true, true_implies, false_implies, implies_true, Nat.reduceAdd, Nat.reduceLT, Nat.reduceEqDiff, Nat.reduceLeDiff, Nat.reduceBEq, Nat.zero_add, Nat.lt_add_one, Bool.false_eq_true, Bool.or_false, Bool.or_true, Bool.or_self, Nat.zero_ne_one, Nat.one_ne_zero, ite_true, ite_false, ne_eq, Nat.reduceSub, Nat.succ_eq_add_one, Nat.zero_lt_succ, Nat.add_one_ne_zero, false_or, or_false, mX6_give_c, mX6_give_n, mX6_give_r, mX6_give_l, dX6_give_0, dX6_give_1, dX6_give_4, tg_4_20, cnd1_eq, dX6_give_7, dX6_give_8, bc_m4, dX6_give_10, tg_10_16, cnd2_eq, dX6_give_13, dX6_give_14, fl_6_10_6, dX6_give_17, dX6_give_18, dX6_give_21, tg_21_5, cnd1_ne, dX6_give_24, ic_m1, dX6_give_25, dX6_give_26, dX6_give_27, dX6_give_30, fl_6_96_0, dX6_give_33, dX6_give_34, dX6_give_35, dX6_give_36, dX6_give_37, dX6_give_38, tg_38_6, cnd2_ne, dX6_give_41, bc_m2, dX6_give_43, dX6_give_44, dX6_give_45, fl_6_22_6, dX6_give_48, dX6_give_49, dX6_give_52, dX6_give_55, dX6_give_56, dX6_give_59, dX6_give_62, dX6_give_63, dX6_give_64, dX6_give_65, dX6_give_66, jX6_give_1_79, jX6_give_0_75, jX6_give_0_145, st_aload_n, st_bipush, st_getfield, st_iaload, st_iastore, st_iconst, st_ifCond, st_if_icmp, st_iload_n, st_invokestatic, st_invokevirtual, st_ireturn, st_istore_n]
  refine ⟨fun c1 => hno (fun z => by rw [c1] at z; cases z.1), fun c1 => ⟨fun c2 => go ⟨c1, Or.inl c2⟩, fun c2 => ⟨fun c3 => go ⟨c1, Or.inr c3⟩, fun c3 => hno (fun z => z.2.elim c2 c3)⟩⟩⟩
def x_undo (ψ : XS) : XS × Int32 := if ψ.2.2.1.2 = 0 then (ψ, -4) else ((recC ψ.1 (ψ.2.2.1.1 (ψ.2.2.1.2 - 1)), ψ.2.1, (ψ.2.2.1.1, ψ.2.2.1.2 - 1), ψ.2.2.2), nI (ψ.2.2.1.2 - 1))
def sp_X6_undo (Γ : Cx) : YSp := fun av σ K => xq Γ [] (fn x_undo) PX av σ K
theorem rv_X6_undo {Γ : Cx} : Recv (sp_X6_undo Γ) 0 6 := by
  intro av σ K h
  obtain ⟨q, fs, h1, h2, h3⟩ := rv_xq h
  exact ⟨q, _, fs, h1, rfl, h2, h3⟩
theorem bw_544 : Cond.code yX2_recall cX2_recall 2 none ∈ BW := bw_i 544 (by decide +kernel) (by decide +kernel)
theorem no_X2_recall : NameOK yX2_recall 1 := by unfold NameOK; decide +kernel
theorem bw_541 : Cond.methodLink RX6 153 yX2_recall ∈ BW := bw_i 541 (by decide +kernel) (by decide +kernel)
theorem bw_542 : Cond.instanceMethod yX2_recall ∈ BW := bw_i 542 (by decide +kernel) (by decide +kernel)
theorem bw_543 : Cond.selects RX2 yX2_recall yX2_recall ∈ BW := bw_i 543 (by decide +kernel) (by decide +kernel)
theorem tg_7_6 : tgo 7 6 = some 13 := by decide
def mX6_undo : Mt := (⟨3, 0, 0, 102⟩, RX6, cX6_undo, 1, some .int, (0, 0), none)
theorem mX6_undo_c : mX6_undo.2.2.1 = cX6_undo := rfl
theorem mX6_undo_n : mX6_undo.2.2.2.1 = 1 := rfl
theorem mX6_undo_r : mX6_undo.2.2.2.2.1 = some .int := rfl
theorem mX6_undo_l : mX6_undo.2.2.2.2.2.2 = none := rfl
def jX6_undo (Γ : Cx) : List ((Nat × Nat) × Nat × Bool × YSp) := [((0, 153), 2, false, sp_X2_recall Γ)]
theorem jX6_undo_0_153 (Γ : Cx) : kT (jX6_undo Γ) 0 153 = some (2, false, sp_X2_recall Γ) := rfl
theorem uX6_undo (Γ : Cx) : TbOK Γ mX6_undo (fT fX6, cT kX6, kT (jX6_undo Γ)) := tb_ok fX6_ok kX6_ok (all_cons ⟨call_V (n := 1) (T := TX2) (N := 2) (ok_X2_recall Γ) (rv_X2_recall (Γ := Γ)) rfl bw_544 bw_541 bw_542 bw_543 bw_45 no_X2_recall ⟨⟨rfl, rfl⟩, ⟨by decide, by decide⟩, ⟨by decide, by decide⟩⟩, fun z => by cases z⟩ (all_nil))
theorem ne0_8 {n : Nat} (h : n ≤ 8) : nI n = 0 ↔ n = 0 := nI_eq (b := 0) (by omega) (by decide)
set_option maxRecDepth 20000 in
theorem ok_X6_undo (Γ : Cx) : Ok Γ yX6_undo mX6_undo (sp_X6_undo Γ) := by
  refine ok_intro (by decide +kernel) rfl rfl ?_
  intro av σ K h
  obtain ⟨lab, X, ψ, rfl, hW, hpre, h⟩ := h
  obtain ⟨x, sh, ⟨n0, n1, n2, n3⟩, ⟨t0, t1, t2, t3⟩, p, ⟨i0, i1, i2, i3⟩, ip, ⟨ta, tl⟩, ⟨pa, pk⟩, S⟩ := X
  obtain ⟨⟨w, kp, kd, day, gone, draw, P, rule, gd⟩, si, ⟨pc, pn⟩, ⟨qc, qn⟩, hi, ⟨l, len⟩, ss⟩ := ψ
  have hW0 := hW
  obtain ⟨⟨x1, x2, x3, x4⟩, x5, ⟨sf, x6, x7⟩, ⟨cN, lN⟩, ⟨⟨t, cT⟩, lT⟩, pP, ⟨cI, lI⟩, pI, ⟨⟨pl, tT⟩, lTp, hlen⟩, ⟨⟨pls, pPl⟩, lPl⟩, hS⟩ := hW
  simp only at cN lN cT lT pP cI lI pI tT lTp hlen pPl lPl hS x6 x7
  obtain ⟨⟨m1, m2, m3, m4⟩, e1, e2, e3, e4⟩ := id cN
  simp only [XE, ColE, iA] at x1 x2 x5 m1 m2 m3 m4 e1 e2 e3 e4
  obtain ⟨pm, pmm, ⟨⟨v1, v2, v3⟩, f1, -⟩, -⟩ := id pP
  simp only [PstE] at f1
  unfold fn x_undo at h
  simp only at h
  refine ⟨Nat.le_of_ble_eq_true rfl, yvc_ok (uX6_undo Γ) (S := []) 60 _ _ _ _ ?_⟩
  simp only [lv_args, Value.category, x1, x5, v1, f1, ne0_8 v3, yvc_s, s1i, s2i, s1l, s2l, sil, s1r, sir, siir, slir, srir, svr, sd1, sd2, lg, lput, ldel, isL_i, isL_r, isL_l, jmp, obj, obj1, fI, fR, arI, arL, arR, hput, f4_0, f4_1, f4_2, f4_3, lc_0, lc_1, rok_i, rok_b, rok_y, strF, fput_1, fput_2, csum_nil, csum_i, csum_l, csum_r, va_up_self, bx_uu, Int.reduceAdd, List.elem_nil, List.elem_cons, List.take_succ_cons, List.take_zero, List.drop_succ_cons, List.drop_zero, List.take_nil, List.drop_nil, List.reverse_cons, List.reverse_nil, List.nil_append, List.cons_append, List.append_nil, Option.toList_some, Option.toList_none, List.getElem?_cons_zero, List.getElem?_cons_succ, List.set_cons_zero, List.set_cons_succ, List.length_cons, List.length_nil, reduceIte, reduceCtorEq, and_true, true_and, and_self, or_true, true_or, false_and, and_false, not_true_eq_false, not_false_eq_true, true_implies, false_implies, implies_true, Nat.reduceAdd, Nat.reduceLT, Nat.reduceEqDiff, Nat.reduceLeDiff, Nat.reduceBEq, Nat.zero_add, Nat.lt_add_one, Bool.false_eq_true, Bool.or_false, Bool.or_true, Bool.or_self, Nat.zero_ne_one, Nat.one_ne_zero, ite_true, ite_false, ne_eq, Nat.reduceSub, Nat.succ_eq_add_one, Nat.zero_lt_succ, Nat.add_one_ne_zero, false_or, or_false, mX6_undo_c, mX6_undo_n, mX6_undo_r, mX6_undo_l, dX6_undo_0, dX6_undo_1, fl_6_22_6, dX6_undo_4, fl_6_138_2, dX6_undo_7, tg_7_6, cnd1_ne, dX6_undo_10, bc_m4, dX6_undo_12, dX6_undo_13, dX6_undo_14, dX6_undo_17, dX6_undo_18, fl_6_10_6, dX6_undo_21, dX6_undo_24, dX6_undo_25, dX6_undo_28, dX6_undo_31, jX6_undo_0_153, st_aload_n, st_bipush, st_getfield, st_ifCond, st_invokevirtual, st_ireturn]
  refine ⟨fun c => ?_, fun c => ?_⟩
  · rw [if_neg c] at h
    refine ⟨fL lab 3, p, pc, pn - 1, (n0, n1, n2, n3), _, rfl, ?_, cN, disL lN (by decide), fun σ1 hf1 hP1 hC1 => ?_⟩
    · rw [show pn - 1 + 1 = pn by omega]
      exact pP
    have hf2 : frm (fun q => (fun k => k = 1 ∨ k = 3) (lab q)) σ σ1 := hf1.mono (fun q z => z.elim (fun z => Or.inr z) (fun z => Or.inl (lN q z)))
    have hW1 : XW Γ lab (x, sh, (n0, n1, n2, n3), (t0, t1, t2, t3), p, (i0, i1, i2, i3), ip, (ta, tl), (pa, pk), S) (recC (w, kp, kd, day, gone, draw, P, rule, gd) (pc (pn - 1)), si, (pc, pn - 1), (qc, qn), hi, (l, len), ss) σ1 := hW0.keep (J := fun k => k = 1 ∨ k = 3) hf2 ⟨by decide, rfl⟩ (Or.inr hC1) (Or.inl (by decide)) (Or.inr hP1) (Or.inl ⟨by decide, rfl⟩) (Or.inl ⟨by decide, rfl⟩) (Or.inl ⟨by decide, rfl⟩) (Or.inl (by decide)) (fun j _ => Or.inl ⟨by omega, rfl⟩)
    have hk := h _ _ _ rfl (hf2.mono (fun q z => by show lab q < 20; rcases z with z | z <;> omega)) hW1
    obtain ⟨⟨y1, -⟩, y5, -, -, -, pP1, -⟩ := id hW1
    obtain ⟨pm', pmm', ⟨⟨u1, u2, u3⟩, g1, -⟩, -⟩ := id pP1
    simp only [XE, PstE] at y1 y5 u1 g1
    refine yvc_ok (uX6_undo Γ) (S := []) 60 _ _ _ _ ?_
    simp only [y1, y5, u1, g1, yvc_s, s1i, s2i, s1l, s2l, sil, s1r, sir, siir, slir, srir, svr, sd1, sd2, lg, lput, ldel, isL_i, isL_r, isL_l, jmp, obj, obj1, fI, fR, arI, arL, arR, hput, f4_0, f4_1, f4_2, f4_3, lc_0, lc_1, rok_i, rok_b, rok_y, strF, fput_1, fput_2, csum_nil, csum_i, csum_l, csum_r, va_up_self, bx_uu, Int.reduceAdd, List.elem_nil, List.elem_cons, List.take_succ_cons, List.take_zero, List.drop_succ_cons, List.drop_zero, List.take_nil, List.drop_nil, List.reverse_cons, List.reverse_nil, List.nil_append, List.cons_append, List.append_nil, Option.toList_some, Option.toList_none, List.getElem?_cons_zero, List.getElem?_cons_succ, List.set_cons_zero, List.set_cons_succ, List.length_cons, List.length_nil, reduceIte, reduceCtorEq, and_true, true_and, and_self, or_true, true_or, false_and, and_false, not_true_eq_false, not_false_eq_true, true_implies, false_implies, implies_true, Nat.reduceAdd, Nat.reduceLT, Nat.reduceEqDiff, Nat.reduceLeDiff, Nat.reduceBEq, Nat.zero_add, Nat.lt_add_one, Bool.false_eq_true, Bool.or_false, Bool.or_true, Bool.or_self, Nat.zero_ne_one, Nat.one_ne_zero, ite_true, ite_false, ne_eq, Nat.reduceSub, Nat.succ_eq_add_one, Nat.zero_lt_succ, Nat.add_one_ne_zero, false_or, or_false, mX6_undo_c, mX6_undo_n, mX6_undo_r, mX6_undo_l, dX6_undo_0, dX6_undo_1, fl_6_22_6, dX6_undo_4, fl_6_138_2, dX6_undo_7, tg_7_6, cnd1_ne, dX6_undo_10, bc_m4, dX6_undo_12, dX6_undo_13, dX6_undo_14, dX6_undo_17, dX6_undo_18, fl_6_10_6, dX6_undo_21, dX6_undo_24, dX6_undo_25, dX6_undo_28, dX6_undo_31, jX6_undo_0_153, st_aload_n, st_bipush, st_getfield, st_ifCond, st_invokevirtual, st_ireturn]
    exact hk
  · rw [if_pos (Classical.not_not.mp c)] at h
    exact h σ _ _ rfl frm.rf hW0
def setD (s : CS) (v : Int32) : CS := (s.1, s.2.1, s.2.2.1, s.2.2.2.1, s.2.2.2.2.1, v, s.2.2.2.2.2.2)
def x_seed (v : Int32) (ψ : XS) : XS × Int32 := if 0 ≤ v then ((setD ψ.1 v, ψ.2), ψ.1.2.2.2.2.2.1) else (ψ, -1)
def sp_X6_seed (Γ : Cx) : YSp := fun av σ K => ∃ a : Int32, xq Γ [.int a] (fn (x_seed a)) PX av σ K
theorem rv_X6_seed {Γ : Cx} : Recv (sp_X6_seed Γ) 1 6 := by
  intro av σ K h
  obtain ⟨a, h⟩ := h
  obtain ⟨q, fs, h1, h2, h3⟩ := rv_xq h
  exact ⟨q, _, fs, h1, rfl, h2, h3⟩
theorem tg_1_5 : tgo 1 5 = some 6 := by decide
def mX6_seed : Mt := (⟨0, 0, 0, 0⟩, RX6, cX6_seed, 3, some .int, (0, 0), none)
theorem mX6_seed_c : mX6_seed.2.2.1 = cX6_seed := rfl
theorem mX6_seed_n : mX6_seed.2.2.2.1 = 3 := rfl
theorem mX6_seed_r : mX6_seed.2.2.2.2.1 = some .int := rfl
theorem mX6_seed_l : mX6_seed.2.2.2.2.2.2 = none := rfl
def jX6_seed (Γ : Cx) : List ((Nat × Nat) × Nat × Bool × YSp) := []
theorem uX6_seed (Γ : Cx) : TbOK Γ mX6_seed (fT fX6, cT kX6, kT (jX6_seed Γ)) := tb_ok fX6_ok kX6_ok (all_nil)
set_option maxRecDepth 20000 in
theorem ok_X6_seed (Γ : Cx) : Ok Γ yX6_seed mX6_seed (sp_X6_seed Γ) := by
  refine ok_intro (by decide +kernel) rfl rfl ?_
  intro av σ K h
  obtain ⟨a, lab, X, ψ, rfl, hW, hpre, h⟩ := h
  obtain ⟨x, sh, ⟨n0, n1, n2, n3⟩, ⟨t0, t1, t2, t3⟩, p, ⟨i0, i1, i2, i3⟩, ip, ⟨ta, tl⟩, ⟨pa, pk⟩, S⟩ := X
  obtain ⟨⟨w, kp, kd, day, gone, draw, P, rule, gd⟩, si, ⟨pc, pn⟩, ⟨qc, qn⟩, hi, ⟨l, len⟩, ss⟩ := ψ
  have hW0 := hW
  obtain ⟨⟨x1, x2, x3, x4⟩, x5, ⟨sf, x6, x7⟩, ⟨cN, lN⟩, ⟨⟨t, cT⟩, lT⟩, pP, ⟨cI, lI⟩, pI, ⟨⟨pl, tT⟩, lTp, hlen⟩, ⟨⟨pls, pPl⟩, lPl⟩, hS⟩ := hW
  simp only at cN lN cT lT pP cI lI pI tT lTp hlen pPl lPl hS x6 x7
  obtain ⟨⟨m1, m2, m3, m4⟩, e1, e2, e3, e4⟩ := id cN
  simp only [XE, ColE, iA] at x1 x2 x5 m1 m2 m3 m4 e1 e2 e3 e4
  have hp := cN.put (w, kp, kd, day, gone, a, P, rule, gd) rfl rfl rfl
  have hW1 := hW0.sN (csetL (Γ := Γ) lN) (cN.set (w, kp, kd, day, gone, a, P, rule, gd))
  rw [← hp] at hW1
  have hfr : frm (fX lab) σ (cset Γ (n0, n1, n2, n3) (w, kp, kd, day, gone, a, P, rule, gd) σ) := frmX (csetL lN) (by decide)
  rw [← hp] at hfr
  unfold fn x_seed at h
  simp only [setD] at h
  simp only [hput, ColE] at hW1 hfr
  refine ⟨Nat.le_of_ble_eq_true rfl, yvc_ok (uX6_seed Γ) (S := []) 60 _ _ _ _ ?_⟩
  simp only [lv_args, Value.category, x1, x5, m1, e1, yvc_s, s1i, s2i, s1l, s2l, sil, s1r, sir, siir, slir, srir, svr, sd1, sd2, lg, lput, ldel, isL_i, isL_r, isL_l, jmp, obj, obj1, fI, fR, arI, arL, arR, hput, f4_0, f4_1, f4_2, f4_3, lc_0, lc_1, rok_i, rok_b, rok_y, strF, fput_1, fput_2, csum_nil, csum_i, csum_l, csum_r, va_up_self, bx_uu, Int.reduceAdd, List.elem_nil, List.elem_cons, List.take_succ_cons, List.take_zero, List.drop_succ_cons, List.drop_zero, List.take_nil, List.drop_nil, List.reverse_cons, List.reverse_nil, List.nil_append, List.cons_append, List.append_nil, Option.toList_some, Option.toList_none, List.getElem?_cons_zero, List.getElem?_cons_succ, List.set_cons_zero, List.set_cons_succ, List.length_cons, List.length_nil, reduceIte, reduceCtorEq, and_true, true_and, and_self, or_true, true_or, false_and, and_false, not_true_eq_false, not_false_eq_true, true_implies, false_implies, implies_true, Nat.reduceAdd, Nat.reduceLT, Nat.reduceEqDiff, Nat.reduceLeDiff, Nat.reduceBEq, Nat.zero_add, Nat.lt_add_one, Bool.false_eq_true, Bool.or_false, Bool.or_true, Bool.or_self, Nat.zero_ne_one, Nat.one_ne_zero, ite_true, ite_false, ne_eq, Nat.reduceSub, Nat.succ_eq_add_one, Nat.zero_lt_succ, Nat.add_one_ne_zero, false_or, or_false, mX6_seed_c, mX6_seed_n, mX6_seed_r, mX6_seed_l, dX6_seed_0, dX6_seed_1, tg_1_5, cnd1_ge, dX6_seed_4, ic_m1, dX6_seed_5, dX6_seed_6, dX6_seed_7, fl_6_10_6, dX6_seed_10, fl_6_121_0, dX6_seed_13, dX6_seed_14, dX6_seed_15, dX6_seed_18, dX6_seed_19, dX6_seed_22, dX6_seed_23, st_aload_n, st_getfield, st_iconst, st_ifCond, st_iload_n, st_ireturn, st_istore_n, st_putfield]
  refine ⟨fun c => ?_, fun c => ?_⟩
  · rw [if_pos c] at h
    exact h _ _ _ rfl hfr hW1
  · rw [if_neg c] at h
    exact h σ _ _ rfl frm.rf hW0
