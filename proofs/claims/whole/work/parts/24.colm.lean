/-! ===== College: growth, a day ===== -/
theorem ix_in' {p d : Nat} {k : Int32} (hp : p < 5) (hd : d < 4) (hk : k = nI p) : vp_in (k * 4 + nI d) 20 := by
  rw [hk]; exact ix_in hp hd
theorem toInt_lo {x : Int32} {n : Int} (h : x.toInt < n) {y : Int32} (hy : ¬ y.toInt < n) : ¬ x = y := fun e => hy (e ▸ h)
theorem toInt_hi {x : Int32} {n : Int} (h : n < x.toInt) {y : Int32} (hy : ¬ n < y.toInt) : ¬ x = y := fun e => hy (e ▸ h)
def sp_X0_growth (Γ : Cx) : YSp := fun av σ K => ∃ (A : CA) (s : CS) (d : Nat), av = [.ref A.1, .int (nI d)] ∧ d < 4 ∧ WfC s ∧ Col Γ A s σ ∧ K (some (.int (growth s d))) σ
theorem rv_X0_growth {Γ : Cx} : Recv (sp_X0_growth Γ) 1 0 := by
  intro av σ K h
  obtain ⟨A, s, d, rfl, -, -, hc, -⟩ := h
  obtain ⟨fs, h1, h2⟩ := col_rv hc
  exact ⟨_, _, fs, rfl, rfl, h1, h2⟩
theorem bw_298 : Cond.code yX0_curiosity cX0_curiosity 2 (some .int) ∈ BW := bw_i 298 (by decide +kernel) (by decide +kernel)
theorem no_X0_curiosity : NameOK yX0_curiosity 1 := by unfold NameOK; decide +kernel
theorem bw_295 : Cond.methodLink RX0 68 yX0_curiosity ∈ BW := bw_i 295 (by decide +kernel) (by decide +kernel)
theorem bw_297 : Cond.instanceMethod yX0_curiosity ∈ BW := bw_i 297 (by decide +kernel) (by decide +kernel)
theorem bw_0 : Cond.selects RX0 yX0_curiosity yX0_curiosity ∈ BW := bw_i 0 (by decide +kernel) (by decide +kernel)
theorem bw_309 : Cond.code yX0_warmth cX0_warmth 1 (some .int) ∈ BW := bw_i 309 (by decide +kernel) (by decide +kernel)
theorem no_X0_warmth : NameOK yX0_warmth 0 := by unfold NameOK; decide +kernel
theorem bw_306 : Cond.methodLink RX0 71 yX0_warmth ∈ BW := bw_i 306 (by decide +kernel) (by decide +kernel)
theorem bw_308 : Cond.instanceMethod yX0_warmth ∈ BW := bw_i 308 (by decide +kernel) (by decide +kernel)
theorem bw_1 : Cond.selects RX0 yX0_warmth yX0_warmth ∈ BW := bw_i 1 (by decide +kernel) (by decide +kernel)
theorem tg_10_5 : tgo 10 5 = some 15 := by decide
theorem tg_21_70 : tgo 21 70 = some 91 := by decide
theorem tg_21_31 : tgo 21 31 = some 52 := by decide
theorem tg_21_37 : tgo 21 37 = some 58 := by decide
theorem tg_21_42 : tgo 21 42 = some 63 := by decide
theorem tg_21_50 : tgo 21 50 = some 71 := by decide
theorem bc_9 : (Int8.ofInt 9).toInt32 = 9 := by decide
theorem tg_79_7 : tgo 79 7 = some 86 := by decide
theorem tg_83_7 : tgo 83 7 = some 90 := by decide
def mX0_growth : Mt := (⟨2, 0, 0, 44⟩, RX0, cX0_growth, 3, some .int, (0, 0), none)
theorem mX0_growth_c : mX0_growth.2.2.1 = cX0_growth := rfl
theorem mX0_growth_n : mX0_growth.2.2.2.1 = 3 := rfl
theorem mX0_growth_r : mX0_growth.2.2.2.2.1 = some .int := rfl
theorem mX0_growth_l : mX0_growth.2.2.2.2.2.2 = none := rfl
def jX0_growth (Γ : Cx) : List ((Nat × Nat) × Nat × Bool × YSp) := [((0, 68), 2, false, sp_X0_curiosity Γ), ((0, 71), 1, true, sp_X0_warmth Γ), ((0, 46), 3, true, sp_X0_wantOf Γ)]
theorem jX0_growth_0_68 (Γ : Cx) : kT (jX0_growth Γ) 0 68 = some (2, false, sp_X0_curiosity Γ) := rfl
theorem jX0_growth_0_71 (Γ : Cx) : kT (jX0_growth Γ) 0 71 = some (1, true, sp_X0_warmth Γ) := rfl
theorem jX0_growth_0_46 (Γ : Cx) : kT (jX0_growth Γ) 0 46 = some (3, true, sp_X0_wantOf Γ) := rfl
theorem uX0_growth (Γ : Cx) : TbOK Γ mX0_growth (fT fX0, cT kX0, kT (jX0_growth Γ)) := tb_ok fX0_ok kX0_ok (all_cons ⟨call_V (n := 1) (T := TX0) (N := 9) (ok_X0_curiosity Γ) (rv_X0_curiosity (Γ := Γ)) rfl bw_298 bw_295 bw_297 bw_0 bw_44 no_X0_curiosity ⟨⟨rfl, rfl⟩, ⟨by decide, by decide⟩, ⟨by decide, by decide⟩⟩, fun z => by cases z⟩ (all_cons ⟨call_V (n := 0) (T := TX0) (N := 9) (ok_X0_warmth Γ) (rv_X0_warmth (Γ := Γ)) rfl bw_309 bw_306 bw_308 bw_1 bw_44 no_X0_warmth ⟨⟨rfl, rfl⟩, ⟨by decide, by decide⟩, ⟨by decide, by decide⟩⟩, fun _ => mono_X0_warmth (Γ := Γ)⟩ (all_cons ⟨call_V (n := 2) (T := TX0) (N := 9) (ok_X0_wantOf Γ) (rv_X0_wantOf (Γ := Γ)) rfl bw_273 bw_286 bw_271 bw_272 bw_44 no_X0_wantOf ⟨⟨rfl, rfl⟩, ⟨by decide, by decide⟩, ⟨by decide, by decide⟩⟩, fun _ => mono_X0_wantOf (Γ := Γ)⟩ (all_nil))))
set_option maxRecDepth 20000 in
theorem ok_X0_growth (Γ : Cx) : Ok Γ yX0_growth mX0_growth (sp_X0_growth Γ) := by
  refine ok_intro (by decide +kernel) rfl rfl ?_
  intro av σ K h
  obtain ⟨⟨a, aw, ak, ad⟩, ⟨w, kp, kd, day, gone, draw, P, rule, gd⟩, d, rfl, hd, hw, hc, h⟩ := h
  have hc0 := hc
  obtain ⟨⟨m1, m2, m3, m4⟩, e1, e2, e3, e4⟩ := hc
  simp only [ColE, iA] at e1 e2 e3 e4 m1 m2 m3 m4
  obtain ⟨c1, c2, c3⟩ := lt4 hd
  simp only [growth] at h
  refine ⟨Nat.le_of_ble_eq_true rfl, yvc_ok (uX0_growth Γ) (S := []) 40 _ _ _ _ ?_⟩
  simp only [lv_args, Value.category, m1, m2, m3, m4, e1, e2, e3, e4, c1, c2, c3, sp_X0_wantOf, sp_X0_warmth, yvc_s, s1i, s2i, s1l, s2l, sil, s1r, sir, siir, slir, srir, svr, sd1, sd2, lg, lput, ldel, isL_i, isL_r, isL_l, jmp, obj, obj1, fI, fR, arI, arL, arR, hput, f4_0, f4_1, f4_2, f4_3, lc_0, lc_1, rok_i, rok_b, rok_y, strF, fput_1, fput_2, csum_nil, csum_i, csum_l, csum_r, va_up_self, bx_uu, Int.reduceAdd, List.elem_nil, List.elem_cons, List.take_succ_cons, List.take_zero, List.drop_succ_cons, List.drop_zero, List.take_nil, List.drop_nil, List.reverse_cons, List.reverse_nil, List.nil_append, List.cons_append, List.append_nil, Option.toList_some, Option.toList_none, List.getElem?_cons_zero, List.getElem?_cons_succ, List.set_cons_zero, List.set_cons_succ, List.length_cons, List.length_nil, reduceIte, reduceCtorEq, and_true, true_and, and_self, or_true, true_or, false_and, and_false, not_true_eq_false, not_false_eq_true, true_implies, false_implies, implies_true, Nat.reduceAdd, Nat.reduceLT, Nat.reduceEqDiff, Nat.reduceLeDiff, Nat.reduceBEq, Nat.zero_add, Nat.lt_add_one, Bool.false_eq_true, Bool.or_false, Bool.or_true, Bool.or_self, Nat.zero_ne_one, Nat.one_ne_zero, ite_true, ite_false, ne_eq, Nat.reduceSub, Nat.succ_eq_add_one, Nat.zero_lt_succ, Nat.add_one_ne_zero, false_or, or_false, mX0_growth_c, mX0_growth_n, mX0_growth_r, mX0_growth_l, dX0_growth_0, dX0_growth_1, fl_0_59_0, dX0_growth_4, dX0_growth_5, dX0_growth_6, dX0_growth_7, dX0_growth_8, bc_m4, dX0_growth_10, tg_10_5, cnd2_ne, dX0_growth_13, ic_0, dX0_growth_14, dX0_growth_15, dX0_growth_16, fl_0_9_0, dX0_growth_19, dX0_growth_20, dX0_growth_21, tg_21_70, tg_21_31, tg_21_37, tg_21_42, tg_21_50, swl, ic_1, ic_2, ic_3, ic_4, dX0_growth_52, dX0_growth_53, dX0_growth_54, dX0_growth_57, dX0_growth_58, dX0_growth_59, dX0_growth_62, dX0_growth_63, dX0_growth_64, dX0_growth_65, dX0_growth_66, dX0_growth_69, dX0_growth_70, dX0_growth_71, dX0_growth_72, dX0_growth_73, dX0_growth_74, dX0_growth_77, bc_9, dX0_growth_79, tg_79_7, cnd2_lt, dX0_growth_82, dX0_growth_83, tg_83_7, dX0_growth_86, dX0_growth_87, dX0_growth_90, dX0_growth_91, dX0_growth_92, jX0_growth_0_68, jX0_growth_0_71, jX0_growth_0_46, st_aload_n, st_bipush, st_getfield, st_goto, st_iaload, st_iconst, st_if_icmp, st_iload_n, st_imul, st_invokevirtual, st_ireturn, st_istore_n, st_tableswitch]
  refine ⟨fun c => ?_, fun c => ?_⟩
  · rcases hw.2 d hd with h0 | ⟨q, hq, h0⟩
    · exact absurd h0 c
    · simp only at h0 hq
      have hP := hw.1
      simp only at hP
      rw [if_neg c] at h
      have hin : vp_in (kp d) 5 := by rw [h0]; exact vp_in_nI (by omega) (by decide)
      refine ⟨hin, rfl, ⟨?_, ?_, ?_, ?_⟩, ?_⟩
      · intro e0
        rw [if_pos e0] at h
        refine ⟨(a, aw, ak, ad), _, _, rfl, hc0, ?_⟩
        refine yvc_ok (uX0_growth Γ) (S := []) 40 _ _ _ _ ?_
        simp only [yvc_s, s1i, s2i, s1l, s2l, sil, s1r, sir, siir, slir, srir, svr, sd1, sd2, lg, lput, ldel, isL_i, isL_r, isL_l, jmp, obj, obj1, fI, fR, arI, arL, arR, hput, f4_0, f4_1, f4_2, f4_3, lc_0, lc_1, rok_i, rok_b, rok_y, strF, fput_1, fput_2, csum_nil, csum_i, csum_l, csum_r, va_up_self, bx_uu, Int.reduceAdd, List.elem_nil, List.elem_cons, List.take_succ_cons, List.take_zero, List.drop_succ_cons, List.drop_zero, List.take_nil, List.drop_nil, List.reverse_cons, List.reverse_nil, List.nil_append, List.cons_append, List.append_nil, Option.toList_some, Option.toList_none, List.getElem?_cons_zero, List.getElem?_cons_succ, List.set_cons_zero, List.set_cons_succ, List.length_cons, List.length_nil, reduceIte, reduceCtorEq, and_true, true_and, and_self, or_true, true_or, false_and, and_false, not_true_eq_false, not_false_eq_true, true_implies, false_implies, implies_true, Nat.reduceAdd, Nat.reduceLT, Nat.reduceEqDiff, Nat.reduceLeDiff, Nat.reduceBEq, Nat.zero_add, Nat.lt_add_one, Bool.false_eq_true, Bool.or_false, Bool.or_true, Bool.or_self, Nat.zero_ne_one, Nat.one_ne_zero, ite_true, ite_false, ne_eq, Nat.reduceSub, Nat.succ_eq_add_one, Nat.zero_lt_succ, Nat.add_one_ne_zero, false_or, or_false, mX0_growth_c, mX0_growth_n, mX0_growth_r, mX0_growth_l, dX0_growth_0, dX0_growth_1, fl_0_59_0, dX0_growth_4, dX0_growth_5, dX0_growth_6, dX0_growth_7, dX0_growth_8, bc_m4, dX0_growth_10, tg_10_5, cnd2_ne, dX0_growth_13, ic_0, dX0_growth_14, dX0_growth_15, dX0_growth_16, fl_0_9_0, dX0_growth_19, dX0_growth_20, dX0_growth_21, tg_21_70, tg_21_31, tg_21_37, tg_21_42, tg_21_50, swl, ic_1, ic_2, ic_3, ic_4, dX0_growth_52, dX0_growth_53, dX0_growth_54, dX0_growth_57, dX0_growth_58, dX0_growth_59, dX0_growth_62, dX0_growth_63, dX0_growth_64, dX0_growth_65, dX0_growth_66, dX0_growth_69, dX0_growth_70, dX0_growth_71, dX0_growth_72, dX0_growth_73, dX0_growth_74, dX0_growth_77, bc_9, dX0_growth_79, tg_79_7, cnd2_lt, dX0_growth_82, dX0_growth_83, tg_83_7, dX0_growth_86, dX0_growth_87, dX0_growth_90, dX0_growth_91, dX0_growth_92, jX0_growth_0_68, jX0_growth_0_71, jX0_growth_0_46, st_aload_n, st_bipush, st_getfield, st_goto, st_iaload, st_iconst, st_if_icmp, st_iload_n, st_imul, st_invokevirtual, st_ireturn, st_istore_n, st_tableswitch]
        exact h
      · intro e0
        rw [if_neg (by rw [e0]; decide), if_pos e0] at h
        exact h
      · intro e0
        rw [if_neg (by rw [e0]; decide), if_neg (by rw [e0]; decide), if_pos e0] at h
        refine ⟨(a, aw, ak, ad), _, _, rfl, hc0, ?_⟩
        refine yvc_ok (uX0_growth Γ) (S := []) 40 _ _ _ _ ?_
        simp only [yvc_s, s1i, s2i, s1l, s2l, sil, s1r, sir, siir, slir, srir, svr, sd1, sd2, lg, lput, ldel, isL_i, isL_r, isL_l, jmp, obj, obj1, fI, fR, arI, arL, arR, hput, f4_0, f4_1, f4_2, f4_3, lc_0, lc_1, rok_i, rok_b, rok_y, strF, fput_1, fput_2, csum_nil, csum_i, csum_l, csum_r, va_up_self, bx_uu, Int.reduceAdd, List.elem_nil, List.elem_cons, List.take_succ_cons, List.take_zero, List.drop_succ_cons, List.drop_zero, List.take_nil, List.drop_nil, List.reverse_cons, List.reverse_nil, List.nil_append, List.cons_append, List.append_nil, Option.toList_some, Option.toList_none, List.getElem?_cons_zero, List.getElem?_cons_succ, List.set_cons_zero, List.set_cons_succ, List.length_cons, List.length_nil, reduceIte, reduceCtorEq, and_true, true_and, and_self, or_true, true_or, false_and, and_false, not_true_eq_false, not_false_eq_true, true_implies, false_implies, implies_true, Nat.reduceAdd, Nat.reduceLT, Nat.reduceEqDiff, Nat.reduceLeDiff, Nat.reduceBEq, Nat.zero_add, Nat.lt_add_one, Bool.false_eq_true, Bool.or_false, Bool.or_true, Bool.or_self, Nat.zero_ne_one, Nat.one_ne_zero, ite_true, ite_false, ne_eq, Nat.reduceSub, Nat.succ_eq_add_one, Nat.zero_lt_succ, Nat.add_one_ne_zero, false_or, or_false, mX0_growth_c, mX0_growth_n, mX0_growth_r, mX0_growth_l, dX0_growth_0, dX0_growth_1, fl_0_59_0, dX0_growth_4, dX0_growth_5, dX0_growth_6, dX0_growth_7, dX0_growth_8, bc_m4, dX0_growth_10, tg_10_5, cnd2_ne, dX0_growth_13, ic_0, dX0_growth_14, dX0_growth_15, dX0_growth_16, fl_0_9_0, dX0_growth_19, dX0_growth_20, dX0_growth_21, tg_21_70, tg_21_31, tg_21_37, tg_21_42, tg_21_50, swl, ic_1, ic_2, ic_3, ic_4, dX0_growth_52, dX0_growth_53, dX0_growth_54, dX0_growth_57, dX0_growth_58, dX0_growth_59, dX0_growth_62, dX0_growth_63, dX0_growth_64, dX0_growth_65, dX0_growth_66, dX0_growth_69, dX0_growth_70, dX0_growth_71, dX0_growth_72, dX0_growth_73, dX0_growth_74, dX0_growth_77, bc_9, dX0_growth_79, tg_79_7, cnd2_lt, dX0_growth_82, dX0_growth_83, tg_83_7, dX0_growth_86, dX0_growth_87, dX0_growth_90, dX0_growth_91, dX0_growth_92, jX0_growth_0_68, jX0_growth_0_71, jX0_growth_0_46, st_aload_n, st_bipush, st_getfield, st_goto, st_iaload, st_iconst, st_if_icmp, st_iload_n, st_imul, st_invokevirtual, st_ireturn, st_istore_n, st_tableswitch]
        exact h
      · intro e0
        rw [if_neg (by rw [e0]; decide), if_neg (by rw [e0]; decide), if_neg (by rw [e0]; decide), if_pos e0] at h
        refine ⟨ix_in' (show q < 5 by omega) hd h0, fun z => ?_, fun z => ?_⟩
        · rw [if_pos z] at h
          exact h
        · rw [if_neg z] at h
          exact h
      · intro e0
        have n1 : ¬ kd (kp d).toNatClampNeg = 1 := e0.elim (fun z => toInt_lo z (by decide)) (fun z => toInt_hi z (by decide))
        have n2 : ¬ kd (kp d).toNatClampNeg = 2 := e0.elim (fun z => toInt_lo z (by decide)) (fun z => toInt_hi z (by decide))
        have n3 : ¬ kd (kp d).toNatClampNeg = 3 := e0.elim (fun z => toInt_lo z (by decide)) (fun z => toInt_hi z (by decide))
        have n4 : ¬ kd (kp d).toNatClampNeg = 4 := e0.elim (fun z => toInt_lo z (by decide)) (fun z => toInt_hi z (by decide))
        rw [if_neg n1, if_neg n2, if_neg n3, if_neg n4] at h
        exact h
  · rw [if_pos (Classical.not_not.mp c)] at h
    exact h
def sp_X0_testKeeper (Γ : Cx) : YSp := fun av σ K => ∃ (A : CA) (s : CS) (d : Nat), av = [.ref A.1, .int (nI d)] ∧ d < 4 ∧ WfC s ∧ ¬ s.2.1 d = -4 ∧ Col Γ A s σ ∧ K none (cset Γ A (tk s d) σ)
theorem rv_X0_testKeeper {Γ : Cx} : Recv (sp_X0_testKeeper Γ) 1 0 := by
  intro av σ K h
  obtain ⟨A, s, d, rfl, -, -, -, hc, -⟩ := h
  obtain ⟨fs, h1, h2⟩ := col_rv hc
  exact ⟨_, _, fs, rfl, rfl, h1, h2⟩
theorem bw_313 : Cond.code yX0_least cX0_least 5 (some .int) ∈ BW := bw_i 313 (by decide +kernel) (by decide +kernel)
theorem no_X0_least : NameOK yX0_least 1 := by unfold NameOK; decide +kernel
theorem bw_523 : Cond.methodLink RX0 99 yX0_least ∈ BW := bw_i 523 (by decide +kernel) (by decide +kernel)
theorem bw_311 : Cond.instanceMethod yX0_least ∈ BW := bw_i 311 (by decide +kernel) (by decide +kernel)
theorem bw_312 : Cond.selects RX0 yX0_least yX0_least ∈ BW := bw_i 312 (by decide +kernel) (by decide +kernel)
theorem tg_21_35 : tgo 21 35 = some 56 := by decide
theorem tg_53_22 : tgo 53 22 = some 75 := by decide
theorem tg_61_14 : tgo 61 14 = some 75 := by decide
def mX0_testKeeper : Mt := (⟨2, 0, 0, 46⟩, RX0, cX0_testKeeper, 4, none, (0, 0), none)
theorem mX0_testKeeper_c : mX0_testKeeper.2.2.1 = cX0_testKeeper := rfl
theorem mX0_testKeeper_n : mX0_testKeeper.2.2.2.1 = 4 := rfl
theorem mX0_testKeeper_r : mX0_testKeeper.2.2.2.2.1 = none := rfl
theorem mX0_testKeeper_l : mX0_testKeeper.2.2.2.2.2.2 = none := rfl
def jX0_testKeeper (Γ : Cx) : List ((Nat × Nat) × Nat × Bool × YSp) := [((0, 46), 3, true, sp_X0_wantOf Γ), ((0, 39), 4, false, sp_X0_setWant Γ), ((0, 99), 2, false, sp_X0_least Γ)]
theorem jX0_testKeeper_0_46 (Γ : Cx) : kT (jX0_testKeeper Γ) 0 46 = some (3, true, sp_X0_wantOf Γ) := rfl
theorem jX0_testKeeper_0_39 (Γ : Cx) : kT (jX0_testKeeper Γ) 0 39 = some (4, false, sp_X0_setWant Γ) := rfl
theorem jX0_testKeeper_0_99 (Γ : Cx) : kT (jX0_testKeeper Γ) 0 99 = some (2, false, sp_X0_least Γ) := rfl
theorem uX0_testKeeper (Γ : Cx) : TbOK Γ mX0_testKeeper (fT fX0, cT kX0, kT (jX0_testKeeper Γ)) := tb_ok fX0_ok kX0_ok (all_cons ⟨call_V (n := 2) (T := TX0) (N := 9) (ok_X0_wantOf Γ) (rv_X0_wantOf (Γ := Γ)) rfl bw_273 bw_286 bw_271 bw_272 bw_44 no_X0_wantOf ⟨⟨rfl, rfl⟩, ⟨by decide, by decide⟩, ⟨by decide, by decide⟩⟩, fun _ => mono_X0_wantOf (Γ := Γ)⟩ (all_cons ⟨call_V (n := 3) (T := TX0) (N := 9) (ok_X0_setWant Γ) (rv_X0_setWant (Γ := Γ)) rfl bw_253 bw_250 bw_251 bw_252 bw_44 no_X0_setWant ⟨⟨rfl, rfl⟩, ⟨by decide, by decide⟩, ⟨by decide, by decide⟩⟩, fun z => by cases z⟩ (all_cons ⟨call_V (n := 1) (T := TX0) (N := 9) (ok_X0_least Γ) (rv_X0_least (Γ := Γ)) rfl bw_313 bw_523 bw_311 bw_312 bw_44 no_X0_least ⟨⟨rfl, rfl⟩, ⟨by decide, by decide⟩, ⟨by decide, by decide⟩⟩, fun z => by cases z⟩ (all_nil))))
set_option maxRecDepth 20000 in
theorem ok_X0_testKeeper (Γ : Cx) : Ok Γ yX0_testKeeper mX0_testKeeper (sp_X0_testKeeper Γ) := by
  refine ok_intro (by decide +kernel) rfl rfl ?_
  intro av σ K h
  obtain ⟨⟨a, aw, ak, ad⟩, ⟨w, kp, kd, day, gone, draw, P, rule, gd⟩, d, rfl, hd, hw, hk, hc, h⟩ := h
  have hc0 := hc
  obtain ⟨⟨m1, m2, m3, m4⟩, e1, e2, e3, e4⟩ := hc
  simp only [ColE, iA] at e1 e2 e3 e4 m1 m2 m3 m4 hk
  obtain ⟨c1, c2, c3⟩ := lt4 hd
  rcases hw.2 d hd with h0 | ⟨q, hq, h0⟩
  · exact absurd h0 hk
  simp only at h0 hq
  have hP := hw.1
  simp only at hP
  have hin := ix_in' (show q < 5 by omega) hd h0
  simp only [tk] at h
  have hself := hc0.self
  refine ⟨Nat.le_of_ble_eq_true rfl, yvc_ok (uX0_testKeeper Γ) (S := []) 60 _ _ _ _ ?_⟩
  simp only [lv_args, Value.category, m1, m2, m3, m4, e1, e2, e3, e4, c1, c2, c3, hin, sp_X0_wantOf, yvc_s, s1i, s2i, s1l, s2l, sil, s1r, sir, siir, slir, srir, svr, sd1, sd2, lg, lput, ldel, isL_i, isL_r, isL_l, jmp, obj, obj1, fI, fR, arI, arL, arR, hput, f4_0, f4_1, f4_2, f4_3, lc_0, lc_1, rok_i, rok_b, rok_y, strF, fput_1, fput_2, csum_nil, csum_i, csum_l, csum_r, va_up_self, bx_uu, Int.reduceAdd, List.elem_nil, List.elem_cons, List.take_succ_cons, List.take_zero, List.drop_succ_cons, List.drop_zero, List.take_nil, List.drop_nil, List.reverse_cons, List.reverse_nil, List.nil_append, List.cons_append, List.append_nil, Option.toList_some, Option.toList_none, List.getElem?_cons_zero, List.getElem?_cons_succ, List.set_cons_zero, List.set_cons_succ, List.length_cons, List.length_nil, reduceIte, reduceCtorEq, and_true, true_and, and_self, or_true, true_or, false_and, and_false, not_true_eq_false, not_false_eq_true, true_implies, false_implies, implies_true, Nat.reduceAdd, Nat.reduceLT, Nat.reduceEqDiff, Nat.reduceLeDiff, Nat.reduceBEq, Nat.zero_add, Nat.lt_add_one, Bool.false_eq_true, Bool.or_false, Bool.or_true, Bool.or_self, Nat.zero_ne_one, Nat.one_ne_zero, ite_true, ite_false, ne_eq, Nat.reduceSub, Nat.succ_eq_add_one, Nat.zero_lt_succ, Nat.add_one_ne_zero, false_or, or_false, mX0_testKeeper_c, mX0_testKeeper_n, mX0_testKeeper_r, mX0_testKeeper_l, dX0_testKeeper_0, dX0_testKeeper_1, fl_0_59_0, dX0_testKeeper_4, dX0_testKeeper_5, dX0_testKeeper_6, dX0_testKeeper_7, dX0_testKeeper_8, dX0_testKeeper_9, dX0_testKeeper_10, dX0_testKeeper_13, dX0_testKeeper_14, dX0_testKeeper_15, dX0_testKeeper_16, fl_0_19_0, dX0_testKeeper_19, ic_4, dX0_testKeeper_20, dX0_testKeeper_21, tg_21_35, cnd2_lt, dX0_testKeeper_24, dX0_testKeeper_25, dX0_testKeeper_26, fl_0_96_0, dX0_testKeeper_29, ic_1, dX0_testKeeper_30, dX0_testKeeper_31, dX0_testKeeper_34, dX0_testKeeper_35, dX0_testKeeper_36, fl_0_22_0, dX0_testKeeper_39, dX0_testKeeper_40, dX0_testKeeper_41, dX0_testKeeper_42, dX0_testKeeper_43, dX0_testKeeper_46, dX0_testKeeper_47, dX0_testKeeper_48, dX0_testKeeper_49, ic_0, dX0_testKeeper_50, dX0_testKeeper_53, tg_53_22, dX0_testKeeper_56, dX0_testKeeper_57, dX0_testKeeper_58, dX0_testKeeper_61, tg_61_14, dX0_testKeeper_64, dX0_testKeeper_65, dX0_testKeeper_68, dX0_testKeeper_69, dX0_testKeeper_70, dX0_testKeeper_71, dX0_testKeeper_74, dX0_testKeeper_75, jX0_testKeeper_0_46, jX0_testKeeper_0_39, jX0_testKeeper_0_99, st_aload_n, st_dup, st_getfield, st_goto, st_iadd, st_iaload, st_iastore, st_iconst, st_if_icmp, st_iload_n, st_invokevirtual, st_ior, st_ishl, st_istore_n, st_putfield, st_return]
  refine ⟨fun c => ?_, fun c => ?_⟩
  · change w (ix (kp d) (nI d)) < rule + 4 at c
    rw [if_pos c] at h
    refine ⟨fun c => ?_, fun c => ?_⟩
    · change w (ix (kp d) (nI d)) < rule at c
      rw [if_pos c, hself] at h
      exact h
    · change ¬ w (ix (kp d) (nI d)) < rule at c
      rw [if_neg c] at h
      refine ⟨(a, aw, ak, ad), _, d, rfl, hd, hP, hc0, ?_⟩
      refine yvc_ok (uX0_testKeeper Γ) (S := []) 60 _ _ _ _ ?_
      simp only [m1, m2, m3, m4, e1, e2, e3, e4, c1, c2, c3, yvc_s, s1i, s2i, s1l, s2l, sil, s1r, sir, siir, slir, srir, svr, sd1, sd2, lg, lput, ldel, isL_i, isL_r, isL_l, jmp, obj, obj1, fI, fR, arI, arL, arR, hput, f4_0, f4_1, f4_2, f4_3, lc_0, lc_1, rok_i, rok_b, rok_y, strF, fput_1, fput_2, csum_nil, csum_i, csum_l, csum_r, va_up_self, bx_uu, Int.reduceAdd, List.elem_nil, List.elem_cons, List.take_succ_cons, List.take_zero, List.drop_succ_cons, List.drop_zero, List.take_nil, List.drop_nil, List.reverse_cons, List.reverse_nil, List.nil_append, List.cons_append, List.append_nil, Option.toList_some, Option.toList_none, List.getElem?_cons_zero, List.getElem?_cons_succ, List.set_cons_zero, List.set_cons_succ, List.length_cons, List.length_nil, reduceIte, reduceCtorEq, and_true, true_and, and_self, or_true, true_or, false_and, and_false, not_true_eq_false, not_false_eq_true, true_implies, false_implies, implies_true, Nat.reduceAdd, Nat.reduceLT, Nat.reduceEqDiff, Nat.reduceLeDiff, Nat.reduceBEq, Nat.zero_add, Nat.lt_add_one, Bool.false_eq_true, Bool.or_false, Bool.or_true, Bool.or_self, Nat.zero_ne_one, Nat.one_ne_zero, ite_true, ite_false, ne_eq, Nat.reduceSub, Nat.succ_eq_add_one, Nat.zero_lt_succ, Nat.add_one_ne_zero, false_or, or_false, mX0_testKeeper_c, mX0_testKeeper_n, mX0_testKeeper_r, mX0_testKeeper_l, dX0_testKeeper_0, dX0_testKeeper_1, fl_0_59_0, dX0_testKeeper_4, dX0_testKeeper_5, dX0_testKeeper_6, dX0_testKeeper_7, dX0_testKeeper_8, dX0_testKeeper_9, dX0_testKeeper_10, dX0_testKeeper_13, dX0_testKeeper_14, dX0_testKeeper_15, dX0_testKeeper_16, fl_0_19_0, dX0_testKeeper_19, ic_4, dX0_testKeeper_20, dX0_testKeeper_21, tg_21_35, cnd2_lt, dX0_testKeeper_24, dX0_testKeeper_25, dX0_testKeeper_26, fl_0_96_0, dX0_testKeeper_29, ic_1, dX0_testKeeper_30, dX0_testKeeper_31, dX0_testKeeper_34, dX0_testKeeper_35, dX0_testKeeper_36, fl_0_22_0, dX0_testKeeper_39, dX0_testKeeper_40, dX0_testKeeper_41, dX0_testKeeper_42, dX0_testKeeper_43, dX0_testKeeper_46, dX0_testKeeper_47, dX0_testKeeper_48, dX0_testKeeper_49, ic_0, dX0_testKeeper_50, dX0_testKeeper_53, tg_53_22, dX0_testKeeper_56, dX0_testKeeper_57, dX0_testKeeper_58, dX0_testKeeper_61, tg_61_14, dX0_testKeeper_64, dX0_testKeeper_65, dX0_testKeeper_68, dX0_testKeeper_69, dX0_testKeeper_70, dX0_testKeeper_71, dX0_testKeeper_74, dX0_testKeeper_75, jX0_testKeeper_0_46, jX0_testKeeper_0_39, jX0_testKeeper_0_99, st_aload_n, st_dup, st_getfield, st_goto, st_iadd, st_iaload, st_iastore, st_iconst, st_if_icmp, st_iload_n, st_invokevirtual, st_ior, st_ishl, st_istore_n, st_putfield, st_return]
      rw [← hc0.putK] at h
      exact h
  · change ¬ w (ix (kp d) (nI d)) < rule + 4 at c
    rw [if_neg c] at h
    have hp := hc0.put (w, kp, kd, day, gone + 1, draw, P, rule, gd ||| (1 <<< (nI d &&& 31))) rfl rfl rfl
    have hc1 := hc0.set (w, kp, kd, day, gone + 1, draw, P, rule, gd ||| (1 <<< (nI d &&& 31)))
    rw [← hp] at hc1
    simp only [hput, ColE] at hc1
    refine ⟨(a, aw, ak, ad), (w, kp, kd, day, gone + 1, draw, P, rule, gd ||| (1 <<< (nI d &&& 31))), kp d, nI d, 0, rfl, hc1, hin, ?_⟩
    refine yvc_ok (uX0_testKeeper Γ) (S := []) 60 _ _ _ _ ?_
    simp only [yvc_s, s1i, s2i, s1l, s2l, sil, s1r, sir, siir, slir, srir, svr, sd1, sd2, lg, lput, ldel, isL_i, isL_r, isL_l, jmp, obj, obj1, fI, fR, arI, arL, arR, hput, f4_0, f4_1, f4_2, f4_3, lc_0, lc_1, rok_i, rok_b, rok_y, strF, fput_1, fput_2, csum_nil, csum_i, csum_l, csum_r, va_up_self, bx_uu, Int.reduceAdd, List.elem_nil, List.elem_cons, List.take_succ_cons, List.take_zero, List.drop_succ_cons, List.drop_zero, List.take_nil, List.drop_nil, List.reverse_cons, List.reverse_nil, List.nil_append, List.cons_append, List.append_nil, Option.toList_some, Option.toList_none, List.getElem?_cons_zero, List.getElem?_cons_succ, List.set_cons_zero, List.set_cons_succ, List.length_cons, List.length_nil, reduceIte, reduceCtorEq, and_true, true_and, and_self, or_true, true_or, false_and, and_false, not_true_eq_false, not_false_eq_true, true_implies, false_implies, implies_true, Nat.reduceAdd, Nat.reduceLT, Nat.reduceEqDiff, Nat.reduceLeDiff, Nat.reduceBEq, Nat.zero_add, Nat.lt_add_one, Bool.false_eq_true, Bool.or_false, Bool.or_true, Bool.or_self, Nat.zero_ne_one, Nat.one_ne_zero, ite_true, ite_false, ne_eq, Nat.reduceSub, Nat.succ_eq_add_one, Nat.zero_lt_succ, Nat.add_one_ne_zero, false_or, or_false, mX0_testKeeper_c, mX0_testKeeper_n, mX0_testKeeper_r, mX0_testKeeper_l, dX0_testKeeper_0, dX0_testKeeper_1, fl_0_59_0, dX0_testKeeper_4, dX0_testKeeper_5, dX0_testKeeper_6, dX0_testKeeper_7, dX0_testKeeper_8, dX0_testKeeper_9, dX0_testKeeper_10, dX0_testKeeper_13, dX0_testKeeper_14, dX0_testKeeper_15, dX0_testKeeper_16, fl_0_19_0, dX0_testKeeper_19, ic_4, dX0_testKeeper_20, dX0_testKeeper_21, tg_21_35, cnd2_lt, dX0_testKeeper_24, dX0_testKeeper_25, dX0_testKeeper_26, fl_0_96_0, dX0_testKeeper_29, ic_1, dX0_testKeeper_30, dX0_testKeeper_31, dX0_testKeeper_34, dX0_testKeeper_35, dX0_testKeeper_36, fl_0_22_0, dX0_testKeeper_39, dX0_testKeeper_40, dX0_testKeeper_41, dX0_testKeeper_42, dX0_testKeeper_43, dX0_testKeeper_46, dX0_testKeeper_47, dX0_testKeeper_48, dX0_testKeeper_49, ic_0, dX0_testKeeper_50, dX0_testKeeper_53, tg_53_22, dX0_testKeeper_56, dX0_testKeeper_57, dX0_testKeeper_58, dX0_testKeeper_61, tg_61_14, dX0_testKeeper_64, dX0_testKeeper_65, dX0_testKeeper_68, dX0_testKeeper_69, dX0_testKeeper_70, dX0_testKeeper_71, dX0_testKeeper_74, dX0_testKeeper_75, jX0_testKeeper_0_46, jX0_testKeeper_0_39, jX0_testKeeper_0_99, st_aload_n, st_dup, st_getfield, st_goto, st_iadd, st_iaload, st_iastore, st_iconst, st_if_icmp, st_iload_n, st_invokevirtual, st_ior, st_ishl, st_istore_n, st_putfield, st_return]
    have hp2 : ((σ.1, va_up σ.2 a (Sum.inr (0, [Value.ref aw, Value.ref ak, Value.int day, Value.int (gone + 1), Value.int draw, Value.ref ad, Value.int (nI P), Value.int rule, Value.int (gd ||| (1 <<< (nI d &&& 31)))]))) : Hp) = _ := hp
    rw [hp2, cset_cset]
    exact h
