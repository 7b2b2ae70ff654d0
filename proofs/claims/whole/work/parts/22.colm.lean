/-! ===== College: small methods ===== -/
def sp_X0_has (_ : Cx) : YSp := fun av σ K => match av with | [.ref a, .int p] => obj1 σ a 0 fun fs => fI fs 6 fun n => K (some (.int (bI (inr p 0 (n - 1))))) σ | _ => False
theorem mono_X0_has {Γ : Cx} : Mono (sp_X0_has Γ) := by
  intro av σ K K' hk h
  unfold sp_X0_has at h ⊢
  split at h
  · exact obj1_mono (fun _ h => fI_mono (fun _ h => hk _ _ h) h) h
  · exact h.elim
theorem rv_X0_has {Γ : Cx} : Recv (sp_X0_has Γ) 1 0 := by
  intro av σ K h
  unfold sp_X0_has at h
  split at h
  · obtain ⟨fs, h1, h2, -⟩ := obj1_recv h
    exact ⟨_, _, fs, rfl, rfl, h1, h2⟩
  · exact h.elim
theorem nw_266 : Cond.methodLinkNest RX0 35 yX6_within "YawnKeys" ∈ nestW := List.mem_filter.mpr ⟨List.mem_of_getElem? (i := 266) (by decide +kernel), rfl⟩
def mX0_has : Mt := (⟨1, 0, 0, 22⟩, RX0, cX0_has, 2, some .boolean, (0, 0), none)
theorem mX0_has_c : mX0_has.2.2.1 = cX0_has := rfl
theorem mX0_has_n : mX0_has.2.2.2.1 = 2 := rfl
theorem mX0_has_r : mX0_has.2.2.2.2.1 = some .boolean := rfl
theorem mX0_has_l : mX0_has.2.2.2.2.2.2 = none := rfl
def jX0_has (Γ : Cx) : List ((Nat × Nat) × Nat × Bool × YSp) := [((1, 35), 3, true, sp_X6_within Γ)]
theorem jX0_has_1_35 (Γ : Cx) : kT (jX0_has Γ) 1 35 = some (3, true, sp_X6_within Γ) := rfl
theorem uX0_has (Γ : Cx) : TbOK Γ mX0_has (fT fX0, cT kX0, kT (jX0_has Γ)) := tb_ok fX0_ok kX0_ok (all_cons ⟨call_SN (n := 3) (ok_X6_within Γ) (rv_X6_within (Γ := Γ)) bw_241 nw_266 bw_240 bw_42 no_X6_within ⟨⟨rfl, rfl⟩, ⟨by decide, by decide⟩, ⟨by decide, by decide⟩⟩, fun _ => mono_X6_within (Γ := Γ)⟩ (all_nil))
set_option maxRecDepth 20000 in
theorem ok_X0_has (Γ : Cx) : Ok Γ yX0_has mX0_has (sp_X0_has Γ) := by
  refine ok_intro (by decide +kernel) rfl rfl ?_
  intro av σ K h
  unfold sp_X0_has at h
  split at h
  · next a p =>
    obtain ⟨fs, h1, h2, h⟩ := obj1_recv h
    obtain ⟨n, h3, h⟩ := fI_recv h
    refine ⟨Nat.le_of_ble_eq_true rfl, yvc_ok (uX0_has Γ) (S := []) 40 _ _ _ _ ?_⟩
    simp only [lv_args, Value.category, h1, h2, h3, sp_X6_within, yvc_s, s1i, s2i, s1l, s2l, sil, s1r, sir, siir, slir, srir, svr, sd1, sd2, lg, lput, ldel, isL_i, isL_r, isL_l, jmp, obj, obj1, fI, fR, arI, arL, arR, hput, f4_0, f4_1, f4_2, f4_3, lc_0, lc_1, rok_i, rok_b, rok_y, strF, fput_1, fput_2, csum_nil, csum_i, csum_l, csum_r, va_up_self, bx_uu, Int.reduceAdd, List.elem_nil, List.elem_cons, List.take_succ_cons, List.take_zero, List.drop_succ_cons, List.drop_zero, List.take_nil, List.drop_nil, List.reverse_cons, List.reverse_nil, List.nil_append, List.cons_append, List.append_nil, Option.toList_some, Option.toList_none, List.getElem?_cons_zero, List.getElem?_cons_succ, List.set_cons_zero, List.set_cons_succ, List.length_cons, List.length_nil, reduceIte, reduceCtorEq, and_true, true_and, and_self, or_true, true_or, false_and, and_false, not_true_eq_false, not_false_eq_true, true_implies, false_implies, implies_true, Nat.reduceAdd, Nat.reduceLT, Nat.reduceEqDiff, Nat.reduceLeDiff, Nat.reduceBEq, Nat.zero_add, Nat.lt_add_one, Bool.false_eq_true, Bool.or_false, Bool.or_true, Bool.or_self, Nat.zero_ne_one, Nat.one_ne_zero, ite_true, ite_false, ne_eq, Nat.reduceSub, Nat.succ_eq_add_one, Nat.zero_lt_succ, Nat.add_one_ne_zero, false_or, or_false, mX0_has_c, mX0_has_n, mX0_has_r, mX0_has_l, dX0_has_0, dX0_has_1, ic_0, dX0_has_2, dX0_has_3, fl_0_15_0, dX0_has_6, ic_1, dX0_has_7, dX0_has_8, dX0_has_11, jX0_has_1_35, st_aload_n, st_getfield, st_iconst, st_iload_n, st_invokestatic, st_ireturn, st_isub]
    exact ⟨bI_01, h⟩
  · exact h.elim
def sp_X0_wantOf (Γ : Cx) : YSp := fun av σ K => match av with | [.ref a, .int p, .int d] => obj1 σ a 0 fun fs => fR fs 0 fun aw => arI Γ σ aw fun n w => vp_in (p * 4 + d) n ∧ K (some (.int (w (ix p d)))) σ | _ => False
theorem mono_X0_wantOf {Γ : Cx} : Mono (sp_X0_wantOf Γ) := by
  intro av σ K K' hk h
  unfold sp_X0_wantOf at h ⊢
  split at h
  · exact obj1_mono (fun _ h => fR_mono (fun _ h => arI_mono (fun _ _ h => ⟨h.1, hk _ _ h.2⟩) h) h) h
  · exact h.elim
theorem rv_X0_wantOf {Γ : Cx} : Recv (sp_X0_wantOf Γ) 2 0 := by
  intro av σ K h
  unfold sp_X0_wantOf at h
  split at h
  · obtain ⟨fs, h1, h2, -⟩ := obj1_recv h
    exact ⟨_, _, fs, rfl, rfl, h1, h2⟩
  · exact h.elim
def mX0_wantOf : Mt := (⟨0, 0, 0, 0⟩, RX0, cX0_wantOf, 3, some .int, (0, 0), none)
theorem mX0_wantOf_c : mX0_wantOf.2.2.1 = cX0_wantOf := rfl
theorem mX0_wantOf_n : mX0_wantOf.2.2.2.1 = 3 := rfl
theorem mX0_wantOf_r : mX0_wantOf.2.2.2.2.1 = some .int := rfl
theorem mX0_wantOf_l : mX0_wantOf.2.2.2.2.2.2 = none := rfl
def jX0_wantOf (Γ : Cx) : List ((Nat × Nat) × Nat × Bool × YSp) := []
theorem uX0_wantOf (Γ : Cx) : TbOK Γ mX0_wantOf (fT fX0, cT kX0, kT (jX0_wantOf Γ)) := tb_ok fX0_ok kX0_ok (all_nil)
set_option maxRecDepth 20000 in
theorem ok_X0_wantOf (Γ : Cx) : Ok Γ yX0_wantOf mX0_wantOf (sp_X0_wantOf Γ) := by
  refine ok_intro (by decide +kernel) rfl rfl ?_
  intro av σ K h
  unfold sp_X0_wantOf at h
  split at h
  · next a p d =>
    obtain ⟨fs, h1, h2, h⟩ := obj1_recv h
    obtain ⟨aw, h3, h⟩ := fR_recv h
    obtain ⟨n, w, h4, h5, h⟩ := arI_recv h
    refine ⟨Nat.le_of_ble_eq_true rfl, yvc_ok (uX0_wantOf Γ) (S := []) 40 _ _ _ _ ?_⟩
    simp only [lv_args, Value.category, h1, h2, h3, h4, h5, yvc_s, s1i, s2i, s1l, s2l, sil, s1r, sir, siir, slir, srir, svr, sd1, sd2, lg, lput, ldel, isL_i, isL_r, isL_l, jmp, obj, obj1, fI, fR, arI, arL, arR, hput, f4_0, f4_1, f4_2, f4_3, lc_0, lc_1, rok_i, rok_b, rok_y, strF, fput_1, fput_2, csum_nil, csum_i, csum_l, csum_r, va_up_self, bx_uu, Int.reduceAdd, List.elem_nil, List.elem_cons, List.take_succ_cons, List.take_zero, List.drop_succ_cons, List.drop_zero, List.take_nil, List.drop_nil, List.reverse_cons, List.reverse_nil, List.nil_append, List.cons_append, List.append_nil, Option.toList_some, Option.toList_none, List.getElem?_cons_zero, List.getElem?_cons_succ, List.set_cons_zero, List.set_cons_succ, List.length_cons, List.length_nil, reduceIte, reduceCtorEq, and_true, true_and, and_self, or_true, true_or, false_and, and_false, not_true_eq_false, not_false_eq_true, true_implies, false_implies, implies_true, Nat.reduceAdd, Nat.reduceLT, Nat.reduceEqDiff, Nat.reduceLeDiff, Nat.reduceBEq, Nat.zero_add, Nat.lt_add_one, Bool.false_eq_true, Bool.or_false, Bool.or_true, Bool.or_self, Nat.zero_ne_one, Nat.one_ne_zero, ite_true, ite_false, ne_eq, Nat.reduceSub, Nat.succ_eq_add_one, Nat.zero_lt_succ, Nat.add_one_ne_zero, false_or, or_false, mX0_wantOf_c, mX0_wantOf_n, mX0_wantOf_r, mX0_wantOf_l, dX0_wantOf_0, dX0_wantOf_1, fl_0_43_0, dX0_wantOf_4, dX0_wantOf_5, ic_4, dX0_wantOf_6, dX0_wantOf_7, dX0_wantOf_8, dX0_wantOf_9, dX0_wantOf_10, st_aload_n, st_getfield, st_iadd, st_iaload, st_iconst, st_iload_n, st_imul, st_ireturn]
    exact h
  · exact h.elim
def sp_X0_setWant (Γ : Cx) : YSp := fun av σ K => ∃ (A : CA) (s : CS) (p d v : Int32), av = [.ref A.1, .int p, .int d, .int v] ∧ Col Γ A s σ ∧ vp_in (p * 4 + d) 20 ∧ K none (cset Γ A (upd s.1 (ix p d) v, s.2) σ)
theorem rv_X0_setWant {Γ : Cx} : Recv (sp_X0_setWant Γ) 3 0 := by
  intro av σ K h
  obtain ⟨A, s, p, d, v, rfl, hc, -⟩ := h
  obtain ⟨fs, h1, h2⟩ := col_rv hc
  exact ⟨_, _, fs, rfl, rfl, h1, h2⟩
def mX0_setWant : Mt := (⟨0, 0, 0, 0⟩, RX0, cX0_setWant, 4, none, (0, 0), none)
theorem mX0_setWant_c : mX0_setWant.2.2.1 = cX0_setWant := rfl
theorem mX0_setWant_n : mX0_setWant.2.2.2.1 = 4 := rfl
theorem mX0_setWant_r : mX0_setWant.2.2.2.2.1 = none := rfl
theorem mX0_setWant_l : mX0_setWant.2.2.2.2.2.2 = none := rfl
def jX0_setWant (Γ : Cx) : List ((Nat × Nat) × Nat × Bool × YSp) := []
theorem uX0_setWant (Γ : Cx) : TbOK Γ mX0_setWant (fT fX0, cT kX0, kT (jX0_setWant Γ)) := tb_ok fX0_ok kX0_ok (all_nil)
set_option maxRecDepth 20000 in
theorem ok_X0_setWant (Γ : Cx) : Ok Γ yX0_setWant mX0_setWant (sp_X0_setWant Γ) := by
  refine ok_intro (by decide +kernel) rfl rfl ?_
  intro av σ K h
  obtain ⟨⟨a, aw, ak, ad⟩, ⟨w, kp, kd, day, gone, draw, P, rule, gd⟩, p, d, v, rfl, hc, hin, h⟩ := h
  have hp := hc.putW (upd w (ix p d) v)
  obtain ⟨⟨m1, m2, m3, m4⟩, e1, e2, e3, e4⟩ := hc
  rw [← hp] at h
  simp only [ColE, iA] at e1 e2 e3 e4 m1 m2 m3 m4 h
  refine ⟨Nat.le_of_ble_eq_true rfl, yvc_ok (uX0_setWant Γ) (S := []) 40 _ _ _ _ ?_⟩
  simp only [lv_args, Value.category, m1, m2, m3, m4, e1, e2, e3, e4, yvc_s, s1i, s2i, s1l, s2l, sil, s1r, sir, siir, slir, srir, svr, sd1, sd2, lg, lput, ldel, isL_i, isL_r, isL_l, jmp, obj, obj1, fI, fR, arI, arL, arR, hput, f4_0, f4_1, f4_2, f4_3, lc_0, lc_1, rok_i, rok_b, rok_y, strF, fput_1, fput_2, csum_nil, csum_i, csum_l, csum_r, va_up_self, bx_uu, Int.reduceAdd, List.elem_nil, List.elem_cons, List.take_succ_cons, List.take_zero, List.drop_succ_cons, List.drop_zero, List.take_nil, List.drop_nil, List.reverse_cons, List.reverse_nil, List.nil_append, List.cons_append, List.append_nil, Option.toList_some, Option.toList_none, List.getElem?_cons_zero, List.getElem?_cons_succ, List.set_cons_zero, List.set_cons_succ, List.length_cons, List.length_nil, reduceIte, reduceCtorEq, and_true, true_and, and_self, or_true, true_or, false_and, and_false, not_true_eq_false, not_false_eq_true, true_implies, false_implies, implies_true, Nat.reduceAdd, Nat.reduceLT, Nat.reduceEqDiff, Nat.reduceLeDiff, Nat.reduceBEq, Nat.zero_add, Nat.lt_add_one, Bool.false_eq_true, Bool.or_false, Bool.or_true, Bool.or_self, Nat.zero_ne_one, Nat.one_ne_zero, ite_true, ite_false, ne_eq, Nat.reduceSub, Nat.succ_eq_add_one, Nat.zero_lt_succ, Nat.add_one_ne_zero, false_or, or_false, mX0_setWant_c, mX0_setWant_n, mX0_setWant_r, mX0_setWant_l, dX0_setWant_0, dX0_setWant_1, fl_0_43_0, dX0_setWant_4, dX0_setWant_5, ic_4, dX0_setWant_6, dX0_setWant_7, dX0_setWant_8, dX0_setWant_9, dX0_setWant_10, dX0_setWant_11, st_aload_n, st_getfield, st_iadd, st_iastore, st_iconst, st_iload_n, st_imul, st_return]
  exact ⟨hin, h⟩
def sp_X0_wantMore (Γ : Cx) : YSp := fun av σ K => ∃ (A : CA) (s : CS) (p d v : Int32), av = [.ref A.1, .int p, .int d, .int v] ∧ Col Γ A s σ ∧ vp_in (p * 4 + d) 20 ∧ K none (cset Γ A (wmore s.1 p d v, s.2) σ)
theorem rv_X0_wantMore {Γ : Cx} : Recv (sp_X0_wantMore Γ) 3 0 := by
  intro av σ K h
  obtain ⟨A, s, p, d, v, rfl, hc, -⟩ := h
  obtain ⟨fs, h1, h2⟩ := col_rv hc
  exact ⟨_, _, fs, rfl, rfl, h1, h2⟩
theorem bw_273 : Cond.code yX0_wantOf cX0_wantOf 3 (some .int) ∈ BW := bw_i 273 (by decide +kernel) (by decide +kernel)
theorem bw_44 : Cond.initialized RX0 ∈ BW := bw_i 44 (by decide +kernel) (by decide +kernel)
theorem no_X0_wantOf : NameOK yX0_wantOf 2 := by unfold NameOK; decide +kernel
theorem bw_286 : Cond.methodLink RX0 46 yX0_wantOf ∈ BW := bw_i 286 (by decide +kernel) (by decide +kernel)
theorem bw_271 : Cond.instanceMethod yX0_wantOf ∈ BW := bw_i 271 (by decide +kernel) (by decide +kernel)
theorem bw_272 : Cond.selects RX0 yX0_wantOf yX0_wantOf ∈ BW := bw_i 272 (by decide +kernel) (by decide +kernel)
theorem bw_513 : Cond.methodLink RX0 50 Lib.Math.min.name ∈ BW := bw_i 513 (by decide +kernel) (by decide +kernel)
theorem bw_387 : Cond.static Lib.Math.min.name ∈ BW := bw_i 387 (by decide +kernel) (by decide +kernel)
theorem bw_53 : Cond.initialized "java/lang/Math" ∈ BW := bw_i 53 (by decide +kernel) (by decide +kernel)
theorem bw_388 : Cond.code Lib.Math.min.name Lib.Math.min.code 2 (some .int) ∈ BW := bw_i 388 (by decide +kernel) (by decide +kernel)
theorem bw_253 : Cond.code yX0_setWant cX0_setWant 4 none ∈ BW := bw_i 253 (by decide +kernel) (by decide +kernel)
theorem no_X0_setWant : NameOK yX0_setWant 3 := by unfold NameOK; decide +kernel
theorem bw_250 : Cond.methodLink RX0 39 yX0_setWant ∈ BW := bw_i 250 (by decide +kernel) (by decide +kernel)
theorem bw_251 : Cond.instanceMethod yX0_setWant ∈ BW := bw_i 251 (by decide +kernel) (by decide +kernel)
theorem bw_252 : Cond.selects RX0 yX0_setWant yX0_setWant ∈ BW := bw_i 252 (by decide +kernel) (by decide +kernel)
theorem bc_20 : (Int8.ofInt 20).toInt32 = 20 := by decide
def mX0_wantMore : Mt := (⟨1, 0, 0, 23⟩, RX0, cX0_wantMore, 4, none, (0, 0), none)
theorem mX0_wantMore_c : mX0_wantMore.2.2.1 = cX0_wantMore := rfl
theorem mX0_wantMore_n : mX0_wantMore.2.2.2.1 = 4 := rfl
theorem mX0_wantMore_r : mX0_wantMore.2.2.2.2.1 = none := rfl
theorem mX0_wantMore_l : mX0_wantMore.2.2.2.2.2.2 = none := rfl
def jX0_wantMore (Γ : Cx) : List ((Nat × Nat) × Nat × Bool × YSp) := [((0, 46), 3, true, sp_X0_wantOf Γ), ((1, 50), 2, true, sp_min), ((0, 39), 4, false, sp_X0_setWant Γ)]
theorem jX0_wantMore_0_46 (Γ : Cx) : kT (jX0_wantMore Γ) 0 46 = some (3, true, sp_X0_wantOf Γ) := rfl
theorem jX0_wantMore_1_50 (Γ : Cx) : kT (jX0_wantMore Γ) 1 50 = some (2, true, sp_min) := rfl
theorem jX0_wantMore_0_39 (Γ : Cx) : kT (jX0_wantMore Γ) 0 39 = some (4, false, sp_X0_setWant Γ) := rfl
theorem uX0_wantMore (Γ : Cx) : TbOK Γ mX0_wantMore (fT fX0, cT kX0, kT (jX0_wantMore Γ)) := tb_ok fX0_ok kX0_ok (all_cons ⟨call_V (n := 2) (T := TX0) (N := 9) (ok_X0_wantOf Γ) (rv_X0_wantOf (Γ := Γ)) rfl bw_273 bw_286 bw_271 bw_272 bw_44 no_X0_wantOf ⟨⟨rfl, rfl⟩, ⟨by decide, by decide⟩, ⟨by decide, by decide⟩⟩, fun _ => mono_X0_wantOf (Γ := Γ)⟩ (all_cons ⟨call_min bw_513 bw_387 bw_53 bw_388 (by decide +kernel), fun _ => mono_min⟩ (all_cons ⟨call_V (n := 3) (T := TX0) (N := 9) (ok_X0_setWant Γ) (rv_X0_setWant (Γ := Γ)) rfl bw_253 bw_250 bw_251 bw_252 bw_44 no_X0_setWant ⟨⟨rfl, rfl⟩, ⟨by decide, by decide⟩, ⟨by decide, by decide⟩⟩, fun z => by cases z⟩ (all_nil))))
set_option maxRecDepth 20000 in
theorem ok_X0_wantMore (Γ : Cx) : Ok Γ yX0_wantMore mX0_wantMore (sp_X0_wantMore Γ) := by
  refine ok_intro (by decide +kernel) rfl rfl ?_
  intro av σ K h
  obtain ⟨⟨a, aw, ak, ad⟩, ⟨w, kp, kd, day, gone, draw, P, rule, gd⟩, p, d, v, rfl, hc, hin, h⟩ := h
  have hc0 := hc
  obtain ⟨⟨m1, m2, m3, m4⟩, e1, e2, e3, e4⟩ := hc
  simp only [ColE, iA] at e1 e2 e3 e4 m1 m2 m3 m4
  refine ⟨Nat.le_of_ble_eq_true rfl, yvc_ok (uX0_wantMore Γ) (S := []) 40 _ _ _ _ ?_⟩
  simp only [lv_args, Value.category, m1, m2, m3, m4, e1, e2, e3, e4, sp_X0_wantOf, sp_min, yvc_s, s1i, s2i, s1l, s2l, sil, s1r, sir, siir, slir, srir, svr, sd1, sd2, lg, lput, ldel, isL_i, isL_r, isL_l, jmp, obj, obj1, fI, fR, arI, arL, arR, hput, f4_0, f4_1, f4_2, f4_3, lc_0, lc_1, rok_i, rok_b, rok_y, strF, fput_1, fput_2, csum_nil, csum_i, csum_l, csum_r, va_up_self, bx_uu, Int.reduceAdd, List.elem_nil, List.elem_cons, List.take_succ_cons, List.take_zero, List.drop_succ_cons, List.drop_zero, List.take_nil, List.drop_nil, List.reverse_cons, List.reverse_nil, List.nil_append, List.cons_append, List.append_nil, Option.toList_some, Option.toList_none, List.getElem?_cons_zero, List.getElem?_cons_succ, List.set_cons_zero, List.set_cons_succ, List.length_cons, List.length_nil, reduceIte, reduceCtorEq, and_true, true_and, and_self, or_true, true_or, false_and, and_false, not_true_eq_false, not_false_eq_true, true_implies, false_implies, implies_true, Nat.reduceAdd, Nat.reduceLT, Nat.reduceEqDiff, Nat.reduceLeDiff, Nat.reduceBEq, Nat.zero_add, Nat.lt_add_one, Bool.false_eq_true, Bool.or_false, Bool.or_true, Bool.or_self, Nat.zero_ne_one, Nat.one_ne_zero, ite_true, ite_false, ne_eq, Nat.reduceSub, Nat.succ_eq_add_one, Nat.zero_lt_succ, Nat.add_one_ne_zero, false_or, or_false, mX0_wantMore_c, mX0_wantMore_n, mX0_wantMore_r, mX0_wantMore_l, dX0_wantMore_0, dX0_wantMore_1, dX0_wantMore_2, dX0_wantMore_3, bc_20, dX0_wantMore_5, dX0_wantMore_6, dX0_wantMore_7, dX0_wantMore_8, dX0_wantMore_11, dX0_wantMore_12, dX0_wantMore_13, dX0_wantMore_16, dX0_wantMore_19, jX0_wantMore_0_46, jX0_wantMore_1_50, jX0_wantMore_0_39, st_aload_n, st_bipush, st_iadd, st_iload_n, st_invokestatic, st_invokevirtual, st_return]
  refine ⟨hin, (a, aw, ak, ad), _, p, d, _, rfl, hc0, hin, ?_⟩
  refine yvc_ok (uX0_wantMore Γ) (S := []) 40 _ _ _ _ ?_
  simp only [yvc_s, s1i, s2i, s1l, s2l, sil, s1r, sir, siir, slir, srir, svr, sd1, sd2, lg, lput, ldel, isL_i, isL_r, isL_l, jmp, obj, obj1, fI, fR, arI, arL, arR, hput, f4_0, f4_1, f4_2, f4_3, lc_0, lc_1, rok_i, rok_b, rok_y, strF, fput_1, fput_2, csum_nil, csum_i, csum_l, csum_r, va_up_self, bx_uu, Int.reduceAdd, List.elem_nil, List.elem_cons, List.take_succ_cons, List.take_zero, List.drop_succ_cons, List.drop_zero, List.take_nil, List.drop_nil, List.reverse_cons, List.reverse_nil, List.nil_append, List.cons_append, List.append_nil, Option.toList_some, Option.toList_none, List.getElem?_cons_zero, List.getElem?_cons_succ, List.set_cons_zero, List.set_cons_succ, List.length_cons, List.length_nil, reduceIte, reduceCtorEq, and_true, true_and, and_self, or_true, true_or, false_and, and_false, not_true_eq_false, not_false_eq_true, true_implies, false_implies, implies_true, Nat.reduceAdd, Nat.reduceLT, Nat.reduceEqDiff, Nat.reduceLeDiff, Nat.reduceBEq, Nat.zero_add, Nat.lt_add_one, Bool.false_eq_true, Bool.or_false, Bool.or_true, Bool.or_self, Nat.zero_ne_one, Nat.one_ne_zero, ite_true, ite_false, ne_eq, Nat.reduceSub, Nat.succ_eq_add_one, Nat.zero_lt_succ, Nat.add_one_ne_zero, false_or, or_false, mX0_wantMore_c, mX0_wantMore_n, mX0_wantMore_r, mX0_wantMore_l, dX0_wantMore_0, dX0_wantMore_1, dX0_wantMore_2, dX0_wantMore_3, bc_20, dX0_wantMore_5, dX0_wantMore_6, dX0_wantMore_7, dX0_wantMore_8, dX0_wantMore_11, dX0_wantMore_12, dX0_wantMore_13, dX0_wantMore_16, dX0_wantMore_19, jX0_wantMore_0_46, jX0_wantMore_1_50, jX0_wantMore_0_39, st_aload_n, st_bipush, st_iadd, st_iload_n, st_invokestatic, st_invokevirtual, st_return]
  exact h
def sp_X0_wantsOf (Γ : Cx) : YSp := fun av σ K => ∃ (A : CA) (s : CS) (i : Nat), av = [.ref A.1, .int (nI i)] ∧ i < 5 ∧ Col Γ A s σ ∧ K (some (.int (wsum s.1 (nI i) 4))) σ
theorem rv_X0_wantsOf {Γ : Cx} : Recv (sp_X0_wantsOf Γ) 1 0 := by
  intro av σ K h
  obtain ⟨A, s, i, rfl, -, hc, -⟩ := h
  obtain ⟨fs, h1, h2⟩ := col_rv hc
  exact ⟨_, _, fs, rfl, rfl, h1, h2⟩
theorem tg_6_18 : tgo 6 18 = some 24 := by decide
theorem tg_21_m17 : tgo 21 (-17) = some 4 := by decide
def mX0_wantsOf : Mt := (⟨1, 0, 0, 22⟩, RX0, cX0_wantsOf, 4, some .int, (0, 0), none)
theorem mX0_wantsOf_c : mX0_wantsOf.2.2.1 = cX0_wantsOf := rfl
theorem mX0_wantsOf_n : mX0_wantsOf.2.2.2.1 = 4 := rfl
theorem mX0_wantsOf_r : mX0_wantsOf.2.2.2.2.1 = some .int := rfl
theorem mX0_wantsOf_l : mX0_wantsOf.2.2.2.2.2.2 = none := rfl
def jX0_wantsOf (Γ : Cx) : List ((Nat × Nat) × Nat × Bool × YSp) := [((0, 46), 3, true, sp_X0_wantOf Γ)]
theorem jX0_wantsOf_0_46 (Γ : Cx) : kT (jX0_wantsOf Γ) 0 46 = some (3, true, sp_X0_wantOf Γ) := rfl
theorem uX0_wantsOf (Γ : Cx) : TbOK Γ mX0_wantsOf (fT fX0, cT kX0, kT (jX0_wantsOf Γ)) := tb_ok fX0_ok kX0_ok (all_cons ⟨call_V (n := 2) (T := TX0) (N := 9) (ok_X0_wantOf Γ) (rv_X0_wantOf (Γ := Γ)) rfl bw_273 bw_286 bw_271 bw_272 bw_44 no_X0_wantOf ⟨⟨rfl, rfl⟩, ⟨by decide, by decide⟩, ⟨by decide, by decide⟩⟩, fun _ => mono_X0_wantOf (Γ := Γ)⟩ (all_nil))
set_option maxRecDepth 20000 in
theorem ok_X0_wantsOf (Γ : Cx) : Ok Γ yX0_wantsOf mX0_wantsOf (sp_X0_wantsOf Γ) := by
  refine ok_intro (by decide +kernel) rfl rfl ?_
  intro av σ K h
  obtain ⟨⟨a, aw, ak, ad⟩, ⟨w, kp, kd, day, gone, draw, P, rule, gd⟩, i, rfl, hi, hc, h⟩ := h
  obtain ⟨⟨m1, m2, m3, m4⟩, e1, e2, e3, e4⟩ := hc
  simp only [ColE, iA] at e1 e2 e3 e4 m1 m2 m3 m4
  have loop : ∀ n j : Nat, j + n = 4 → YG Γ mX0_wantsOf K 4 [(0, .ref a), (1, .int (nI i)), (2, .int (wsum w (nI i) j)), (3, .int (nI j))] [] σ := by
    intro n
    induction n with
    | zero =>
      intro j hj
      obtain rfl : j = 4 := by omega
      refine yvc1_ok (uX0_wantsOf Γ) (S := [4]) 40 ?_
      simp only [yvc1, ge4, yvc_s, s1i, s2i, s1l, s2l, sil, s1r, sir, siir, slir, srir, svr, sd1, sd2, lg, lput, ldel, isL_i, isL_r, isL_l, jmp, obj, obj1, fI, fR, arI, arL, arR, hput, f4_0, f4_1, f4_2, f4_3, lc_0, lc_1, rok_i, rok_b, rok_y, strF, fput_1, fput_2, csum_nil, csum_i, csum_l, csum_r, va_up_self, bx_uu, Int.reduceAdd, List.elem_nil, List.elem_cons, List.take_succ_cons, List.take_zero, List.drop_succ_cons, List.drop_zero, List.take_nil, List.drop_nil, List.reverse_cons, List.reverse_nil, List.nil_append, List.cons_append, List.append_nil, Option.toList_some, Option.toList_none, List.getElem?_cons_zero, List.getElem?_cons_succ, List.set_cons_zero, List.set_cons_succ, List.length_cons, List.length_nil, reduceIte, reduceCtorEq, and_true, true_and, and_self, or_true, true_or, false_and, and_false, not_true_eq_false, not_false_eq_true, true_implies, false_implies, implies_true, Nat.reduceAdd, Nat.reduceLT, Nat.reduceEqDiff, Nat.reduceLeDiff, Nat.reduceBEq, Nat.zero_add, Nat.lt_add_one, Bool.false_eq_true, Bool.or_false, Bool.or_true, Bool.or_self, Nat.zero_ne_one, Nat.one_ne_zero, ite_true, ite_false, ne_eq, Nat.reduceSub, Nat.succ_eq_add_one, Nat.zero_lt_succ, Nat.add_one_ne_zero, false_or, or_false, mX0_wantsOf_c, mX0_wantsOf_n, mX0_wantsOf_r, mX0_wantsOf_l, dX0_wantsOf_0, ic_0, dX0_wantsOf_1, dX0_wantsOf_2, dX0_wantsOf_3, dX0_wantsOf_4, dX0_wantsOf_5, ic_4, dX0_wantsOf_6, tg_6_18, cnd2_ge, dX0_wantsOf_9, dX0_wantsOf_10, dX0_wantsOf_11, dX0_wantsOf_12, dX0_wantsOf_13, dX0_wantsOf_16, dX0_wantsOf_17, dX0_wantsOf_18, ic_1, dX0_wantsOf_21, tg_21_m17, dX0_wantsOf_24, dX0_wantsOf_25, jX0_wantsOf_0_46, st_aload_n, st_goto, st_iadd, st_iconst, st_if_icmp, st_iinc, st_iload_n, st_invokevirtual, st_ireturn, st_istore_n]
      exact h
    | succ n ih =>
      intro j hj
      obtain ⟨c1, c2, c3⟩ := lt4 (show j < 4 by omega)
      refine yvc1_ok (uX0_wantsOf Γ) (S := [4]) 40 ?_
      simp only [yvc1, c1, m1, m2, e1, e2, sp_X0_wantOf, nI_1, yvc_s, s1i, s2i, s1l, s2l, sil, s1r, sir, siir, slir, srir, svr, sd1, sd2, lg, lput, ldel, isL_i, isL_r, isL_l, jmp, obj, obj1, fI, fR, arI, arL, arR, hput, f4_0, f4_1, f4_2, f4_3, lc_0, lc_1, rok_i, rok_b, rok_y, strF, fput_1, fput_2, csum_nil, csum_i, csum_l, csum_r, va_up_self, bx_uu, Int.reduceAdd, List.elem_nil, List.elem_cons, List.take_succ_cons, List.take_zero, List.drop_succ_cons, List.drop_zero, List.take_nil, List.drop_nil, List.reverse_cons, List.reverse_nil, List.nil_append, List.cons_append, List.append_nil, Option.toList_some, Option.toList_none, List.getElem?_cons_zero, List.getElem?_cons_succ, List.set_cons_zero, List.set_cons_succ, List.length_cons, List.length_nil, reduceIte, reduceCtorEq, and_true, true_and, and_self, or_true, true_or, false_and, and_false, not_true_eq_false, not_false_eq_true, true_implies, false_implies, implies_true, Nat.reduceAdd, Nat.reduceLT, Nat.reduceEqDiff, Nat.reduceLeDiff, Nat.reduceBEq, Nat.zero_add, Nat.lt_add_one, Bool.false_eq_true, Bool.or_false, Bool.or_true, Bool.or_self, Nat.zero_ne_one, Nat.one_ne_zero, ite_true, ite_false, ne_eq, Nat.reduceSub, Nat.succ_eq_add_one, Nat.zero_lt_succ, Nat.add_one_ne_zero, false_or, or_false, mX0_wantsOf_c, mX0_wantsOf_n, mX0_wantsOf_r, mX0_wantsOf_l, dX0_wantsOf_0, ic_0, dX0_wantsOf_1, dX0_wantsOf_2, dX0_wantsOf_3, dX0_wantsOf_4, dX0_wantsOf_5, ic_4, dX0_wantsOf_6, tg_6_18, cnd2_ge, dX0_wantsOf_9, dX0_wantsOf_10, dX0_wantsOf_11, dX0_wantsOf_12, dX0_wantsOf_13, dX0_wantsOf_16, dX0_wantsOf_17, dX0_wantsOf_18, ic_1, dX0_wantsOf_21, tg_21_m17, dX0_wantsOf_24, dX0_wantsOf_25, jX0_wantsOf_0_46, st_aload_n, st_goto, st_iadd, st_iconst, st_if_icmp, st_iinc, st_iload_n, st_invokevirtual, st_ireturn, st_istore_n]
      exact ⟨ix_in hi (by omega), ih (j + 1) (by omega)⟩
  refine ⟨Nat.le_of_ble_eq_true rfl, yvc_ok (uX0_wantsOf Γ) (S := [4]) 40 _ _ _ _ ?_⟩
  simp only [lv_args, Value.category, yvc_s, s1i, s2i, s1l, s2l, sil, s1r, sir, siir, slir, srir, svr, sd1, sd2, lg, lput, ldel, isL_i, isL_r, isL_l, jmp, obj, obj1, fI, fR, arI, arL, arR, hput, f4_0, f4_1, f4_2, f4_3, lc_0, lc_1, rok_i, rok_b, rok_y, strF, fput_1, fput_2, csum_nil, csum_i, csum_l, csum_r, va_up_self, bx_uu, Int.reduceAdd, List.elem_nil, List.elem_cons, List.take_succ_cons, List.take_zero, List.drop_succ_cons, List.drop_zero, List.take_nil, List.drop_nil, List.reverse_cons, List.reverse_nil, List.nil_append, List.cons_append, List.append_nil, Option.toList_some, Option.toList_none, List.getElem?_cons_zero, List.getElem?_cons_succ, List.set_cons_zero, List.set_cons_succ, List.length_cons, List.length_nil, reduceIte, reduceCtorEq, and_true, true_and, and_self, or_true, true_or, false_and, and_false, not_true_eq_false, not_false_eq_true, true_implies, false_implies, implies_true, Nat.reduceAdd, Nat.reduceLT, Nat.reduceEqDiff, Nat.reduceLeDiff, Nat.reduceBEq, Nat.zero_add, Nat.lt_add_one, Bool.false_eq_true, Bool.or_false, Bool.or_true, Bool.or_self, Nat.zero_ne_one, Nat.one_ne_zero, ite_true, ite_false, ne_eq, Nat.reduceSub, Nat.succ_eq_add_one, Nat.zero_lt_succ, Nat.add_one_ne_zero, false_or, or_false, mX0_wantsOf_c, mX0_wantsOf_n, mX0_wantsOf_r, mX0_wantsOf_l, dX0_wantsOf_0, ic_0, dX0_wantsOf_1, dX0_wantsOf_2, dX0_wantsOf_3, dX0_wantsOf_4, dX0_wantsOf_5, ic_4, dX0_wantsOf_6, tg_6_18, cnd2_ge, dX0_wantsOf_9, dX0_wantsOf_10, dX0_wantsOf_11, dX0_wantsOf_12, dX0_wantsOf_13, dX0_wantsOf_16, dX0_wantsOf_17, dX0_wantsOf_18, ic_1, dX0_wantsOf_21, tg_21_m17, dX0_wantsOf_24, dX0_wantsOf_25, jX0_wantsOf_0_46, st_aload_n, st_goto, st_iadd, st_iconst, st_if_icmp, st_iinc, st_iload_n, st_invokevirtual, st_ireturn, st_istore_n]
  exact loop 4 0 rfl
