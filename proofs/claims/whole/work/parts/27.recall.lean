theorem ne_of {h : Nat → va_E} {x y : Nat} {e1 e2 : va_E} (h1 : h x = e1) (h2 : h y = e2) (hne : e1 ≠ e2) : x ≠ y := fun e => hne (by rw [← h1, ← h2, e])
theorem momE_ne {Γ : Cx} {c aw ak n : Nat} {day gone draw : Int32} {t : List Value} {f : Nat → Int32} : MomE c aw ak day gone draw t ≠ iA Γ n f := fun e => by
  unfold MomE iA at e
  cases e
theorem i20 : Int32.ofNat 20 = 20 := rfl
theorem n20 : (20 : Int32).toNatClampNeg = 20 := by decide
theorem n4 : (4 : Int32).toNatClampNeg = 4 := by decide
theorem n5 : (5 : Int32).toNatClampNeg = 5 := by decide
theorem n0 : (0 : Int32).toNatClampNeg = 0 := by decide
theorem nl0 : ¬ (0 : Int32) < 0 := by decide
theorem nl20 : ¬ (20 : Int32) < 0 := by decide
theorem nl4 : ¬ (4 : Int32) < 0 := by decide
theorem nl5 : ¬ (5 : Int32) < 0 := by decide
theorem bw_458 : Cond.methodLink RX1 28 arraycopyName ∈ BW := bw_i 458 (by decide +kernel) (by decide +kernel)
theorem bw_460 : Cond.native arraycopyName ∈ BW := bw_i 460 (by decide +kernel) (by decide +kernel)
theorem bw_459 : Cond.static arraycopyName ∈ BW := bw_i 459 (by decide +kernel) (by decide +kernel)
theorem bw_57 : Cond.initialized "java/lang/System" ∈ BW := bw_i 57 (by decide +kernel) (by decide +kernel)
def mX1_recall : Mt := (⟨1, 0, 0, 60⟩, RX1, cX1_recall, 2, none, (0, 0), none)
theorem mX1_recall_c : mX1_recall.2.2.1 = cX1_recall := rfl
theorem mX1_recall_n : mX1_recall.2.2.2.1 = 2 := rfl
theorem mX1_recall_r : mX1_recall.2.2.2.2.1 = none := rfl
theorem mX1_recall_l : mX1_recall.2.2.2.2.2.2 = none := rfl
def jX1_recall (Γ : Cx) : List ((Nat × Nat) × Nat × Bool × YSp) := [((1, 28), 5, true, sp_cpyI Γ)]
theorem jX1_recall_1_28 (Γ : Cx) : kT (jX1_recall Γ) 1 28 = some (5, true, sp_cpyI Γ) := rfl
theorem uX1_recall (Γ : Cx) : TbOK Γ mX1_recall (fT fX1, cT kX1, kT (jX1_recall Γ)) := tb_ok fX1_ok kX1_ok (all_cons ⟨call_cpyI bw_458 bw_460 bw_459 bw_57 (by decide +kernel), fun _ => mono_cpyI⟩ (all_nil))
set_option maxRecDepth 20000 in
theorem ok_X1_recall (Γ : Cx) : Ok Γ yX1_recall mX1_recall (sp_X1_recall Γ) := by
  refine ok_intro (by decide +kernel) rfl rfl ?_
  intro av σ K h
  obtain ⟨a, b, ca, cb, aw, ak, bw, bk, w0, k0, w, k, d0, g0, r0, day, gone, draw, ta, tb, rfl, hca, hcb, ⟨m1, m2, m3, m4, m5, m6⟩, ⟨q1, q2, q3⟩, ⟨e1, e2, e3, e4, e5, e6⟩, h⟩ := h
  have x1 : a ≠ aw := ne_of e1 e3 momE_ne
  have x2 : a ≠ ak := ne_of e1 e4 momE_ne
  have x3 : b ≠ aw := ne_of e2 e3 momE_ne
  have x4 : b ≠ ak := ne_of e2 e4 momE_ne
  have x5 : bk ≠ aw := ne_of e6 e3 (iA_ne (by decide))
  have x6 : ak ≠ aw := ne_of e4 e3 (iA_ne (by decide))
  have x7 : bk ≠ ak := fun z => q3 z.symm
  have x8 : bw ≠ aw := fun z => q2 z.symm
  have x9 : b ≠ a := fun z => q1 z.symm
  simp only [MomE, iA] at e1 e2 e3 e4 e5 e6
  refine ⟨Nat.le_of_ble_eq_true rfl, yvc_ok (uX1_recall Γ) (S := []) 60 _ _ _ _ ?_⟩
  rcases hca with rfl | rfl <;> rcases hcb with rfl | rfl <;>
    (simp only [lv_args, Value.category, m1, m2, m3, m4, m5, m6, e1, e2, e3, e4, e5, e6, i20, n20, n4, n0, nl0, nl20, nl4, sp_cpyI, ne_eq, x1, x2, x3, x4, x5, x6, x7, x8, x9, va_up_ne, not_false_eq_true, Nat.le_refl, Nat.zero_add, yvc_s, s1i, s2i, s1l, s2l, sil, s1r, sir, siir, slir, srir, svr, sd1, sd2, lg, lput, ldel, isL_i, isL_r, isL_l, jmp, obj, obj1, fI, fR, arI, arL, arR, hput, f4_0, f4_1, f4_2, f4_3, lc_0, lc_1, rok_i, rok_b, rok_y, strF, fput_1, fput_2, csum_nil, csum_i, csum_l, csum_r, va_up_self, bx_uu, Int.reduceAdd, List.elem_nil, List.elem_cons, List.take_succ_cons, List.take_zero, List.drop_succ_cons, List.drop_zero, List.take_nil, List.drop_nil, List.reverse_cons, List.reverse_nil, List.nil_append, List.cons_append, List.append_nil, Option.toList_some, Option.toList_none, List.getElem?_cons_zero, List.getElem?_cons_succ, List.set_cons_zero, List.set_cons_succ, List.length_cons, List.length_nil, reduceIte, reduceCtorEq, and_true, true_and, and_self, or_true, true_or, false_and, and_false, not_true_eq_false, not_false_eq_true, true_implies, false_implies, implies_true, Nat.reduceAdd, Nat.reduceLT, Nat.reduceEqDiff, Nat.reduceLeDiff, Nat.reduceBEq, Nat.zero_add, Nat.lt_add_one, Bool.false_eq_true, Bool.or_false, Bool.or_true, Bool.or_self, Nat.zero_ne_one, Nat.one_ne_zero, ite_true, ite_false, ne_eq, Nat.reduceSub, Nat.succ_eq_add_one, Nat.zero_lt_succ, Nat.add_one_ne_zero, false_or, or_false, mX1_recall_c, mX1_recall_n, mX1_recall_r, mX1_recall_l, dX1_recall_0, dX1_recall_1, fl_1_9_1, fl_1_9_0, dX1_recall_4, ic_0, dX1_recall_5, dX1_recall_6, dX1_recall_9, dX1_recall_10, dX1_recall_11, dX1_recall_14, dX1_recall_15, dX1_recall_18, dX1_recall_19, fl_1_15_1, fl_1_15_0, dX1_recall_22, dX1_recall_23, dX1_recall_24, dX1_recall_27, dX1_recall_28, ic_4, dX1_recall_29, dX1_recall_32, dX1_recall_33, dX1_recall_34, fl_1_18_0, fl_1_18_1, dX1_recall_37, dX1_recall_40, dX1_recall_41, dX1_recall_42, fl_1_22_0, fl_1_22_1, dX1_recall_45, dX1_recall_48, dX1_recall_49, dX1_recall_50, fl_1_25_0, fl_1_25_1, dX1_recall_53, dX1_recall_56, jX1_recall_1_28, st_aload_n, st_arraylength, st_getfield, st_iconst, st_invokestatic, st_putfield, st_return]
     exact ⟨by omega, by omega, by omega, h⟩)
def sp_X1_recall_01 : Cx → YSp := sp_X1_recall
set_option maxRecDepth 20000 in
theorem ok_X1_recall_01 (Γ : Cx) : Ok Γ yX1_recall mX1_recall (sp_X1_recall_01 Γ) := ok_X1_recall Γ
def sp_X1_recall_0 (Γ : Cx) : YSp := fun av σ K => sp_X1_recall Γ av σ K ∧ ∃ (b : Nat) (As fs : List Value), av = .ref b :: As ∧ As.length = 1 ∧ b ∈ σ.1 ∧ σ.2 b = .inr (0, fs)
set_option maxRecDepth 20000 in
theorem ok_X1_recall_0 (Γ : Cx) : Ok Γ yX1_recall mX1_recall (sp_X1_recall_0 Γ) := fun av σ K h => ok_X1_recall Γ av σ K h.1
theorem rv_X1_recall_0 {Γ : Cx} : ∀ (av : List Value) (σ : Hp) (K : Option Value → Hp → Prop), sp_X1_recall_0 Γ av σ K → ∃ (b : Nat) (As : List Value) (fs : List Value) (ci : Nat × String × u_T × Nat), ci ∈ [(0, RX0, TX0, 9)] ∧ av = .ref b :: As ∧ As.length = 1 ∧ b ∈ σ.1 ∧ σ.2 b = .inr (ci.1, fs) := by
  intro av σ K h
  obtain ⟨-, b, As, fs, h1, h2, h3, h4⟩ := h
  exact ⟨b, As, fs, (0, RX0, TX0, 9), by simp, h1, h2, h3, h4⟩
def bec (s s' : CS) : CS := (cpN 20 s'.1 s.1, cpN 4 s'.2.1 s.2.1, cpN 5 s'.2.2.1 s.2.2.1, s'.2.2.2.1, s'.2.2.2.2.1, s'.2.2.2.2.2.1, s'.2.2.2.2.2.2.1, s'.2.2.2.2.2.2.2.1, s.2.2.2.2.2.2.2.2)
/-- two colleges with no cell in common -/
def apC (A B : CA) : Prop := A.1 ≠ B.1 ∧ A.2.1 ≠ B.2.1 ∧ A.2.2.1 ≠ B.2.2.1 ∧ A.2.2.2 ≠ B.2.2.2
def sp_X0_become (Γ : Cx) : YSp := fun av σ K => ∃ (A B : CA) (s s' : CS), av = [.ref A.1, .ref B.1] ∧ apC A B ∧ Col Γ A s σ ∧ Col Γ B s' σ ∧ K none (cset Γ A (bec s s') σ)
theorem rv_X0_become {Γ : Cx} : Recv (sp_X0_become Γ) 1 0 := by
  intro av σ K h
  obtain ⟨A, B, s, s', rfl, -, hc, -⟩ := h
  obtain ⟨fs, h1, h2⟩ := col_rv hc
  exact ⟨_, _, fs, rfl, rfl, h1, h2⟩
/-- what stands in the cells of B when those of A are changed -/
theorem Col.other {Γ : Cx} {A B : CA} {s t s' : CS} {σ : Hp} (hA : Col Γ A s σ) (hB : Col Γ B t σ) (h : apC A B) : Col Γ B t (cset Γ A s' σ) := by
  obtain ⟨q1, q2, q3, q4⟩ := h
  obtain ⟨mA, a1, a2, a3, a4⟩ := hA
  obtain ⟨mB, b1, b2, b3, b4⟩ := hB
  refine ⟨mB, ?_, ?_, ?_, ?_⟩
  · rw [cset_ne (fun z => q1 z.symm) (ne_of b1 a2 (fun e => iA_neO e.symm)) (ne_of b1 a3 (fun e => iA_neO e.symm)) (ne_of b1 a4 (fun e => iA_neO e.symm))]; exact b1
  · rw [cset_ne (ne_of b2 a1 iA_neO) (fun z => q2 z.symm) (ne_of b2 a3 (iA_ne (by decide))) (ne_of b2 a4 (iA_ne (by decide)))]; exact b2
  · rw [cset_ne (ne_of b3 a1 iA_neO) (ne_of b3 a2 (iA_ne (by decide))) (fun z => q3 z.symm) (ne_of b3 a4 (iA_ne (by decide)))]; exact b3
  · rw [cset_ne (ne_of b4 a1 iA_neO) (ne_of b4 a2 (iA_ne (by decide))) (ne_of b4 a3 (iA_ne (by decide))) (fun z => q4 z.symm)]; exact b4
theorem bw_457 : Cond.code yX1_recall cX1_recall 2 none ∈ BW := bw_i 457 (by decide +kernel) (by decide +kernel)
theorem bw_43 : Cond.initialized RX1 ∈ BW := bw_i 43 (by decide +kernel) (by decide +kernel)
theorem no_X1_recall : NameOK yX1_recall 1 := by unfold NameOK; decide +kernel
theorem bw_455 : Cond.selects RX0 ⟨"YawnKeys$College", "recall", "(LYawnKeys$Moment;)V"⟩ yX1_recall ∈ BW := bw_i 455 (by decide +kernel) (by decide +kernel)
theorem bw_452 : Cond.methodLink RX0 25 ⟨"YawnKeys$College", "recall", "(LYawnKeys$Moment;)V"⟩ ∈ BW := bw_i 452 (by decide +kernel) (by decide +kernel)
theorem bw_453 : Cond.sameMethod "YawnKeys$College" "YawnKeys$Moment" "recall" "(LYawnKeys$Moment;)V" ∈ BW := bw_i 453 (by decide +kernel) (by decide +kernel)
theorem bw_456 : Cond.instanceMethod yX1_recall ∈ BW := bw_i 456 (by decide +kernel) (by decide +kernel)
theorem bw_461 : Cond.methodLink RX0 29 arraycopyName ∈ BW := bw_i 461 (by decide +kernel) (by decide +kernel)
theorem ic_5 : Int32.ofInt 5 = 5 := by decide
def mX0_become : Mt := (⟨2, 0, 0, 81⟩, RX0, cX0_become, 2, none, (0, 0), none)
theorem mX0_become_c : mX0_become.2.2.1 = cX0_become := rfl
theorem mX0_become_n : mX0_become.2.2.2.1 = 2 := rfl
theorem mX0_become_r : mX0_become.2.2.2.2.1 = none := rfl
theorem mX0_become_l : mX0_become.2.2.2.2.2.2 = none := rfl
def jX0_become (Γ : Cx) : List ((Nat × Nat) × Nat × Bool × YSp) := [((0, 25), 2, false, sp_X1_recall_0 Γ), ((1, 29), 5, true, sp_cpyI Γ)]
theorem jX0_become_0_25 (Γ : Cx) : kT (jX0_become Γ) 0 25 = some (2, false, sp_X1_recall_0 Γ) := rfl
theorem jX0_become_1_29 (Γ : Cx) : kT (jX0_become Γ) 1 29 = some (5, true, sp_cpyI Γ) := rfl
theorem uX0_become (Γ : Cx) : TbOK Γ mX0_become (fT fX0, cT kX0, kT (jX0_become Γ)) := tb_ok fX0_ok kX0_ok (all_cons ⟨call_U (n := 1) [(0, RX0, TX0, 9)] (ok_X1_recall_0 Γ) (rv_X1_recall_0 (Γ := Γ)) (all_cons ⟨rfl, bw_455⟩ (all_nil)) bw_457 bw_452 bw_453 bw_456 bw_43 rfl no_X1_recall ⟨⟨rfl, rfl⟩, ⟨by decide, by decide⟩, ⟨by decide, by decide⟩⟩, fun z => by cases z⟩ (all_cons ⟨call_cpyI bw_461 bw_460 bw_459 bw_57 (by decide +kernel), fun _ => mono_cpyI⟩ (all_nil)))
set_option maxRecDepth 20000 in
theorem ok_X0_become (Γ : Cx) : Ok Γ yX0_become mX0_become (sp_X0_become Γ) := by
  refine ok_intro (by decide +kernel) rfl rfl ?_
  intro av σ K h
  obtain ⟨⟨a, aw, ak, ad⟩, ⟨b, bw, bk, bd⟩, ⟨w, kp, kd, day, gone, draw, P, rule, gd⟩, ⟨w', kp', kd', day', gone', draw', P', rule', gd'⟩, rfl, hap, hA, hB, h⟩ := h
  have hap0 := hap
  obtain ⟨q1, q2, q3, q4⟩ := hap
  simp only at q1 q2 q3 q4
  have hA1 := hA.set (cpN 20 w' w, cpN 4 kp' kp, kd, day', gone', draw', P, rule, gd)
  have hB1 := hA.other (s' := (cpN 20 w' w, cpN 4 kp' kp, kd, day', gone', draw', P, rule, gd)) hB hap0
  have hA2 := hA.set (cpN 20 w' w, cpN 4 kp' kp, cpN 5 kd' kd, day', gone', draw', P, rule, gd)
  have hB2 := hA.other (s' := (cpN 20 w' w, cpN 4 kp' kp, cpN 5 kd' kd, day', gone', draw', P, rule, gd)) hB hap0
  have hp2 := hA1.putD (cpN 5 kd' kd)
  have hp3 := hA2.put (cpN 20 w' w, cpN 4 kp' kp, cpN 5 kd' kd, day', gone', draw', P', rule', gd) rfl rfl rfl
  rw [cset_cset] at hp2 hp3
  have hsame : ((σ.1, va_up (va_up (va_up σ.2 aw (iA Γ 20 (cpN 20 w' w))) ak (iA Γ 4 (cpN 4 kp' kp))) a (MomE 0 aw ak day' gone' draw' [.ref ad, .int (nI P), .int rule, .int gd])) : Hp) = cset Γ (a, aw, ak, ad) (cpN 20 w' w, cpN 4 kp' kp, kd, day', gone', draw', P, rule, gd) σ := by
    refine Prod.ext rfl (funext fun q => ?_)
    obtain ⟨⟨n1, n2, n3⟩, ⟨n4, n5⟩, n6⟩ := hA.ne
    obtain ⟨-, e1, e2, e3, e4⟩ := hA
    simp only at n1 n2 n3 n4 n5 n6 e1 e2 e3 e4
    simp only [cset, va_up]
    by_cases c1 : q = a
    · subst c1
      rw [if_pos rfl, if_neg n3.symm, if_neg n2.symm, if_neg n1.symm, if_pos rfl]
      rfl
    · rw [if_neg c1]
      by_cases c4 : q = ad
      · subst c4
        rw [if_pos rfl, if_neg n6, if_neg n5]
        exact e4
      · rw [if_neg c4]
        by_cases c3 : q = ak
        · rw [if_pos c3, if_pos c3]
        · rw [if_neg c3, if_neg c3]
          by_cases c2 : q = aw
          · rw [if_pos c2, if_pos c2]
          · rw [if_neg c2, if_neg c2, if_neg c1]
  have h' : K none (cset Γ (a, aw, ak, ad) (cpN 20 w' w, cpN 4 kp' kp, cpN 5 kd' kd, day', gone', draw', P', rule', gd) σ) := h
  rw [← hp3] at h'
  obtain ⟨⟨m1, m2, m3, m4⟩, e1, e2, e3, e4⟩ := hA
  obtain ⟨⟨v1, v2, v3, v4⟩, f1, f2, f3, f4⟩ := hB
  refine ⟨Nat.le_of_ble_eq_true rfl, yvc_ok (uX0_become Γ) (S := []) 60 _ _ _ _ ?_⟩
  simp only [lv_args, Value.category, yvc_s, s1i, s2i, s1l, s2l, sil, s1r, sir, siir, slir, srir, svr, sd1, sd2, lg, lput, ldel, isL_i, isL_r, isL_l, jmp, obj, obj1, fI, fR, arI, arL, arR, hput, f4_0, f4_1, f4_2, f4_3, lc_0, lc_1, rok_i, rok_b, rok_y, strF, fput_1, fput_2, csum_nil, csum_i, csum_l, csum_r, va_up_self, bx_uu, Int.reduceAdd, List.elem_nil, List.elem_cons, List.take_succ_cons, List.take_zero, List.drop_succ_cons, List.drop_zero, List.take_nil, List.drop_nil, List.reverse_cons, List.reverse_nil, List.nil_append, List.cons_append, List.append_nil, Option.toList_some, Option.toList_none, List.getElem?_cons_zero, List.getElem?_cons_succ, List.set_cons_zero, List.set_cons_succ, List.length_cons, List.length_nil, reduceIte, reduceCtorEq, and_true, true_and, and_self, or_true, true_or, false_and, and_false, not_true_eq_false, not_false_eq_true, true_implies, false_implies, implies_true, Nat.reduceAdd, Nat.reduceLT, Nat.reduceEqDiff, Nat.reduceLeDiff, Nat.reduceBEq, Nat.zero_add, Nat.lt_add_one, Bool.false_eq_true, Bool.or_false, Bool.or_true, Bool.or_self, Nat.zero_ne_one, Nat.one_ne_zero, ite_true, ite_false, ne_eq, Nat.reduceSub, Nat.succ_eq_add_one, Nat.zero_lt_succ, Nat.add_one_ne_zero, false_or, or_false, mX0_become_c, mX0_become_n, mX0_become_r, mX0_become_l, dX0_become_0, dX0_become_1, dX0_become_2, dX0_become_5, dX0_become_6, fl_0_9_0, dX0_become_9, ic_0, dX0_become_10, dX0_become_11, dX0_become_14, dX0_become_15, ic_5, dX0_become_16, dX0_become_19, dX0_become_20, dX0_become_21, fl_0_15_0, dX0_become_24, dX0_become_27, dX0_become_28, dX0_become_29, fl_0_19_0, dX0_become_32, dX0_become_35, jX0_become_0_25, jX0_become_1_29, st_aload_n, st_getfield, st_iconst, st_invokestatic, st_invokevirtual, st_putfield, st_return]
  refine ⟨⟨a, b, 0, 0, aw, ak, bw, bk, w, kp, w', kp', day, gone, draw, day', gone', draw', [.ref ad, .int (nI P), .int rule, .int gd], [.ref bd, .int (nI P'), .int rule', .int gd'], rfl, Or.inl rfl, Or.inl rfl, ⟨m1, v1, m2, m3, v2, v3⟩, ⟨q1, q2, q3⟩, ⟨e1, f1, e2, e3, f2, f3⟩, ?_⟩, a, _, _, rfl, rfl, m1, e1⟩
  rw [hsame]
  have hp2' : hput (cset Γ (a, aw, ak, ad) (cpN 20 w' w, cpN 4 kp' kp, kd, day', gone', draw', P, rule, gd) σ) ad (iA Γ 5 (cpN 5 kd' kd)) = cset Γ (a, aw, ak, ad) (cpN 20 w' w, cpN 4 kp' kp, cpN 5 kd' kd, day', gone', draw', P, rule, gd) σ := hp2
  rw [← hp2'] at h' hA2 hB2
  clear hp2 hp3 hsame hp2'
  generalize cset Γ (a, aw, ak, ad) (cpN 20 w' w, cpN 4 kp' kp, kd, day', gone', draw', P, rule, gd) σ = σ1 at *
  obtain ⟨⟨i1, i2, i3, i4⟩, j1, j2, j3, j4⟩ := hA1
  obtain ⟨⟨k1, k2, k3, k4⟩, l1, l2, l3, l4⟩ := hB1
  obtain ⟨-, r1, -⟩ := hA2
  obtain ⟨-, t1, -⟩ := hB2
  simp only [ColE, iA, hput, cpN] at i1 i2 i3 i4 j1 j2 j3 j4 k1 k2 k3 k4 l1 l2 l3 l4 r1 t1 h'
  refine yvc_ok (uX0_become Γ) (S := []) 60 _ _ _ _ ?_
  have y1 : b ≠ a := fun z => q1 z.symm
  simp only [i1, i2, i3, i4, j1, j4, k1, k2, k3, k4, l1, l4, r1, t1, n5, n0, nl0, nl5, sp_cpyI, Nat.le_refl, Nat.zero_add, ne_eq, y1, va_up_ne, not_false_eq_true, yvc_s, s1i, s2i, s1l, s2l, sil, s1r, sir, siir, slir, srir, svr, sd1, sd2, lg, lput, ldel, isL_i, isL_r, isL_l, jmp, obj, obj1, fI, fR, arI, arL, arR, hput, f4_0, f4_1, f4_2, f4_3, lc_0, lc_1, rok_i, rok_b, rok_y, strF, fput_1, fput_2, csum_nil, csum_i, csum_l, csum_r, va_up_self, bx_uu, Int.reduceAdd, List.elem_nil, List.elem_cons, List.take_succ_cons, List.take_zero, List.drop_succ_cons, List.drop_zero, List.take_nil, List.drop_nil, List.reverse_cons, List.reverse_nil, List.nil_append, List.cons_append, List.append_nil, Option.toList_some, Option.toList_none, List.getElem?_cons_zero, List.getElem?_cons_succ, List.set_cons_zero, List.set_cons_succ, List.length_cons, List.length_nil, reduceIte, reduceCtorEq, and_true, true_and, and_self, or_true, true_or, false_and, and_false, not_true_eq_false, not_false_eq_true, true_implies, false_implies, implies_true, Nat.reduceAdd, Nat.reduceLT, Nat.reduceEqDiff, Nat.reduceLeDiff, Nat.reduceBEq, Nat.zero_add, Nat.lt_add_one, Bool.false_eq_true, Bool.or_false, Bool.or_true, Bool.or_self, Nat.zero_ne_one, Nat.one_ne_zero, ite_true, ite_false, ne_eq, Nat.reduceSub, Nat.succ_eq_add_one, Nat.zero_lt_succ, Nat.add_one_ne_zero, false_or, or_false, mX0_become_c, mX0_become_n, mX0_become_r, mX0_become_l, dX0_become_0, dX0_become_1, dX0_become_2, dX0_become_5, dX0_become_6, fl_0_9_0, dX0_become_9, ic_0, dX0_become_10, dX0_become_11, dX0_become_14, dX0_become_15, ic_5, dX0_become_16, dX0_become_19, dX0_become_20, dX0_become_21, fl_0_15_0, dX0_become_24, dX0_become_27, dX0_become_28, dX0_become_29, fl_0_19_0, dX0_become_32, dX0_become_35, jX0_become_0_25, jX0_become_1_29, st_aload_n, st_getfield, st_iconst, st_invokestatic, st_invokevirtual, st_putfield, st_return]
  exact h'
