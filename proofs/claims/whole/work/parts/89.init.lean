/-! ===== constructors: College, Plan, Sheet, Tape ===== -/
def c0S (f : Nat → Int32) : CS := (fun _ => 0, f, fun _ => 0, 0, 0, 1, 0, 8, 0)
def sp_X0_init (Γ : Cx) : YSp := fun av σ K => ∃ (b i : Nat) (lab : Nat → Nat), av = [.ref b] ∧ b ∈ σ.1 ∧ σ.2 b = .inr (0, [.null, .null, .int 0, .int 0, .int 0, .null, .int 0, .int 0, .int 0]) ∧ lab b = i ∧ ∀ (σ' : Hp) (lab' : Nat → Nat) (A : CA) (f : Nat → Int32), A.1 = b → Ext lab lab' b σ σ' → Col Γ A (c0S f) σ' → (∀ k, k < 4 → f k = -4) → (∀ q, CF A q → lab' q = i) → K none σ'
theorem bw_73 : Cond.code yX1_init cX1_init 1 none ∈ BW := bw_i 73 (by decide +kernel) (by decide +kernel)
theorem bw_72 : Cond.instanceMethod yX1_init ∈ BW := bw_i 72 (by decide +kernel) (by decide +kernel)
theorem nw_71 : Cond.methodLinkNest RX0 3 yX1_init "YawnKeys" ∈ nestW := List.mem_filter.mpr ⟨List.mem_of_getElem? (i := 71) (by decide +kernel), rfl⟩
theorem no_X1_init : NameOK yX1_init 0 := by unfold NameOK; decide +kernel
theorem fin_0_0_5 : finT RX0 0 5 := ⟨_, _, _, tyX0 5, rfl, rfl, rfl, by decide +kernel, fun v => ⟨rfl, rfl⟩⟩
def mX0_init : Mt := (⟨2, 3, 29, 40⟩, RX0, cX0_init, 1, none, (0, 0), none)
theorem mX0_init_c : mX0_init.2.2.1 = cX0_init := rfl
theorem mX0_init_n : mX0_init.2.2.2.1 = 1 := rfl
theorem mX0_init_r : mX0_init.2.2.2.2.1 = none := rfl
theorem mX0_init_l : mX0_init.2.2.2.2.2.2 = none := rfl
theorem mX0_init_o : mX0_init.2.1 = RX0 := rfl
theorem mX0_init_k : mX0_init.1.cells = 3 := rfl
theorem mX0_init_s : mX0_init.1.slots = 29 := rfl
theorem uX0_init (Γ : Cx) : TbOK Γ mX0_init (fT fX0, cT kX0, kT []) := tb_ok fX0_ok kX0_ok all_nil
theorem ni_X0_init_3 {Γ : Cx} {K : Option Value → Hp → Prop} {kn : Nat × Nat} {pc : Nat} {lv : Lv} {st : List Value} {σ : Hp} {b : Nat} (hd : decode mX0_init.2.2.1 pc = .ok (.invokespecial 3, 3)) (hcs : csum st ≤ 8) (k1 : kn.1 + 2 ≤ 3) (k2 : kn.2 + 24 ≤ 29) (h : sp_X1_init Γ [.ref b] σ (fun v σ' => v = none ∧ YN Γ mX0_init K (kn.1 + 2, kn.2 + 24) (pc + 3) lv st σ')) : YN Γ mX0_init K kn pc lv (.ref b :: st) σ := n_init (μ := mX0_init) (μ' := mX1_init) (oki_X1_init Γ) rfl bw_73 (Or.inr ⟨_, nw_71⟩) bw_72 bw_43 rfl no_X1_init ⟨by decide, by decide⟩ hd hcs k1 k2 h
set_option maxRecDepth 20000 in
theorem oki_X0_init (Γ : Cx) : OkI Γ yX0_init mX0_init (sp_X0_init Γ) := by
  refine oki_intro (by decide +kernel) rfl rfl ?_
  intro av σ K h
  obtain ⟨b, i, lab, rfl, m1, e1, hlb, h⟩ := h
  refine ⟨Nat.le_of_ble_eq_true rfl, nvc_ok (uX0_init Γ) (S := [1]) 4 _ _ _ _ ?_⟩
  simp only [lv_args, Value.category, nvc_s, s1i, s2i, s1l, s2l, sil, s1r, sir, siir, slir, srir, svr, sd1, sd2, lg, lput, ldel, isL_i, isL_r, isL_l, jmp, obj, obj1, fI, fR, arI, arL, arR, hput, f4_0, f4_1, f4_2, f4_3, lc_0, lc_1, rok_i, rok_b, rok_y, strF, fput_1, fput_2, csum_nil, csum_i, csum_l, csum_r, va_up_self, bx_uu, Int.reduceAdd, List.elem_nil, List.elem_cons, List.take_succ_cons, List.take_zero, List.drop_succ_cons, List.drop_zero, List.take_nil, List.drop_nil, List.reverse_cons, List.reverse_nil, List.nil_append, List.cons_append, List.append_nil, Option.toList_some, Option.toList_none, List.getElem?_cons_zero, List.getElem?_cons_succ, List.set_cons_zero, List.set_cons_succ, List.length_cons, List.length_nil, reduceIte, reduceCtorEq, and_true, true_and, and_self, or_true, true_or, false_and, and_false, not_true_eq_false, not_false_eq_true, true_implies, false_implies, implies_true, Nat.reduceAdd, Nat.reduceLT, Nat.reduceEqDiff, Nat.reduceLeDiff, Nat.reduceBEq, Nat.zero_add, Nat.lt_add_one, Bool.false_eq_true, Bool.or_false, Bool.or_true, Bool.or_self, Nat.zero_ne_one, Nat.one_ne_zero, ite_true, ite_false, ne_eq, Nat.reduceSub, Nat.succ_eq_add_one, Nat.zero_lt_succ, Nat.add_one_ne_zero, false_or, or_false, or_self, mX0_init_c, mX0_init_n, mX0_init_r, mX0_init_l, mX0_init_o, mX0_init_k, mX0_init_s, dX0_init_0, dX0_init_1, dX0_init_4, dX0_init_5, ic_5, dX0_init_6, dX0_init_8, fl_0_9_0, dX0_init_11, dX0_init_12, ic_0, dX0_init_13, fl_0_15_0, dX0_init_16, dX0_init_17, bc_8, dX0_init_19, fl_0_19_0, dX0_init_22, dX0_init_23, dX0_init_24, fl_0_22_0, dX0_init_27, fin_0_0_5, sn_aload_n, sn_bipush, sn_iconst, sn_putfield, sn_return]
  refine ni_X0_init_3 dX0_init_1 (by decide) (by decide) (by decide) ⟨b, i, lab, 0, _, rfl, m1, e1, Or.inr ⟨rfl, _, _, _, _, rfl⟩, hlb, ?_⟩
  rintro σ1 lab1 aw ak E1 ⟨⟨mw, mk, nw, nk⟩, ⟨lw, lk⟩, eb, ew, f, ek, hf⟩
  refine ⟨rfl, ?_⟩
  have mb := (E1 b m1).1
  have lb := (E1 b m1).2.1.trans hlb
  refine nvc_ok (uX0_init Γ) (S := [6]) 4 _ _ _ _ ?_
  simp only [nvc_s, s1i, s2i, s1l, s2l, sil, s1r, sir, siir, slir, srir, svr, sd1, sd2, lg, lput, ldel, isL_i, isL_r, isL_l, jmp, obj, obj1, fI, fR, arI, arL, arR, hput, f4_0, f4_1, f4_2, f4_3, lc_0, lc_1, rok_i, rok_b, rok_y, strF, fput_1, fput_2, csum_nil, csum_i, csum_l, csum_r, va_up_self, bx_uu, Int.reduceAdd, List.elem_nil, List.elem_cons, List.take_succ_cons, List.take_zero, List.drop_succ_cons, List.drop_zero, List.take_nil, List.drop_nil, List.reverse_cons, List.reverse_nil, List.nil_append, List.cons_append, List.append_nil, Option.toList_some, Option.toList_none, List.getElem?_cons_zero, List.getElem?_cons_succ, List.set_cons_zero, List.set_cons_succ, List.length_cons, List.length_nil, reduceIte, reduceCtorEq, and_true, true_and, and_self, or_true, true_or, false_and, and_false, not_true_eq_false, not_false_eq_true, true_implies, false_implies, implies_true, Nat.reduceAdd, Nat.reduceLT, Nat.reduceEqDiff, Nat.reduceLeDiff, Nat.reduceBEq, Nat.zero_add, Nat.lt_add_one, Bool.false_eq_true, Bool.or_false, Bool.or_true, Bool.or_self, Nat.zero_ne_one, Nat.one_ne_zero, ite_true, ite_false, ne_eq, Nat.reduceSub, Nat.succ_eq_add_one, Nat.zero_lt_succ, Nat.add_one_ne_zero, false_or, or_false, or_self, mX0_init_c, mX0_init_n, mX0_init_r, mX0_init_l, mX0_init_o, mX0_init_k, mX0_init_s, dX0_init_0, dX0_init_1, dX0_init_4, dX0_init_5, ic_5, dX0_init_6, dX0_init_8, fl_0_9_0, dX0_init_11, dX0_init_12, ic_0, dX0_init_13, fl_0_15_0, dX0_init_16, dX0_init_17, bc_8, dX0_init_19, fl_0_19_0, dX0_init_22, dX0_init_23, dX0_init_24, fl_0_22_0, dX0_init_27, fin_0_0_5, sn_aload_n, sn_bipush, sn_iconst, sn_putfield, sn_return]
  refine n_newI 5 dX0_init_6 (by decide) (by decide) (by decide) (by decide) (by decide) (fun ad had => ?_)
  have hbd := ne_fresh had mb
  have hwd := ne_fresh had mw
  have hkd := ne_fresh had mk
  have hbw : b ≠ aw := fun e => nw (e ▸ m1)
  have hbk : b ≠ ak := fun e => nk (e ▸ m1)
  have E2 : Ext lab (labU lab1 ad i) b σ (hnew σ1 ad (iA Γ 5 (fun _ => 0))) := E1.tr (Ext.new had)
  have mb2 : b ∈ (hnew σ1 ad (iA Γ 5 (fun _ => 0))).1 := hnew_in mb
  have mw2 : aw ∈ (hnew σ1 ad (iA Γ 5 (fun _ => 0))).1 := hnew_in mw
  have mk2 : ak ∈ (hnew σ1 ad (iA Γ 5 (fun _ => 0))).1 := hnew_in mk
  have md2 : ad ∈ (hnew σ1 ad (iA Γ 5 (fun _ => 0))).1 := hnew_q
  have eb2 := (hnew_ne (e := iA Γ 5 (fun _ => 0)) hbd).trans eb
  have ew2 := (hnew_ne (e := iA Γ 5 (fun _ => 0)) hwd).trans ew
  have ek2 := (hnew_ne (e := iA Γ 5 (fun _ => 0)) hkd).trans ek
  have ed2 : (hnew σ1 ad (iA Γ 5 (fun _ => 0))).2 ad = iA Γ 5 (fun _ => 0) := hnew_at
  generalize hnew σ1 ad (iA Γ 5 (fun _ => 0)) = σ2 at E2 mb2 mw2 mk2 md2 eb2 ew2 ek2 ed2 ⊢
  have hk := h (hput σ2 b (ColE (b, aw, ak, ad) (c0S f))) (labU lab1 ad i) (b, aw, ak, ad) f rfl (E2.tr Ext.put) ⟨⟨mb2, mw2, mk2, md2⟩, va_up_self _ _ _, (va_up_ne _ _ hbw.symm).trans ew2, (va_up_ne _ _ hbk.symm).trans ek2, (va_up_ne _ _ hbd.symm).trans ed2⟩ hf (by
    rintro q (rfl | rfl | rfl | rfl)
    · exact (labU_ne hbd).trans lb
    · exact (labU_ne hwd).trans lw
    · exact (labU_ne hkd).trans lk
    · exact labU_at)
  simp only [ColE, c0S, hput, nI_0] at hk
  simp only [MomE] at eb2
  refine nvc_ok (uX0_init Γ) (S := []) 30 _ _ _ _ ?_
  simp only [mb2, eb2, nvc_s, s1i, s2i, s1l, s2l, sil, s1r, sir, siir, slir, srir, svr, sd1, sd2, lg, lput, ldel, isL_i, isL_r, isL_l, jmp, obj, obj1, fI, fR, arI, arL, arR, hput, f4_0, f4_1, f4_2, f4_3, lc_0, lc_1, rok_i, rok_b, rok_y, strF, fput_1, fput_2, csum_nil, csum_i, csum_l, csum_r, va_up_self, bx_uu, Int.reduceAdd, List.elem_nil, List.elem_cons, List.take_succ_cons, List.take_zero, List.drop_succ_cons, List.drop_zero, List.take_nil, List.drop_nil, List.reverse_cons, List.reverse_nil, List.nil_append, List.cons_append, List.append_nil, Option.toList_some, Option.toList_none, List.getElem?_cons_zero, List.getElem?_cons_succ, List.set_cons_zero, List.set_cons_succ, List.length_cons, List.length_nil, reduceIte, reduceCtorEq, and_true, true_and, and_self, or_true, true_or, false_and, and_false, not_true_eq_false, not_false_eq_true, true_implies, false_implies, implies_true, Nat.reduceAdd, Nat.reduceLT, Nat.reduceEqDiff, Nat.reduceLeDiff, Nat.reduceBEq, Nat.zero_add, Nat.lt_add_one, Bool.false_eq_true, Bool.or_false, Bool.or_true, Bool.or_self, Nat.zero_ne_one, Nat.one_ne_zero, ite_true, ite_false, ne_eq, Nat.reduceSub, Nat.succ_eq_add_one, Nat.zero_lt_succ, Nat.add_one_ne_zero, false_or, or_false, or_self, mX0_init_c, mX0_init_n, mX0_init_r, mX0_init_l, mX0_init_o, mX0_init_k, mX0_init_s, dX0_init_0, dX0_init_1, dX0_init_4, dX0_init_5, ic_5, dX0_init_6, dX0_init_8, fl_0_9_0, dX0_init_11, dX0_init_12, ic_0, dX0_init_13, fl_0_15_0, dX0_init_16, dX0_init_17, bc_8, dX0_init_19, fl_0_19_0, dX0_init_22, dX0_init_23, dX0_init_24, fl_0_22_0, dX0_init_27, fin_0_0_5, sn_aload_n, sn_bipush, sn_iconst, sn_putfield, sn_return]
  exact hk
/-- an object whose first field is an array, just made -/
def sp_X3_init (Γ : Cx) : YSp := fun av σ K => ∃ (b i : Nat) (lab : Nat → Nat), av = [.ref b] ∧ b ∈ σ.1 ∧ σ.2 b = .inr (3, [.null, .int 0, .int 0]) ∧ lab b = i ∧ ∀ (σ' : Hp) (lab' : Nat → Nat) (aw : Nat), Ext lab lab' b σ σ' → Pl Γ (b, aw) (fun _ => 0, 0, 0) σ' → (∀ q, SF (b, aw) q → lab' q = i) → K none σ'
theorem bw_173 : Cond.methodLink RX3 3 objectInit ∈ BW := bw_i 173 (by decide +kernel) (by decide +kernel)
theorem ol_X3_init : Cond.methodLink RX3 3 objectInit ∈ BW := bw_173
theorem fin_3_3_0 : finT RX3 3 0 := ⟨_, _, _, tyX3 0, rfl, rfl, rfl, by decide +kernel, fun v => ⟨rfl, rfl⟩⟩
def mX3_init : Mt := (⟨1, 1, 4, 20⟩, RX3, cX3_init, 1, none, (0, 0), none)
theorem mX3_init_c : mX3_init.2.2.1 = cX3_init := rfl
theorem mX3_init_n : mX3_init.2.2.2.1 = 1 := rfl
theorem mX3_init_r : mX3_init.2.2.2.2.1 = none := rfl
theorem mX3_init_l : mX3_init.2.2.2.2.2.2 = none := rfl
theorem mX3_init_o : mX3_init.2.1 = RX3 := rfl
theorem mX3_init_k : mX3_init.1.cells = 1 := rfl
theorem mX3_init_s : mX3_init.1.slots = 4 := rfl
theorem uX3_init (Γ : Cx) : TbOK Γ mX3_init (fT fX3, cT kX3, kT []) := tb_ok fX3_ok kX3_ok all_nil
set_option maxRecDepth 20000 in
theorem oki_X3_init (Γ : Cx) : OkI Γ yX3_init mX3_init (sp_X3_init Γ) := by
  refine oki_intro (by decide +kernel) rfl rfl ?_
  intro av σ K h
  obtain ⟨b, i, lab, rfl, m1, e1, hlb, h⟩ := h
  refine ⟨Nat.le_of_ble_eq_true rfl, nvc_ok (uX3_init Γ) (S := [1]) 4 _ _ _ _ ?_⟩
  simp only [lv_args, Value.category, nvc_s, s1i, s2i, s1l, s2l, sil, s1r, sir, siir, slir, srir, svr, sd1, sd2, lg, lput, ldel, isL_i, isL_r, isL_l, jmp, obj, obj1, fI, fR, arI, arL, arR, hput, f4_0, f4_1, f4_2, f4_3, lc_0, lc_1, rok_i, rok_b, rok_y, strF, fput_1, fput_2, csum_nil, csum_i, csum_l, csum_r, va_up_self, bx_uu, Int.reduceAdd, List.elem_nil, List.elem_cons, List.take_succ_cons, List.take_zero, List.drop_succ_cons, List.drop_zero, List.take_nil, List.drop_nil, List.reverse_cons, List.reverse_nil, List.nil_append, List.cons_append, List.append_nil, Option.toList_some, Option.toList_none, List.getElem?_cons_zero, List.getElem?_cons_succ, List.set_cons_zero, List.set_cons_succ, List.length_cons, List.length_nil, reduceIte, reduceCtorEq, and_true, true_and, and_self, or_true, true_or, false_and, and_false, not_true_eq_false, not_false_eq_true, true_implies, false_implies, implies_true, Nat.reduceAdd, Nat.reduceLT, Nat.reduceEqDiff, Nat.reduceLeDiff, Nat.reduceBEq, Nat.zero_add, Nat.lt_add_one, Bool.false_eq_true, Bool.or_false, Bool.or_true, Bool.or_self, Nat.zero_ne_one, Nat.one_ne_zero, ite_true, ite_false, ne_eq, Nat.reduceSub, Nat.succ_eq_add_one, Nat.zero_lt_succ, Nat.add_one_ne_zero, false_or, or_false, or_self, mX3_init_c, mX3_init_n, mX3_init_r, mX3_init_l, mX3_init_o, mX3_init_k, mX3_init_s, dX3_init_0, dX3_init_1, dX3_init_4, dX3_init_5, ic_4, dX3_init_6, dX3_init_8, fl_3_9_3, dX3_init_11, dX3_init_12, ic_0, dX3_init_13, fl_3_15_3, dX3_init_16, dX3_init_17, dX3_init_18, fl_3_19_3, dX3_init_21, fin_3_3_0, sn_aload_n, sn_iconst, sn_putfield, sn_return]
  refine n_obj ol_X3_init dX3_init_1 (by decide) (by decide) (by decide) ?_
  refine nvc_ok (uX3_init Γ) (S := [6]) 4 _ _ _ _ ?_
  simp only [nvc_s, s1i, s2i, s1l, s2l, sil, s1r, sir, siir, slir, srir, svr, sd1, sd2, lg, lput, ldel, isL_i, isL_r, isL_l, jmp, obj, obj1, fI, fR, arI, arL, arR, hput, f4_0, f4_1, f4_2, f4_3, lc_0, lc_1, rok_i, rok_b, rok_y, strF, fput_1, fput_2, csum_nil, csum_i, csum_l, csum_r, va_up_self, bx_uu, Int.reduceAdd, List.elem_nil, List.elem_cons, List.take_succ_cons, List.take_zero, List.drop_succ_cons, List.drop_zero, List.take_nil, List.drop_nil, List.reverse_cons, List.reverse_nil, List.nil_append, List.cons_append, List.append_nil, Option.toList_some, Option.toList_none, List.getElem?_cons_zero, List.getElem?_cons_succ, List.set_cons_zero, List.set_cons_succ, List.length_cons, List.length_nil, reduceIte, reduceCtorEq, and_true, true_and, and_self, or_true, true_or, false_and, and_false, not_true_eq_false, not_false_eq_true, true_implies, false_implies, implies_true, Nat.reduceAdd, Nat.reduceLT, Nat.reduceEqDiff, Nat.reduceLeDiff, Nat.reduceBEq, Nat.zero_add, Nat.lt_add_one, Bool.false_eq_true, Bool.or_false, Bool.or_true, Bool.or_self, Nat.zero_ne_one, Nat.one_ne_zero, ite_true, ite_false, ne_eq, Nat.reduceSub, Nat.succ_eq_add_one, Nat.zero_lt_succ, Nat.add_one_ne_zero, false_or, or_false, or_self, mX3_init_c, mX3_init_n, mX3_init_r, mX3_init_l, mX3_init_o, mX3_init_k, mX3_init_s, dX3_init_0, dX3_init_1, dX3_init_4, dX3_init_5, ic_4, dX3_init_6, dX3_init_8, fl_3_9_3, dX3_init_11, dX3_init_12, ic_0, dX3_init_13, fl_3_15_3, dX3_init_16, dX3_init_17, dX3_init_18, fl_3_19_3, dX3_init_21, fin_3_3_0, sn_aload_n, sn_iconst, sn_putfield, sn_return]
  refine n_newI 4 dX3_init_6 (by decide) (by decide) (by decide) (by decide) (by decide) (fun aw haw => ?_)
  have hbw := ne_fresh haw m1
  have E1 : Ext lab (labU lab aw i) b σ (hnew σ aw (iA Γ 4 (fun _ => 0))) := Ext.new haw
  have m1' : b ∈ (hnew σ aw (iA Γ 4 (fun _ => 0))).1 := hnew_in m1
  have e1' := (hnew_ne (e := iA Γ 4 (fun _ => 0)) hbw).trans e1
  have mw : aw ∈ (hnew σ aw (iA Γ 4 (fun _ => 0))).1 := hnew_q
  have ew : (hnew σ aw (iA Γ 4 (fun _ => 0))).2 aw = iA Γ 4 (fun _ => 0) := hnew_at
  generalize hnew σ aw (iA Γ 4 (fun _ => 0)) = σ1 at E1 m1' e1' mw ew ⊢
  have hk := h (hput σ1 b (PlE aw 0 0)) (labU lab aw i) aw (E1.tr Ext.put) ⟨⟨m1', mw⟩, va_up_self _ _ _, (va_up_ne _ _ hbw.symm).trans ew⟩ (by
    rintro q (rfl | rfl)
    · exact (labU_ne hbw).trans hlb
    · exact labU_at)
  simp only [PlE, hput] at hk
  refine nvc_ok (uX3_init Γ) (S := []) 30 _ _ _ _ ?_
  simp only [m1', e1', nvc_s, s1i, s2i, s1l, s2l, sil, s1r, sir, siir, slir, srir, svr, sd1, sd2, lg, lput, ldel, isL_i, isL_r, isL_l, jmp, obj, obj1, fI, fR, arI, arL, arR, hput, f4_0, f4_1, f4_2, f4_3, lc_0, lc_1, rok_i, rok_b, rok_y, strF, fput_1, fput_2, csum_nil, csum_i, csum_l, csum_r, va_up_self, bx_uu, Int.reduceAdd, List.elem_nil, List.elem_cons, List.take_succ_cons, List.take_zero, List.drop_succ_cons, List.drop_zero, List.take_nil, List.drop_nil, List.reverse_cons, List.reverse_nil, List.nil_append, List.cons_append, List.append_nil, Option.toList_some, Option.toList_none, List.getElem?_cons_zero, List.getElem?_cons_succ, List.set_cons_zero, List.set_cons_succ, List.length_cons, List.length_nil, reduceIte, reduceCtorEq, and_true, true_and, and_self, or_true, true_or, false_and, and_false, not_true_eq_false, not_false_eq_true, true_implies, false_implies, implies_true, Nat.reduceAdd, Nat.reduceLT, Nat.reduceEqDiff, Nat.reduceLeDiff, Nat.reduceBEq, Nat.zero_add, Nat.lt_add_one, Bool.false_eq_true, Bool.or_false, Bool.or_true, Bool.or_self, Nat.zero_ne_one, Nat.one_ne_zero, ite_true, ite_false, ne_eq, Nat.reduceSub, Nat.succ_eq_add_one, Nat.zero_lt_succ, Nat.add_one_ne_zero, false_or, or_false, or_self, mX3_init_c, mX3_init_n, mX3_init_r, mX3_init_l, mX3_init_o, mX3_init_k, mX3_init_s, dX3_init_0, dX3_init_1, dX3_init_4, dX3_init_5, ic_4, dX3_init_6, dX3_init_8, fl_3_9_3, dX3_init_11, dX3_init_12, ic_0, dX3_init_13, fl_3_15_3, dX3_init_16, dX3_init_17, dX3_init_18, fl_3_19_3, dX3_init_21, fin_3_3_0, sn_aload_n, sn_iconst, sn_putfield, sn_return]
  exact hk
def sp_X5_init (Γ : Cx) : YSp := fun av σ K => ∃ (b i : Nat) (lab : Nat → Nat), av = [.ref b] ∧ b ∈ σ.1 ∧ σ.2 b = .inr (5, [.null, .int 0, .int 0]) ∧ lab b = i ∧ ∀ (σ' : Hp) (lab' : Nat → Nat) (aw : Nat), Ext lab lab' b σ σ' → Tp Γ (b, aw) (fun _ => 0) 0 0 σ' → (∀ q, SF (b, aw) q → lab' q = i) → K none σ'
theorem bw_156 : Cond.methodLink RX5 3 objectInit ∈ BW := bw_i 156 (by decide +kernel) (by decide +kernel)
theorem ol_X5_init : Cond.methodLink RX5 3 objectInit ∈ BW := bw_156
theorem fin_5_5_0 : finT RX5 5 0 := ⟨_, _, _, tyX5 0, rfl, rfl, rfl, by decide +kernel, fun v => ⟨rfl, rfl⟩⟩
def mX5_init : Mt := (⟨1, 1, 50, 20⟩, RX5, cX5_init, 1, none, (0, 0), none)
theorem mX5_init_c : mX5_init.2.2.1 = cX5_init := rfl
theorem mX5_init_n : mX5_init.2.2.2.1 = 1 := rfl
theorem mX5_init_r : mX5_init.2.2.2.2.1 = none := rfl
theorem mX5_init_l : mX5_init.2.2.2.2.2.2 = none := rfl
theorem mX5_init_o : mX5_init.2.1 = RX5 := rfl
theorem mX5_init_k : mX5_init.1.cells = 1 := rfl
theorem mX5_init_s : mX5_init.1.slots = 50 := rfl
theorem uX5_init (Γ : Cx) : TbOK Γ mX5_init (fT fX5, cT kX5, kT []) := tb_ok fX5_ok kX5_ok all_nil
set_option maxRecDepth 20000 in
theorem oki_X5_init (Γ : Cx) : OkI Γ yX5_init mX5_init (sp_X5_init Γ) := by
  refine oki_intro (by decide +kernel) rfl rfl ?_
  intro av σ K h
  obtain ⟨b, i, lab, rfl, m1, e1, hlb, h⟩ := h
  refine ⟨Nat.le_of_ble_eq_true rfl, nvc_ok (uX5_init Γ) (S := [1]) 4 _ _ _ _ ?_⟩
  simp only [lv_args, Value.category, nvc_s, s1i, s2i, s1l, s2l, sil, s1r, sir, siir, slir, srir, svr, sd1, sd2, lg, lput, ldel, isL_i, isL_r, isL_l, jmp, obj, obj1, fI, fR, arI, arL, arR, hput, f4_0, f4_1, f4_2, f4_3, lc_0, lc_1, rok_i, rok_b, rok_y, strF, fput_1, fput_2, csum_nil, csum_i, csum_l, csum_r, va_up_self, bx_uu, Int.reduceAdd, List.elem_nil, List.elem_cons, List.take_succ_cons, List.take_zero, List.drop_succ_cons, List.drop_zero, List.take_nil, List.drop_nil, List.reverse_cons, List.reverse_nil, List.nil_append, List.cons_append, List.append_nil, Option.toList_some, Option.toList_none, List.getElem?_cons_zero, List.getElem?_cons_succ, List.set_cons_zero, List.set_cons_succ, List.length_cons, List.length_nil, reduceIte, reduceCtorEq, and_true, true_and, and_self, or_true, true_or, false_and, and_false, not_true_eq_false, not_false_eq_true, true_implies, false_implies, implies_true, Nat.reduceAdd, Nat.reduceLT, Nat.reduceEqDiff, Nat.reduceLeDiff, Nat.reduceBEq, Nat.zero_add, Nat.lt_add_one, Bool.false_eq_true, Bool.or_false, Bool.or_true, Bool.or_self, Nat.zero_ne_one, Nat.one_ne_zero, ite_true, ite_false, ne_eq, Nat.reduceSub, Nat.succ_eq_add_one, Nat.zero_lt_succ, Nat.add_one_ne_zero, false_or, or_false, or_self, mX5_init_c, mX5_init_n, mX5_init_r, mX5_init_l, mX5_init_o, mX5_init_k, mX5_init_s, dX5_init_0, dX5_init_1, dX5_init_4, dX5_init_5, bc_50, dX5_init_7, dX5_init_9, fl_5_9_5, dX5_init_12, dX5_init_13, ic_0, dX5_init_14, fl_5_15_5, dX5_init_17, dX5_init_18, dX5_init_19, fl_5_19_5, dX5_init_22, fin_5_5_0, sn_aload_n, sn_bipush, sn_iconst, sn_putfield, sn_return]
  refine n_obj ol_X5_init dX5_init_1 (by decide) (by decide) (by decide) ?_
  refine nvc_ok (uX5_init Γ) (S := [7]) 4 _ _ _ _ ?_
  simp only [nvc_s, s1i, s2i, s1l, s2l, sil, s1r, sir, siir, slir, srir, svr, sd1, sd2, lg, lput, ldel, isL_i, isL_r, isL_l, jmp, obj, obj1, fI, fR, arI, arL, arR, hput, f4_0, f4_1, f4_2, f4_3, lc_0, lc_1, rok_i, rok_b, rok_y, strF, fput_1, fput_2, csum_nil, csum_i, csum_l, csum_r, va_up_self, bx_uu, Int.reduceAdd, List.elem_nil, List.elem_cons, List.take_succ_cons, List.take_zero, List.drop_succ_cons, List.drop_zero, List.take_nil, List.drop_nil, List.reverse_cons, List.reverse_nil, List.nil_append, List.cons_append, List.append_nil, Option.toList_some, Option.toList_none, List.getElem?_cons_zero, List.getElem?_cons_succ, List.set_cons_zero, List.set_cons_succ, List.length_cons, List.length_nil, reduceIte, reduceCtorEq, and_true, true_and, and_self, or_true, true_or, false_and, and_false, not_true_eq_false, not_false_eq_true, true_implies, false_implies, implies_true, Nat.reduceAdd, Nat.reduceLT, Nat.reduceEqDiff, Nat.reduceLeDiff, Nat.reduceBEq, Nat.zero_add, Nat.lt_add_one, Bool.false_eq_true, Bool.or_false, Bool.or_true, Bool.or_self, Nat.zero_ne_one, Nat.one_ne_zero, ite_true, ite_false, ne_eq, Nat.reduceSub, Nat.succ_eq_add_one, Nat.zero_lt_succ, Nat.add_one_ne_zero, false_or, or_false, or_self, mX5_init_c, mX5_init_n, mX5_init_r, mX5_init_l, mX5_init_o, mX5_init_k, mX5_init_s, dX5_init_0, dX5_init_1, dX5_init_4, dX5_init_5, bc_50, dX5_init_7, dX5_init_9, fl_5_9_5, dX5_init_12, dX5_init_13, ic_0, dX5_init_14, fl_5_15_5, dX5_init_17, dX5_init_18, dX5_init_19, fl_5_19_5, dX5_init_22, fin_5_5_0, sn_aload_n, sn_bipush, sn_iconst, sn_putfield, sn_return]
  refine n_newI 50 dX5_init_7 (by decide) (by decide) (by decide) (by decide) (by decide) (fun aw haw => ?_)
  have hbw := ne_fresh haw m1
  have E1 : Ext lab (labU lab aw i) b σ (hnew σ aw (iA Γ 50 (fun _ => 0))) := Ext.new haw
  have m1' : b ∈ (hnew σ aw (iA Γ 50 (fun _ => 0))).1 := hnew_in m1
  have e1' := (hnew_ne (e := iA Γ 50 (fun _ => 0)) hbw).trans e1
  have mw : aw ∈ (hnew σ aw (iA Γ 50 (fun _ => 0))).1 := hnew_q
  have ew : (hnew σ aw (iA Γ 50 (fun _ => 0))).2 aw = iA Γ 50 (fun _ => 0) := hnew_at
  generalize hnew σ aw (iA Γ 50 (fun _ => 0)) = σ1 at E1 m1' e1' mw ew ⊢
  have hk := h (hput σ1 b (TpE aw 0 0)) (labU lab aw i) aw (E1.tr Ext.put) ⟨⟨m1', mw⟩, va_up_self _ _ _, (va_up_ne _ _ hbw.symm).trans ew⟩ (by
    rintro q (rfl | rfl)
    · exact (labU_ne hbw).trans hlb
    · exact labU_at)
  simp only [TpE, hput, nI_0] at hk
  refine nvc_ok (uX5_init Γ) (S := []) 30 _ _ _ _ ?_
  simp only [m1', e1', nvc_s, s1i, s2i, s1l, s2l, sil, s1r, sir, siir, slir, srir, svr, sd1, sd2, lg, lput, ldel, isL_i, isL_r, isL_l, jmp, obj, obj1, fI, fR, arI, arL, arR, hput, f4_0, f4_1, f4_2, f4_3, lc_0, lc_1, rok_i, rok_b, rok_y, strF, fput_1, fput_2, csum_nil, csum_i, csum_l, csum_r, va_up_self, bx_uu, Int.reduceAdd, List.elem_nil, List.elem_cons, List.take_succ_cons, List.take_zero, List.drop_succ_cons, List.drop_zero, List.take_nil, List.drop_nil, List.reverse_cons, List.reverse_nil, List.nil_append, List.cons_append, List.append_nil, Option.toList_some, Option.toList_none, List.getElem?_cons_zero, List.getElem?_cons_succ, List.set_cons_zero, List.set_cons_succ, List.length_cons, List.length_nil, reduceIte, reduceCtorEq, and_true, true_and, and_self, or_true, true_or, false_and, and_false, not_true_eq_false, not_false_eq_true, true_implies, false_implies, implies_true, Nat.reduceAdd, Nat.reduceLT, Nat.reduceEqDiff, Nat.reduceLeDiff, Nat.reduceBEq, Nat.zero_add, Nat.lt_add_one, Bool.false_eq_true, Bool.or_false, Bool.or_true, Bool.or_self, Nat.zero_ne_one, Nat.one_ne_zero, ite_true, ite_false, ne_eq, Nat.reduceSub, Nat.succ_eq_add_one, Nat.zero_lt_succ, Nat.add_one_ne_zero, false_or, or_false, or_self, mX5_init_c, mX5_init_n, mX5_init_r, mX5_init_l, mX5_init_o, mX5_init_k, mX5_init_s, dX5_init_0, dX5_init_1, dX5_init_4, dX5_init_5, bc_50, dX5_init_7, dX5_init_9, fl_5_9_5, dX5_init_12, dX5_init_13, ic_0, dX5_init_14, fl_5_15_5, dX5_init_17, dX5_init_18, dX5_init_19, fl_5_19_5, dX5_init_22, fin_5_5_0, sn_aload_n, sn_bipush, sn_iconst, sn_putfield, sn_return]
  exact hk
def sp_X4_init (Γ : Cx) : YSp := fun av σ K => ∃ (b i : Nat) (lab : Nat → Nat), av = [.ref b] ∧ b ∈ σ.1 ∧ σ.2 b = .inr (4, [.null, .int 0, .int 0]) ∧ lab b = i ∧ ∀ (σ' : Hp) (lab' : Nat → Nat) (aw : Nat), Ext lab lab' b σ σ' → Sh Γ (b, aw) (fun _ => 0, 0, -1) σ' → aw ∉ σ.1 → (∀ q, SF (b, aw) q → lab' q = i) → K none σ'
theorem bw_193 : Cond.methodLink RX4 3 objectInit ∈ BW := bw_i 193 (by decide +kernel) (by decide +kernel)
theorem ol_X4_init : Cond.methodLink RX4 3 objectInit ∈ BW := bw_193
theorem fin_4_4_0 : finT RX4 4 0 := ⟨_, _, _, tyX4 0, rfl, rfl, rfl, by decide +kernel, fun v => ⟨rfl, rfl⟩⟩
def mX4_init : Mt := (⟨1, 1, 24, 20⟩, RX4, cX4_init, 1, none, (0, 0), none)
theorem mX4_init_c : mX4_init.2.2.1 = cX4_init := rfl
theorem mX4_init_n : mX4_init.2.2.2.1 = 1 := rfl
theorem mX4_init_r : mX4_init.2.2.2.2.1 = none := rfl
theorem mX4_init_l : mX4_init.2.2.2.2.2.2 = none := rfl
theorem mX4_init_o : mX4_init.2.1 = RX4 := rfl
theorem mX4_init_k : mX4_init.1.cells = 1 := rfl
theorem mX4_init_s : mX4_init.1.slots = 24 := rfl
theorem uX4_init (Γ : Cx) : TbOK Γ mX4_init (fT fX4, cT kX4, kT []) := tb_ok fX4_ok kX4_ok all_nil
set_option maxRecDepth 20000 in
theorem oki_X4_init (Γ : Cx) : OkI Γ yX4_init mX4_init (sp_X4_init Γ) := by
  refine oki_intro (by decide +kernel) rfl rfl ?_
  intro av σ K h
  obtain ⟨b, i, lab, rfl, m1, e1, hlb, h⟩ := h
  refine ⟨Nat.le_of_ble_eq_true rfl, nvc_ok (uX4_init Γ) (S := [1]) 4 _ _ _ _ ?_⟩
  simp only [lv_args, Value.category, nvc_s, s1i, s2i, s1l, s2l, sil, s1r, sir, siir, slir, srir, svr, sd1, sd2, lg, lput, ldel, isL_i, isL_r, isL_l, jmp, obj, obj1, fI, fR, arI, arL, arR, hput, f4_0, f4_1, f4_2, f4_3, lc_0, lc_1, rok_i, rok_b, rok_y, strF, fput_1, fput_2, csum_nil, csum_i, csum_l, csum_r, va_up_self, bx_uu, Int.reduceAdd, List.elem_nil, List.elem_cons, List.take_succ_cons, List.take_zero, List.drop_succ_cons, List.drop_zero, List.take_nil, List.drop_nil, List.reverse_cons, List.reverse_nil, List.nil_append, List.cons_append, List.append_nil, Option.toList_some, Option.toList_none, List.getElem?_cons_zero, List.getElem?_cons_succ, List.set_cons_zero, List.set_cons_succ, List.length_cons, List.length_nil, reduceIte, reduceCtorEq, and_true, true_and, and_self, or_true, true_or, false_and, and_false, not_true_eq_false, not_false_eq_true, true_implies, false_implies, implies_true, Nat.reduceAdd, Nat.reduceLT, Nat.reduceEqDiff, Nat.reduceLeDiff, Nat.reduceBEq, Nat.zero_add, Nat.lt_add_one, Bool.false_eq_true, Bool.or_false, Bool.or_true, Bool.or_self, Nat.zero_ne_one, Nat.one_ne_zero, ite_true, ite_false, ne_eq, Nat.reduceSub, Nat.succ_eq_add_one, Nat.zero_lt_succ, Nat.add_one_ne_zero, false_or, or_false, or_self, mX4_init_c, mX4_init_n, mX4_init_r, mX4_init_l, mX4_init_o, mX4_init_k, mX4_init_s, dX4_init_0, dX4_init_1, dX4_init_4, dX4_init_5, bc_24, dX4_init_7, dX4_init_9, fl_4_9_4, dX4_init_12, dX4_init_13, ic_0, dX4_init_14, fl_4_15_4, dX4_init_17, dX4_init_18, ic_m1, dX4_init_19, fl_4_19_4, dX4_init_22, fin_4_4_0, sn_aload_n, sn_bipush, sn_iconst, sn_putfield, sn_return]
  refine n_obj ol_X4_init dX4_init_1 (by decide) (by decide) (by decide) ?_
  refine nvc_ok (uX4_init Γ) (S := [7]) 4 _ _ _ _ ?_
  simp only [nvc_s, s1i, s2i, s1l, s2l, sil, s1r, sir, siir, slir, srir, svr, sd1, sd2, lg, lput, ldel, isL_i, isL_r, isL_l, jmp, obj, obj1, fI, fR, arI, arL, arR, hput, f4_0, f4_1, f4_2, f4_3, lc_0, lc_1, rok_i, rok_b, rok_y, strF, fput_1, fput_2, csum_nil, csum_i, csum_l, csum_r, va_up_self, bx_uu, Int.reduceAdd, List.elem_nil, List.elem_cons, List.take_succ_cons, List.take_zero, List.drop_succ_cons, List.drop_zero, List.take_nil, List.drop_nil, List.reverse_cons, List.reverse_nil, List.nil_append, List.cons_append, List.append_nil, Option.toList_some, Option.toList_none, List.getElem?_cons_zero, List.getElem?_cons_succ, List.set_cons_zero, List.set_cons_succ, List.length_cons, List.length_nil, reduceIte, reduceCtorEq, and_true, true_and, and_self, or_true, true_or, false_and, and_false, not_true_eq_false, not_false_eq_true, true_implies, false_implies, implies_true, Nat.reduceAdd, Nat.reduceLT, Nat.reduceEqDiff, Nat.reduceLeDiff, Nat.reduceBEq, Nat.zero_add, Nat.lt_add_one, Bool.false_eq_true, Bool.or_false, Bool.or_true, Bool.or_self, Nat.zero_ne_one, Nat.one_ne_zero, ite_true, ite_false, ne_eq, Nat.reduceSub, Nat.succ_eq_add_one, Nat.zero_lt_succ, Nat.add_one_ne_zero, false_or, or_false, or_self, mX4_init_c, mX4_init_n, mX4_init_r, mX4_init_l, mX4_init_o, mX4_init_k, mX4_init_s, dX4_init_0, dX4_init_1, dX4_init_4, dX4_init_5, bc_24, dX4_init_7, dX4_init_9, fl_4_9_4, dX4_init_12, dX4_init_13, ic_0, dX4_init_14, fl_4_15_4, dX4_init_17, dX4_init_18, ic_m1, dX4_init_19, fl_4_19_4, dX4_init_22, fin_4_4_0, sn_aload_n, sn_bipush, sn_iconst, sn_putfield, sn_return]
  refine n_newL 24 dX4_init_7 (by decide) (by decide) (by decide) (by decide) (by decide) (fun aw haw => ?_)
  have hbw := ne_fresh haw m1
  have E1 : Ext lab (labU lab aw i) b σ (hnew σ aw (lA Γ 24 (fun _ => 0))) := Ext.new haw
  have m1' : b ∈ (hnew σ aw (lA Γ 24 (fun _ => 0))).1 := hnew_in m1
  have e1' := (hnew_ne (e := lA Γ 24 (fun _ => 0)) hbw).trans e1
  have mw : aw ∈ (hnew σ aw (lA Γ 24 (fun _ => 0))).1 := hnew_q
  have ew : (hnew σ aw (lA Γ 24 (fun _ => 0))).2 aw = lA Γ 24 (fun _ => 0) := hnew_at
  generalize hnew σ aw (lA Γ 24 (fun _ => 0)) = σ1 at E1 m1' e1' mw ew ⊢
  have hk := h (hput σ1 b (ShE aw (fun _ => 0, 0, -1))) (labU lab aw i) aw (E1.tr Ext.put) ⟨⟨m1', mw⟩, va_up_self _ _ _, (va_up_ne _ _ hbw.symm).trans ew⟩ haw (by
    rintro q (rfl | rfl)
    · exact (labU_ne hbw).trans hlb
    · exact labU_at)
  simp only [ShE, hput] at hk
  refine nvc_ok (uX4_init Γ) (S := []) 30 _ _ _ _ ?_
  simp only [m1', e1', nvc_s, s1i, s2i, s1l, s2l, sil, s1r, sir, siir, slir, srir, svr, sd1, sd2, lg, lput, ldel, isL_i, isL_r, isL_l, jmp, obj, obj1, fI, fR, arI, arL, arR, hput, f4_0, f4_1, f4_2, f4_3, lc_0, lc_1, rok_i, rok_b, rok_y, strF, fput_1, fput_2, csum_nil, csum_i, csum_l, csum_r, va_up_self, bx_uu, Int.reduceAdd, List.elem_nil, List.elem_cons, List.take_succ_cons, List.take_zero, List.drop_succ_cons, List.drop_zero, List.take_nil, List.drop_nil, List.reverse_cons, List.reverse_nil, List.nil_append, List.cons_append, List.append_nil, Option.toList_some, Option.toList_none, List.getElem?_cons_zero, List.getElem?_cons_succ, List.set_cons_zero, List.set_cons_succ, List.length_cons, List.length_nil, reduceIte, reduceCtorEq, and_true, true_and, and_self, or_true, true_or, false_and, and_false, not_true_eq_false, not_false_eq_true, true_implies, false_implies, implies_true, Nat.reduceAdd, Nat.reduceLT, Nat.reduceEqDiff, Nat.reduceLeDiff, Nat.reduceBEq, Nat.zero_add, Nat.lt_add_one, Bool.false_eq_true, Bool.or_false, Bool.or_true, Bool.or_self, Nat.zero_ne_one, Nat.one_ne_zero, ite_true, ite_false, ne_eq, Nat.reduceSub, Nat.succ_eq_add_one, Nat.zero_lt_succ, Nat.add_one_ne_zero, false_or, or_false, or_self, mX4_init_c, mX4_init_n, mX4_init_r, mX4_init_l, mX4_init_o, mX4_init_k, mX4_init_s, dX4_init_0, dX4_init_1, dX4_init_4, dX4_init_5, bc_24, dX4_init_7, dX4_init_9, fl_4_9_4, dX4_init_12, dX4_init_13, ic_0, dX4_init_14, fl_4_15_4, dX4_init_17, dX4_init_18, ic_m1, dX4_init_19, fl_4_19_4, dX4_init_22, fin_4_4_0, sn_aload_n, sn_bipush, sn_iconst, sn_putfield, sn_return]
  exact hk
