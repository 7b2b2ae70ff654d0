/-! ===== YawnKeys: people, doors ===== -/
def xq (Γ : Cx) (As : List Value) (Rel : XS → XS → Int32 → Prop) (Pre : XS → Prop) : YSp := fun av σ K => ∃ (lab : Nat → Nat) (X : XA) (ψ : XS), av = .ref X.1 :: As ∧ XW Γ lab X ψ σ ∧ Pre ψ ∧ ∀ (σ' : Hp) (ψ' : XS) (r : Int32), Rel ψ ψ' r → frm (fX lab) σ σ' → XW Γ lab X ψ' σ' → K (some (.int r)) σ'
theorem rv_xq {Γ : Cx} {As : List Value} {Rel : XS → XS → Int32 → Prop} {Pre : XS → Prop} {av : List Value} {σ : Hp} {K : Option Value → Hp → Prop} (h : xq Γ As Rel Pre av σ K) : ∃ (b : Nat) (fs : List Value), av = .ref b :: As ∧ b ∈ σ.1 ∧ σ.2 b = .inr (6, fs) := by
  obtain ⟨lab, X, ψ, rfl, hW, -⟩ := h
  obtain ⟨fs, h1, h2⟩ := x_rv hW
  exact ⟨_, fs, rfl, h1, h2⟩
def fn (f : XS → XS × Int32) : XS → XS → Int32 → Prop := fun ψ ψ' r => (ψ', r) = f ψ
def PX (ψ : XS) : Prop := WfC ψ.1
theorem frmX {lab : Nat → Nat} {k : Nat} {σ σ' : Hp} (h : frm (fL lab k) σ σ') (hk : k < 20) : frm (fX lab) σ σ' := h.mono (fun q hq => by show lab q < 20; rw [show lab q = k from hq]; exact hk)
theorem csetL {Γ : Cx} {lab : Nat → Nat} {A : CA} {s : CS} {σ : Hp} {k : Nat} (hl : ∀ q, CF A q → lab q = k) : frm (fL lab k) σ (cset Γ A s σ) := cset_frm.mono hl
theorem hputL {lab : Nat → Nat} {a k : Nat} {e : va_E} {σ : Hp} (hl : lab a = k) : frm (fL lab k) σ (hput σ a e) := hput_frm hl
theorem has_n {x : Int32} {P : Nat} (hP : P ≤ 5) (h : inr x 0 (nI P - 1) = true) : ∃ q, q < P ∧ x = nI q := by
  obtain ⟨h1, h2⟩ := inr_iff.mp h
  cases P with
  | zero => exact absurd (Int32.le_trans h1 h2) (by decide)
  | succ n =>
    rw [nI_pred] at h2
    obtain ⟨j, hj, e⟩ := nI_of2 (n := n) (nI_toInt (by omega)) (i_nlt.mpr h1) h2
    exact ⟨j, by omega, e⟩
theorem door_n {x : Int32} (h : inr x 0 3 = true) : ∃ q, q < 4 ∧ x = nI q := by
  obtain ⟨h1, h2⟩ := inr_iff.mp h
  obtain ⟨j, hj, e⟩ := nI_of2 (M := 3) (n := 3) (by decide) (i_nlt.mpr h1) h2
  exact ⟨j, by omega, e⟩
theorem in_n {x b : Int32} {B : Nat} (hb : b.toInt = B) (h : inr x 0 b = true) : ∃ q, q ≤ B ∧ x = nI q := by
  obtain ⟨h1, h2⟩ := inr_iff.mp h
  exact nI_of2 hb (i_nlt.mpr h1) h2
theorem in1_n {x b : Int32} {B : Nat} (hb : b.toInt = B) (h : inr x 1 b = true) : ∃ q, 0 < q ∧ q ≤ B ∧ x = nI q := by
  obtain ⟨h1, h2⟩ := inr_iff.mp h
  obtain ⟨q, hq, e⟩ := nI_of2 hb (i_nlt.mpr (Int32.le_trans (by decide) h1)) h2
  refine ⟨q, ?_, hq, e⟩
  rcases Nat.eq_zero_or_pos q with z | z
  · subst z
    rw [e] at h1
    exact absurd h1 (by decide)
  · exact z
theorem ltP5 {P : Nat} (h : P ≤ 5) : nI P < 5 ↔ P < 5 := nI_ltI (b := 5) (by omega) (by decide)
/-- person -/
def x_person (kind want : Int32) (ψ : XS) : XS × Int32 := if inr kind 0 4 = true ∧ inr want 0 20 = true then (if ψ.1.2.2.2.2.2.2.1 < 5 then ((joinC ψ.1 kind want, ψ.2.1, (ψ.2.2.1.1, 0), ψ.2.2.2), nI ψ.1.2.2.2.2.2.2.1) else (ψ, -3)) else (ψ, -1)
def sp_X6_person (Γ : Cx) : YSp := fun av σ K => ∃ a b : Int32, xq Γ [.int a, .int b] (fn (x_person a b)) PX av σ K
theorem rv_X6_person {Γ : Cx} : Recv (sp_X6_person Γ) 2 6 := by
  intro av σ K h
  obtain ⟨a, b, h⟩ := h
  obtain ⟨q, fs, h1, h2, h3⟩ := rv_xq h
  exact ⟨q, _, fs, h1, rfl, h2, h3⟩
theorem bw_245 : Cond.code yX2_forget cX2_forget 1 none ∈ BW := bw_i 245 (by decide +kernel) (by decide +kernel)
theorem no_X2_forget : NameOK yX2_forget 0 := by unfold NameOK; decide +kernel
theorem bw_242 : Cond.methodLink RX6 65 yX2_forget ∈ BW := bw_i 242 (by decide +kernel) (by decide +kernel)
theorem bw_243 : Cond.instanceMethod yX2_forget ∈ BW := bw_i 243 (by decide +kernel) (by decide +kernel)
theorem bw_244 : Cond.selects RX2 yX2_forget yX2_forget ∈ BW := bw_i 244 (by decide +kernel) (by decide +kernel)
theorem bw_246 : Cond.methodLink RX6 68 yX0_join ∈ BW := bw_i 246 (by decide +kernel) (by decide +kernel)
theorem tg_6_13 : tgo 6 13 = some 19 := by decide
theorem tg_29_6 : tgo 29 6 = some 35 := by decide
theorem bc_m3 : (Int8.ofInt (-3)).toInt32 = (-3) := by decide
def mX6_person : Mt := (⟨2, 0, 0, 47⟩, RX6, cX6_person, 3, some .int, (0, 0), none)
theorem mX6_person_c : mX6_person.2.2.1 = cX6_person := rfl
theorem mX6_person_n : mX6_person.2.2.2.1 = 3 := rfl
theorem mX6_person_r : mX6_person.2.2.2.2.1 = some .int := rfl
theorem mX6_person_l : mX6_person.2.2.2.2.2.2 = none := rfl
def jX6_person (Γ : Cx) : List ((Nat × Nat) × Nat × Bool × YSp) := [((1, 57), 3, true, sp_X6_within Γ), ((0, 65), 1, false, sp_X2_forget Γ), ((0, 68), 3, false, sp_X0_join Γ)]
theorem jX6_person_1_57 (Γ : Cx) : kT (jX6_person Γ) 1 57 = some (3, true, sp_X6_within Γ) := rfl
theorem jX6_person_0_65 (Γ : Cx) : kT (jX6_person Γ) 0 65 = some (1, false, sp_X2_forget Γ) := rfl
theorem jX6_person_0_68 (Γ : Cx) : kT (jX6_person Γ) 0 68 = some (3, false, sp_X0_join Γ) := rfl
theorem uX6_person (Γ : Cx) : TbOK Γ mX6_person (fT fX6, cT kX6, kT (jX6_person Γ)) := tb_ok fX6_ok kX6_ok (all_cons ⟨call_S (n := 3) (ok_X6_within Γ) (rv_X6_within (Γ := Γ)) bw_241 bw_239 bw_240 bw_42 no_X6_within ⟨⟨rfl, rfl⟩, ⟨by decide, by decide⟩, ⟨by decide, by decide⟩⟩, fun _ => mono_X6_within (Γ := Γ)⟩ (all_cons ⟨call_V (n := 0) (T := TX2) (N := 2) (ok_X2_forget Γ) (rv_X2_forget (Γ := Γ)) rfl bw_245 bw_242 bw_243 bw_244 bw_45 no_X2_forget ⟨⟨rfl, rfl⟩, ⟨by decide, by decide⟩, ⟨by decide, by decide⟩⟩, fun z => by cases z⟩ (all_cons ⟨call_V (n := 2) (T := TX0) (N := 9) (ok_X0_join Γ) (rv_X0_join (Γ := Γ)) rfl bw_249 bw_246 bw_247 bw_248 bw_44 no_X0_join ⟨⟨rfl, rfl⟩, ⟨by decide, by decide⟩, ⟨by decide, by decide⟩⟩, fun z => by cases z⟩ (all_nil))))
set_option maxRecDepth 20000 in
theorem ok_X6_person (Γ : Cx) : Ok Γ yX6_person mX6_person (sp_X6_person Γ) := by
  refine ok_intro (by decide +kernel) rfl rfl ?_
  intro av σ K h
  obtain ⟨a, b, lab, X, ψ, rfl, hW, hpre, h⟩ := h
  obtain ⟨x, sh, ⟨n0, n1, n2, n3⟩, ⟨t0, t1, t2, t3⟩, p, ⟨i0, i1, i2, i3⟩, ip, ⟨ta, tl⟩, ⟨pa, pk⟩, S⟩ := X
  obtain ⟨⟨w, kp, kd, day, gone, draw, P, rule, gd⟩, si, ⟨pc, pn⟩, ⟨qc, qn⟩, hi, ⟨l, len⟩, ss⟩ := ψ
  have hW0 := hW
  obtain ⟨⟨x1, x2, x3, x4⟩, x5, ⟨sf, x6, x7⟩, ⟨cN, lN⟩, ⟨⟨t, cT⟩, lT⟩, pP, ⟨cI, lI⟩, pI, ⟨⟨pl, tT⟩, lTp, hlen⟩, ⟨⟨pls, pPl⟩, lPl⟩, hS⟩ := hW
  simp only at cN lN cT lT pP cI lI pI tT lTp hlen pPl lPl hS x6 x7
  obtain ⟨⟨m1, m2, m3, m4⟩, e1, e2, e3, e4⟩ := id cN
  simp only [XE, ColE, iA] at x1 x2 x5 m1 m2 m3 m4 e1 e2 e3 e4
  have hP := hpre.1
  simp only at hP
  unfold fn x_person at h
  simp only at h
  refine ⟨Nat.le_of_ble_eq_true rfl, yvc_ok (uX6_person Γ) (S := []) 60 _ _ _ _ ?_⟩
  simp only [lv_args, Value.category, x1, x5, m1, e1, sp_X6_within, bI_eq0, Bool.not_eq_false, ltP5 hP, yvc_s, s1i, s2i, s1l, s2l, sil, s1r, sir, siir, slir, srir, svr, sd1, sd2, lg, lput, ldel, isL_i, isL_r, isL_l, jmp, obj, obj1, fI, fR, arI, arL, arR, hput, f4_0, f4_1, f4_2, f4_3, lc_0, lc_1, rok_i, rok_b, rok_y, strF, fput_1, fput_2, csum_nil, csum_i, csum_l, csum_r, va_up_self, bx_uu, Int.reduceAdd, List.elem_nil, List.elem_cons, List.take_succ_cons, List.take_zero, List.drop_succ_cons, List.drop_zero, List.take_nil, List.drop_nil, List.reverse_cons, List.reverse_nil, List.nil_append, List.cons_append, List.append_nil, Option.toList_some, Option.toList_none, List.getElem?_cons_zero, List.getElem?_cons_succ, List.set_cons_zero, List.set_cons_succ, List.length_cons, List.length_nil, reduceIte, reduceCtorEq, and_true, true_and, and_self, or_true, true_or, false_and, and_false, not_true_eq_false, not_false_eq_true, true_implies, false_implies, implies_true, Nat.reduceAdd, Nat.reduceLT, Nat.reduceEqDiff, Nat.reduceLeDiff, Nat.reduceBEq, Nat.zero_add, Nat.lt_add_one, Bool.false_eq_true, Bool.or_false, Bool.or_true, Bool.or_self, Nat.zero_ne_one, Nat.one_ne_zero, ite_true, ite_false, ne_eq, Nat.reduceSub, Nat.succ_eq_add_one, Nat.zero_lt_succ, Nat.add_one_ne_zero, false_or, or_false, mX6_person_c, mX6_person_n, mX6_person_r, mX6_person_l, dX6_person_0, dX6_person_1, ic_0, dX6_person_2, ic_4, dX6_person_3, dX6_person_6, tg_6_13, cnd1_eq, dX6_person_9, dX6_person_10, dX6_person_11, bc_20, dX6_person_13, dX6_person_16, tg_16_5, cnd1_ne, dX6_person_19, ic_m1, dX6_person_20, dX6_person_21, dX6_person_22, fl_6_10_6, dX6_person_25, fl_6_61_0, dX6_person_28, ic_5, dX6_person_29, tg_29_6, cnd2_lt, dX6_person_32, bc_m3, dX6_person_34, dX6_person_35, dX6_person_36, fl_6_22_6, dX6_person_39, dX6_person_42, dX6_person_43, dX6_person_46, dX6_person_47, dX6_person_48, dX6_person_51, jX6_person_1_57, jX6_person_0_65, jX6_person_0_68, st_aload_n, st_bipush, st_getfield, st_iconst, st_ifCond, st_if_icmp, st_iload_n, st_invokestatic, st_invokevirtual, st_ireturn]
  have hno : ¬ (inr a 0 4 = true ∧ inr b 0 20 = true) → K (some (.int (-1))) σ := fun z => by
    rw [if_neg z] at h
    exact h σ _ _ rfl frm.rf hW0
  refine ⟨fun c => hno (fun z => by rw [c] at z; cases z.1), fun c => ⟨fun d => ⟨fun e => ?_, fun e => ?_⟩, fun d => hno (fun z => d z.2)⟩⟩
  · rw [if_pos ⟨c, d⟩, if_pos e] at h
    refine ⟨fL lab 3, p, pc, pn, rfl, pP, fun σ1 hf1 hP1 => ?_⟩
    have hW1 := hW0.sP hf1 hP1
    simp only at hW1
    obtain ⟨⟨y1, -⟩, y5, -, ⟨cN1, -⟩, -⟩ := id hW1
    simp only [XE] at y1 y5 cN1
    refine yvc_ok (uX6_person Γ) (S := []) 60 _ _ _ _ ?_
    simp only [y1, y5, yvc_s, s1i, s2i, s1l, s2l, sil, s1r, sir, siir, slir, srir, svr, sd1, sd2, lg, lput, ldel, isL_i, isL_r, isL_l, jmp, obj, obj1, fI, fR, arI, arL, arR, hput, f4_0, f4_1, f4_2, f4_3, lc_0, lc_1, rok_i, rok_b, rok_y, strF, fput_1, fput_2, csum_nil, csum_i, csum_l, csum_r, va_up_self, bx_uu, Int.reduceAdd, List.elem_nil, List.elem_cons, List.take_succ_cons, List.take_zero, List.drop_succ_cons, List.drop_zero, List.take_nil, List.drop_nil, List.reverse_cons, List.reverse_nil, List.nil_append, List.cons_append, List.append_nil, Option.toList_some, Option.toList_none, List.getElem?_cons_zero, List.getElem?_cons_succ, List.set_cons_zero, List.set_cons_succ, List.length_cons, List.length_nil, reduceIte, reduceCtorEq, and_true, true_and, and_self, or_true, true_or, false_and, and_false, not_true_eq_false, not_false_eq_true, true_implies, false_implies, implies_true, Nat.reduceAdd, Nat.reduceLT, Nat.reduceEqDiff, Nat.reduceLeDiff, Nat.reduceBEq, Nat.zero_add, Nat.lt_add_one, Bool.false_eq_true, Bool.or_false, Bool.or_true, Bool.or_self, Nat.zero_ne_one, Nat.one_ne_zero, ite_true, ite_false, ne_eq, Nat.reduceSub, Nat.succ_eq_add_one, Nat.zero_lt_succ, Nat.add_one_ne_zero, false_or, or_false, mX6_person_c, mX6_person_n, mX6_person_r, mX6_person_l, dX6_person_0, dX6_person_1, ic_0, dX6_person_2, ic_4, dX6_person_3, dX6_person_6, tg_6_13, cnd1_eq, dX6_person_9, dX6_person_10, dX6_person_11, bc_20, dX6_person_13, dX6_person_16, tg_16_5, cnd1_ne, dX6_person_19, ic_m1, dX6_person_20, dX6_person_21, dX6_person_22, fl_6_10_6, dX6_person_25, fl_6_61_0, dX6_person_28, ic_5, dX6_person_29, tg_29_6, cnd2_lt, dX6_person_32, bc_m3, dX6_person_34, dX6_person_35, dX6_person_36, fl_6_22_6, dX6_person_39, dX6_person_42, dX6_person_43, dX6_person_46, dX6_person_47, dX6_person_48, dX6_person_51, jX6_person_1_57, jX6_person_0_65, jX6_person_0_68, st_aload_n, st_bipush, st_getfield, st_iconst, st_ifCond, st_if_icmp, st_iload_n, st_invokestatic, st_invokevirtual, st_ireturn]
    refine ⟨(n0, n1, n2, n3), _, _, _, rfl, e, cN1, ?_⟩
    have hW2 := hW1.sN (csetL (Γ := Γ) lN) (cN1.set (joinC (w, kp, kd, day, gone, draw, P, rule, gd) a b))
    refine yvc_ok (uX6_person Γ) (S := []) 60 _ _ _ _ ?_
    simp only [yvc_s, s1i, s2i, s1l, s2l, sil, s1r, sir, siir, slir, srir, svr, sd1, sd2, lg, lput, ldel, isL_i, isL_r, isL_l, jmp, obj, obj1, fI, fR, arI, arL, arR, hput, f4_0, f4_1, f4_2, f4_3, lc_0, lc_1, rok_i, rok_b, rok_y, strF, fput_1, fput_2, csum_nil, csum_i, csum_l, csum_r, va_up_self, bx_uu, Int.reduceAdd, List.elem_nil, List.elem_cons, List.take_succ_cons, List.take_zero, List.drop_succ_cons, List.drop_zero, List.take_nil, List.drop_nil, List.reverse_cons, List.reverse_nil, List.nil_append, List.cons_append, List.append_nil, Option.toList_some, Option.toList_none, List.getElem?_cons_zero, List.getElem?_cons_succ, List.set_cons_zero, List.set_cons_succ, List.length_cons, List.length_nil, reduceIte, reduceCtorEq, and_true, true_and, and_self, or_true, true_or, false_and, and_false, not_true_eq_false, not_false_eq_true, true_implies, false_implies, implies_true, Nat.reduceAdd, Nat.reduceLT, Nat.reduceEqDiff, Nat.reduceLeDiff, Nat.reduceBEq, Nat.zero_add, Nat.lt_add_one, Bool.false_eq_true, Bool.or_false, Bool.or_true, Bool.or_self, Nat.zero_ne_one, Nat.one_ne_zero, ite_true, ite_false, ne_eq, Nat.reduceSub, Nat.succ_eq_add_one, Nat.zero_lt_succ, Nat.add_one_ne_zero, false_or, or_false, mX6_person_c, mX6_person_n, mX6_person_r, mX6_person_l, dX6_person_0, dX6_person_1, ic_0, dX6_person_2, ic_4, dX6_person_3, dX6_person_6, tg_6_13, cnd1_eq, dX6_person_9, dX6_person_10, dX6_person_11, bc_20, dX6_person_13, dX6_person_16, tg_16_5, cnd1_ne, dX6_person_19, ic_m1, dX6_person_20, dX6_person_21, dX6_person_22, fl_6_10_6, dX6_person_25, fl_6_61_0, dX6_person_28, ic_5, dX6_person_29, tg_29_6, cnd2_lt, dX6_person_32, bc_m3, dX6_person_34, dX6_person_35, dX6_person_36, fl_6_22_6, dX6_person_39, dX6_person_42, dX6_person_43, dX6_person_46, dX6_person_47, dX6_person_48, dX6_person_51, jX6_person_1_57, jX6_person_0_65, jX6_person_0_68, st_aload_n, st_bipush, st_getfield, st_iconst, st_ifCond, st_if_icmp, st_iload_n, st_invokestatic, st_invokevirtual, st_ireturn]
    exact h _ _ _ rfl ((frmX hf1 (by decide)).tr (frmX (csetL lN) (by decide))) hW2
  · rw [if_pos ⟨c, d⟩, if_neg e] at h
    exact h σ _ _ rfl frm.rf hW0
/-- rule -/
def setR (s : CS) (v : Int32) : CS := (s.1, s.2.1, s.2.2.1, s.2.2.2.1, s.2.2.2.2.1, s.2.2.2.2.2.1, s.2.2.2.2.2.2.1, v, s.2.2.2.2.2.2.2.2)
def x_rule (v : Int32) (ψ : XS) : XS × Int32 := if inr v 1 20 = true then ((setR ψ.1 v, ψ.2), ψ.1.2.2.2.2.2.2.2.1) else (ψ, -1)
def sp_X6_rule (Γ : Cx) : YSp := fun av σ K => ∃ a : Int32, xq Γ [.int a] (fn (x_rule a)) PX av σ K
theorem rv_X6_rule {Γ : Cx} : Recv (sp_X6_rule Γ) 1 6 := by
  intro av σ K h
  obtain ⟨a, h⟩ := h
  obtain ⟨q, fs, h1, h2, h3⟩ := rv_xq h
  exact ⟨q, _, fs, h1, rfl, h2, h3⟩
theorem tg_7_5 : tgo 7 5 = some 12 := by decide
def mX6_rule : Mt := (⟨1, 0, 0, 22⟩, RX6, cX6_rule, 3, some .int, (0, 0), none)
theorem mX6_rule_c : mX6_rule.2.2.1 = cX6_rule := rfl
theorem mX6_rule_n : mX6_rule.2.2.2.1 = 3 := rfl
theorem mX6_rule_r : mX6_rule.2.2.2.2.1 = some .int := rfl
theorem mX6_rule_l : mX6_rule.2.2.2.2.2.2 = none := rfl
def jX6_rule (Γ : Cx) : List ((Nat × Nat) × Nat × Bool × YSp) := [((1, 57), 3, true, sp_X6_within Γ)]
theorem jX6_rule_1_57 (Γ : Cx) : kT (jX6_rule Γ) 1 57 = some (3, true, sp_X6_within Γ) := rfl
theorem uX6_rule (Γ : Cx) : TbOK Γ mX6_rule (fT fX6, cT kX6, kT (jX6_rule Γ)) := tb_ok fX6_ok kX6_ok (all_cons ⟨call_S (n := 3) (ok_X6_within Γ) (rv_X6_within (Γ := Γ)) bw_241 bw_239 bw_240 bw_42 no_X6_within ⟨⟨rfl, rfl⟩, ⟨by decide, by decide⟩, ⟨by decide, by decide⟩⟩, fun _ => mono_X6_within (Γ := Γ)⟩ (all_nil))
set_option maxRecDepth 20000 in
theorem ok_X6_rule (Γ : Cx) : Ok Γ yX6_rule mX6_rule (sp_X6_rule Γ) := by
  refine ok_intro (by decide +kernel) rfl rfl ?_
  intro av σ K h
  obtain ⟨a, lab, X, ψ, rfl, hW, hpre, h⟩ := h
  obtain ⟨x, sh, ⟨n0, n1, n2, n3⟩, ⟨t0, t1, t2, t3⟩, p, ⟨i0, i1, i2, i3⟩, ip, ⟨ta, tl⟩, ⟨pa, pk⟩, S⟩ := X
  obtain ⟨⟨w, kp, kd, day, gone, draw, P, rule, gd⟩, si, ⟨pc, pn⟩, ⟨qc, qn⟩, hi, ⟨l, len⟩, ss⟩ := ψ
  have hW0 := hW
  obtain ⟨⟨x1, x2, x3, x4⟩, x5, ⟨sf, x6, x7⟩, ⟨cN, lN⟩, ⟨⟨t, cT⟩, lT⟩, pP, ⟨cI, lI⟩, pI, ⟨⟨pl, tT⟩, lTp, hlen⟩, ⟨⟨pls, pPl⟩, lPl⟩, hS⟩ := hW
  simp only at cN lN cT lT pP cI lI pI tT lTp hlen pPl lPl hS x6 x7
  obtain ⟨⟨m1, m2, m3, m4⟩, e1, e2, e3, e4⟩ := id cN
  simp only [XE, ColE, iA] at x1 x2 x5 m1 m2 m3 m4 e1 e2 e3 e4
  have hp := cN.put (w, kp, kd, day, gone, draw, P, a, gd) rfl rfl rfl
  have hW1 := hW0.sN (csetL (Γ := Γ) lN) (cN.set (w, kp, kd, day, gone, draw, P, a, gd))
  rw [← hp] at hW1
  have hfr : frm (fX lab) σ (cset Γ (n0, n1, n2, n3) (w, kp, kd, day, gone, draw, P, a, gd) σ) := frmX (csetL lN) (by decide)
  rw [← hp] at hfr
  unfold fn x_rule at h
  simp only [setR] at h
  simp only [hput, ColE] at hW1 hfr
  refine ⟨Nat.le_of_ble_eq_true rfl, yvc_ok (uX6_rule Γ) (S := []) 60 _ _ _ _ ?_⟩
  simp only [lv_args, Value.category, x1, x5, m1, e1, sp_X6_within, bI_eq0, Bool.not_eq_false, yvc_s, s1i, s2i, s1l, s2l, sil, s1r, sir, siir, slir, srir, svr, sd1, sd2, lg, lput, ldel, isL_i, isL_r, isL_l, jmp, obj, obj1, fI, fR, arI, arL, arR, hput, f4_0, f4_1, f4_2, f4_3, lc_0, lc_1, rok_i, rok_b, rok_y, strF, fput_1, fput_2, csum_nil, csum_i, csum_l, csum_r, va_up_self, bx_uu, Int.reduceAdd, List.elem_nil, List.elem_cons, List.take_succ_cons, List.take_zero, List.drop_succ_cons, List.drop_zero, List.take_nil, List.drop_nil, List.reverse_cons, List.reverse_nil, List.nil_append, List.cons_append, List.append_nil, Option.toList_some, Option.toList_none, List.getElem?_cons_zero, List.getElem?_cons_succ, List.set_cons_zero, List.set_cons_succ, List.length_cons, List.length_nil, reduceIte, reduceCtorEq, and_true, true_and, and_self, or_true, true_or, false_and, and_false, not_true_eq_false, not_false_eq_true, true_implies, false_implies, implies_true, Nat.reduceAdd, Nat.reduceLT, Nat.reduceEqDiff, Nat.reduceLeDiff, Nat.reduceBEq, Nat.zero_add, Nat.lt_add_one, Bool.false_eq_true, Bool.or_false, Bool.or_true, Bool.or_self, Nat.zero_ne_one, Nat.one_ne_zero, ite_true, ite_false, ne_eq, Nat.reduceSub, Nat.succ_eq_add_one, Nat.zero_lt_succ, Nat.add_one_ne_zero, false_or, or_false, mX6_rule_c, mX6_rule_n, mX6_rule_r, mX6_rule_l, dX6_rule_0, dX6_rule_1, ic_1, dX6_rule_2, bc_20, dX6_rule_4, dX6_rule_7, tg_7_5, cnd1_ne, dX6_rule_10, ic_m1, dX6_rule_11, dX6_rule_12, dX6_rule_13, fl_6_10_6, dX6_rule_16, fl_6_72_0, dX6_rule_19, dX6_rule_20, dX6_rule_21, dX6_rule_24, dX6_rule_25, dX6_rule_28, dX6_rule_29, jX6_rule_1_57, st_aload_n, st_bipush, st_getfield, st_iconst, st_ifCond, st_iload_n, st_invokestatic, st_ireturn, st_istore_n, st_putfield]
  refine ⟨fun c => ?_, fun c => ?_⟩
  · rw [if_pos c] at h
    exact h _ _ _ rfl hfr hW1
  · rw [if_neg c] at h
    exact h σ _ _ rfl frm.rf hW0
/-- wants -/
def x_wants (p d : Int32) (ψ : XS) : XS × Int32 := (ψ, if inr p 0 (nI ψ.1.2.2.2.2.2.2.1 - 1) = true ∧ inr d 0 3 = true then ψ.1.1 (ix p d) else -1)
def sp_X6_wants (Γ : Cx) : YSp := fun av σ K => ∃ a b : Int32, xq Γ [.int a, .int b] (fn (x_wants a b)) PX av σ K
theorem rv_X6_wants {Γ : Cx} : Recv (sp_X6_wants Γ) 2 6 := by
  intro av σ K h
  obtain ⟨a, b, h⟩ := h
  obtain ⟨q, fs, h1, h2, h3⟩ := rv_xq h
  exact ⟨q, _, fs, h1, rfl, h2, h3⟩
theorem bw_262 : Cond.methodLink RX6 75 yX0_has ∈ BW := bw_i 262 (by decide +kernel) (by decide +kernel)
theorem bw_269 : Cond.code yX6_isDoor cX6_isDoor 1 (some .boolean) ∈ BW := bw_i 269 (by decide +kernel) (by decide +kernel)
theorem no_X6_isDoor : NameOK yX6_isDoor 1 := by unfold NameOK; decide +kernel
theorem bw_267 : Cond.methodLink RX6 79 yX6_isDoor ∈ BW := bw_i 267 (by decide +kernel) (by decide +kernel)
theorem bw_268 : Cond.static yX6_isDoor ∈ BW := bw_i 268 (by decide +kernel) (by decide +kernel)
theorem bw_270 : Cond.methodLink RX6 82 yX0_wantOf ∈ BW := bw_i 270 (by decide +kernel) (by decide +kernel)
theorem tg_8_10 : tgo 8 10 = some 18 := by decide
theorem tg_15_5 : tgo 15 5 = some 20 := by decide
def mX6_wants : Mt := (⟨2, 0, 0, 43⟩, RX6, cX6_wants, 3, some .int, (0, 0), none)
theorem mX6_wants_c : mX6_wants.2.2.1 = cX6_wants := rfl
theorem mX6_wants_n : mX6_wants.2.2.2.1 = 3 := rfl
theorem mX6_wants_r : mX6_wants.2.2.2.2.1 = some .int := rfl
theorem mX6_wants_l : mX6_wants.2.2.2.2.2.2 = none := rfl
def jX6_wants (Γ : Cx) : List ((Nat × Nat) × Nat × Bool × YSp) := [((0, 75), 2, true, sp_X0_has Γ), ((1, 79), 1, true, sp_X6_isDoor Γ), ((0, 82), 3, true, sp_X0_wantOf Γ)]
theorem jX6_wants_0_75 (Γ : Cx) : kT (jX6_wants Γ) 0 75 = some (2, true, sp_X0_has Γ) := rfl
theorem jX6_wants_1_79 (Γ : Cx) : kT (jX6_wants Γ) 1 79 = some (1, true, sp_X6_isDoor Γ) := rfl
theorem jX6_wants_0_82 (Γ : Cx) : kT (jX6_wants Γ) 0 82 = some (3, true, sp_X0_wantOf Γ) := rfl
theorem uX6_wants (Γ : Cx) : TbOK Γ mX6_wants (fT fX6, cT kX6, kT (jX6_wants Γ)) := tb_ok fX6_ok kX6_ok (all_cons ⟨call_V (n := 1) (T := TX0) (N := 9) (ok_X0_has Γ) (rv_X0_has (Γ := Γ)) rfl bw_265 bw_262 bw_263 bw_264 bw_44 no_X0_has ⟨⟨rfl, rfl⟩, ⟨by decide, by decide⟩, ⟨by decide, by decide⟩⟩, fun _ => mono_X0_has (Γ := Γ)⟩ (all_cons ⟨call_S (n := 1) (ok_X6_isDoor Γ) (rv_X6_isDoor (Γ := Γ)) bw_269 bw_267 bw_268 bw_42 no_X6_isDoor ⟨⟨rfl, rfl⟩, ⟨by decide, by decide⟩, ⟨by decide, by decide⟩⟩, fun _ => mono_X6_isDoor (Γ := Γ)⟩ (all_cons ⟨call_V (n := 2) (T := TX0) (N := 9) (ok_X0_wantOf Γ) (rv_X0_wantOf (Γ := Γ)) rfl bw_273 bw_270 bw_271 bw_272 bw_44 no_X0_wantOf ⟨⟨rfl, rfl⟩, ⟨by decide, by decide⟩, ⟨by decide, by decide⟩⟩, fun _ => mono_X0_wantOf (Γ := Γ)⟩ (all_nil))))
set_option maxRecDepth 20000 in
theorem ok_X6_wants (Γ : Cx) : Ok Γ yX6_wants mX6_wants (sp_X6_wants Γ) := by
  refine ok_intro (by decide +kernel) rfl rfl ?_
  intro av σ K h
  obtain ⟨a, b, lab, X, ψ, rfl, hW, hpre, h⟩ := h
  obtain ⟨x, sh, ⟨n0, n1, n2, n3⟩, ⟨t0, t1, t2, t3⟩, p, ⟨i0, i1, i2, i3⟩, ip, ⟨ta, tl⟩, ⟨pa, pk⟩, S⟩ := X
  obtain ⟨⟨w, kp, kd, day, gone, draw, P, rule, gd⟩, si, ⟨pc, pn⟩, ⟨qc, qn⟩, hi, ⟨l, len⟩, ss⟩ := ψ
  have hW0 := hW
  obtain ⟨⟨x1, x2, x3, x4⟩, x5, ⟨sf, x6, x7⟩, ⟨cN, lN⟩, ⟨⟨t, cT⟩, lT⟩, pP, ⟨cI, lI⟩, pI, ⟨⟨pl, tT⟩, lTp, hlen⟩, ⟨⟨pls, pPl⟩, lPl⟩, hS⟩ := hW
  simp only at cN lN cT lT pP cI lI pI tT lTp hlen pPl lPl hS x6 x7
  obtain ⟨⟨m1, m2, m3, m4⟩, e1, e2, e3, e4⟩ := id cN
  simp only [XE, ColE, iA] at x1 x2 x5 m1 m2 m3 m4 e1 e2 e3 e4
  have hP := hpre.1
  simp only at hP
  have hk := h σ _ _ rfl frm.rf hW0
  simp only at hk
  refine ⟨Nat.le_of_ble_eq_true rfl, yvc_ok (uX6_wants Γ) (S := []) 60 _ _ _ _ ?_⟩
  simp only [lv_args, Value.category, x1, x5, m1, m2, e1, e2, sp_X6_isDoor, sp_X0_has, sp_X0_wantOf, bI_eq0, Bool.not_eq_false, yvc_s, s1i, s2i, s1l, s2l, sil, s1r, sir, siir, slir, srir, svr, sd1, sd2, lg, lput, ldel, isL_i, isL_r, isL_l, jmp, obj, obj1, fI, fR, arI, arL, arR, hput, f4_0, f4_1, f4_2, f4_3, lc_0, lc_1, rok_i, rok_b, rok_y, strF, fput_1, fput_2, csum_nil, csum_i, csum_l, csum_r, va_up_self, bx_uu, Int.reduceAdd, List.elem_nil, List.elem_cons, List.take_succ_cons, List.take_zero, List.drop_succ_cons, List.drop_zero, List.take_nil, List.drop_nil, List.reverse_cons, List.reverse_nil, List.nil_append, List.cons_append, List.append_nil, Option.toList_some, Option.toList_none, List.getElem?_cons_zero, List.getElem?_cons_succ, List.set_cons_zero, List.set_cons_succ, List.length_cons, List.length_nil, reduceIte, reduceCtorEq, and_true, true_and, and_self, or_true, true_or, false_and, and_false, not_true_eq_false, not_false_eq_true, true_implies, false_implies, implies_true, Nat.reduceAdd, Nat.reduceLT, Nat.reduceEqDiff, Nat.reduceLeDiff, Nat.reduceBEq, Nat.zero_add, Nat.lt_add_one, Bool.false_eq_true, Bool.or_false, Bool.or_true, Bool.or_self, Nat.zero_ne_one, Nat.one_ne_zero, ite_true, ite_false, ne_eq, Nat.reduceSub, Nat.succ_eq_add_one, Nat.zero_lt_succ, Nat.add_one_ne_zero, false_or, or_false, mX6_wants_c, mX6_wants_n, mX6_wants_r, mX6_wants_l, dX6_wants_0, dX6_wants_1, fl_6_10_6, dX6_wants_4, dX6_wants_5, dX6_wants_8, tg_8_10, cnd1_eq, dX6_wants_11, dX6_wants_12, dX6_wants_15, tg_15_5, cnd1_ne, dX6_wants_18, ic_m1, dX6_wants_19, dX6_wants_20, dX6_wants_21, dX6_wants_24, dX6_wants_25, dX6_wants_26, dX6_wants_29, jX6_wants_0_75, jX6_wants_1_79, jX6_wants_0_82, st_aload_n, st_getfield, st_iconst, st_ifCond, st_iload_n, st_invokestatic, st_invokevirtual, st_ireturn]
  refine ⟨fun c => ?_, fun c => ⟨fun d => ?_, fun d => ?_⟩⟩
  · rw [if_neg (fun z => by rw [c] at z; cases z.1)] at hk
    exact hk
  · rw [if_pos ⟨c, d⟩] at hk
    obtain ⟨q, hq, rfl⟩ := has_n hP c
    obtain ⟨r, hr, rfl⟩ := door_n d
    exact ⟨ix_in (by omega) hr, hk⟩
  · rw [if_neg (fun z => d z.2)] at hk
    exact hk
