/-! ===== YawnKeys: film, college ===== -/
def filI (s : CS) (lane : Int32) (it : Nat → Int64) (p d I : Nat) : Nat → Nat → Int64
  | 0 => it
  | j + 1 => vp_updL (filI s lane it p d I j) (I + j) (cutL lane ((daysC s (j + 1)).1 (ix (nI p) (nI d))).toInt64)
def okF (ψ : XS) (a b c d f : Int32) : Prop := inr a 0 (nI ψ.1.2.2.2.2.2.2.1 - 1) = true ∧ inr b 0 3 = true ∧ inr d 0 3 = true ∧ inr f 0 3 = true ∧ inr c 1 24 = true
/-- person, door, n, sheet, lane, i -/
def x_film (a b c d f e : Int32) : XS → XS → Int32 → Prop := fun ψ ψ' r => (¬ okF ψ a b c d f ∧ ψ' = ψ ∧ r = -1) ∨ (okF ψ a b c d f ∧ ((¬ rfz (ψ.2.2.2.2.2.2 d.toNatClampNeg).2.1 (ψ.2.2.2.2.2.2 d.toNatClampNeg).2.2 f e c = 0 ∧ ψ' = ψ ∧ r = rfz (ψ.2.2.2.2.2.2 d.toNatClampNeg).2.1 (ψ.2.2.2.2.2.2 d.toNatClampNeg).2.2 f e c) ∨ (rfz (ψ.2.2.2.2.2.2 d.toNatClampNeg).2.1 (ψ.2.2.2.2.2.2 d.toNatClampNeg).2.2 f e c = 0 ∧ r = c ∧ ∃ t, ψ' = setS ψ d.toNatClampNeg (filI (bec t ψ.1) (ψ.2.2.2.2.2.2 d.toNatClampNeg).2.1 (ψ.2.2.2.2.2.2 d.toNatClampNeg).1 a.toNatClampNeg b.toNatClampNeg e.toNatClampNeg c.toNatClampNeg, (ψ.2.2.2.2.2.2 d.toNatClampNeg).2))))
def sp_X6_film (Γ : Cx) : YSp := fun av σ K => ∃ (a b c d f e : Int32), xq Γ [.int a, .int b, .int c, .int d, .int f, .int e] (x_film a b c d f e) PXS av σ K
theorem rv_X6_film {Γ : Cx} : Recv (sp_X6_film Γ) 6 6 := by
  intro av σ K h
  obtain ⟨a, b, c, d, f, e, h⟩ := h
  obtain ⟨q, fs, h1, h2, h3⟩ := rv_xq h
  exact ⟨q, _, fs, h1, rfl, h2, h3⟩
theorem tg_8_36 : tgo 8 36 = some 44 := by decide
theorem tg_15_29 : tgo 15 29 = some 44 := by decide
theorem tg_23_21 : tgo 23 21 = some 44 := by decide
theorem tg_31_13 : tgo 31 13 = some 44 := by decide
theorem tg_41_5 : tgo 41 5 = some 46 := by decide
theorem tg_65_6 : tgo 65 6 = some 71 := by decide
theorem tg_88_41 : tgo 88 41 = some 129 := by decide
theorem tg_126_m41 : tgo 126 (-41) = some 85 := by decide
def mX6_film : Mt := (⟨4, 0, 0, 102⟩, RX6, cX6_film, 9, some .int, (0, 0), none)
theorem mX6_film_c : mX6_film.2.2.1 = cX6_film := rfl
theorem mX6_film_n : mX6_film.2.2.2.1 = 9 := rfl
theorem mX6_film_r : mX6_film.2.2.2.2.1 = some .int := rfl
theorem mX6_film_l : mX6_film.2.2.2.2.2.2 = none := rfl
def jX6_film (Γ : Cx) : List ((Nat × Nat) × Nat × Bool × YSp) := [((0, 75), 2, true, sp_X0_has Γ), ((1, 79), 1, true, sp_X6_isDoor Γ), ((1, 190), 1, true, sp_X6_isSheet Γ), ((1, 193), 1, true, sp_X6_isLane Γ), ((1, 57), 3, true, sp_X6_within Γ), ((0, 196), 4, true, sp_X4_refusal Γ), ((0, 124), 2, false, sp_X0_become Γ), ((0, 163), 1, false, sp_X0_passDay Γ), ((0, 82), 3, true, sp_X0_wantOf Γ), ((0, 208), 3, false, sp_X4_put Γ)]
theorem jX6_film_0_75 (Γ : Cx) : kT (jX6_film Γ) 0 75 = some (2, true, sp_X0_has Γ) := rfl
theorem jX6_film_1_79 (Γ : Cx) : kT (jX6_film Γ) 1 79 = some (1, true, sp_X6_isDoor Γ) := rfl
theorem jX6_film_1_190 (Γ : Cx) : kT (jX6_film Γ) 1 190 = some (1, true, sp_X6_isSheet Γ) := rfl
theorem jX6_film_1_193 (Γ : Cx) : kT (jX6_film Γ) 1 193 = some (1, true, sp_X6_isLane Γ) := rfl
theorem jX6_film_1_57 (Γ : Cx) : kT (jX6_film Γ) 1 57 = some (3, true, sp_X6_within Γ) := rfl
theorem jX6_film_0_196 (Γ : Cx) : kT (jX6_film Γ) 0 196 = some (4, true, sp_X4_refusal Γ) := rfl
theorem jX6_film_0_124 (Γ : Cx) : kT (jX6_film Γ) 0 124 = some (2, false, sp_X0_become Γ) := rfl
theorem jX6_film_0_163 (Γ : Cx) : kT (jX6_film Γ) 0 163 = some (1, false, sp_X0_passDay Γ) := rfl
theorem jX6_film_0_82 (Γ : Cx) : kT (jX6_film Γ) 0 82 = some (3, true, sp_X0_wantOf Γ) := rfl
theorem jX6_film_0_208 (Γ : Cx) : kT (jX6_film Γ) 0 208 = some (3, false, sp_X4_put Γ) := rfl
theorem uX6_film (Γ : Cx) : TbOK Γ mX6_film (fT fX6, cT kX6, kT (jX6_film Γ)) := tb_ok fX6_ok kX6_ok (all_cons ⟨call_V (n := 1) (T := TX0) (N := 9) (ok_X0_has Γ) (rv_X0_has (Γ := Γ)) rfl bw_265 bw_262 bw_263 bw_264 bw_44 no_X0_has ⟨⟨rfl, rfl⟩, ⟨by decide, by decide⟩, ⟨by decide, by decide⟩⟩, fun _ => mono_X0_has (Γ := Γ)⟩ (all_cons ⟨call_S (n := 1) (ok_X6_isDoor Γ) (rv_X6_isDoor (Γ := Γ)) bw_269 bw_267 bw_268 bw_42 no_X6_isDoor ⟨⟨rfl, rfl⟩, ⟨by decide, by decide⟩, ⟨by decide, by decide⟩⟩, fun _ => mono_X6_isDoor (Γ := Γ)⟩ (all_cons ⟨call_S (n := 1) (ok_X6_isSheet Γ) (rv_X6_isSheet (Γ := Γ)) bw_643 bw_641 bw_642 bw_42 no_X6_isSheet ⟨⟨rfl, rfl⟩, ⟨by decide, by decide⟩, ⟨by decide, by decide⟩⟩, fun _ => mono_X6_isSheet (Γ := Γ)⟩ (all_cons ⟨call_S (n := 1) (ok_X6_isLane Γ) (rv_X6_isLane (Γ := Γ)) bw_646 bw_644 bw_645 bw_42 no_X6_isLane ⟨⟨rfl, rfl⟩, ⟨by decide, by decide⟩, ⟨by decide, by decide⟩⟩, fun _ => mono_X6_isLane (Γ := Γ)⟩ (all_cons ⟨call_S (n := 3) (ok_X6_within Γ) (rv_X6_within (Γ := Γ)) bw_241 bw_239 bw_240 bw_42 no_X6_within ⟨⟨rfl, rfl⟩, ⟨by decide, by decide⟩, ⟨by decide, by decide⟩⟩, fun _ => mono_X6_within (Γ := Γ)⟩ (all_cons ⟨call_V (n := 3) (T := TX4) (N := 3) (ok_X4_refusal Γ) (rv_X4_refusal (Γ := Γ)) rfl bw_650 bw_647 bw_648 bw_649 bw_48 no_X4_refusal ⟨⟨rfl, rfl⟩, ⟨by decide, by decide⟩, ⟨by decide, by decide⟩⟩, fun _ => mono_X4_refusal (Γ := Γ)⟩ (all_cons ⟨call_V (n := 1) (T := TX0) (N := 9) (ok_X0_become Γ) (rv_X0_become (Γ := Γ)) rfl bw_451 bw_448 bw_449 bw_450 bw_44 no_X0_become ⟨⟨rfl, rfl⟩, ⟨by decide, by decide⟩, ⟨by decide, by decide⟩⟩, fun z => by cases z⟩ (all_cons ⟨call_V (n := 0) (T := TX0) (N := 9) (ok_X0_passDay Γ) (rv_X0_passDay (Γ := Γ)) rfl bw_517 bw_514 bw_515 bw_516 bw_44 no_X0_passDay ⟨⟨rfl, rfl⟩, ⟨by decide, by decide⟩, ⟨by decide, by decide⟩⟩, fun z => by cases z⟩ (all_cons ⟨call_V (n := 2) (T := TX0) (N := 9) (ok_X0_wantOf Γ) (rv_X0_wantOf (Γ := Γ)) rfl bw_273 bw_270 bw_271 bw_272 bw_44 no_X0_wantOf ⟨⟨rfl, rfl⟩, ⟨by decide, by decide⟩, ⟨by decide, by decide⟩⟩, fun _ => mono_X0_wantOf (Γ := Γ)⟩ (all_cons ⟨call_V (n := 2) (T := TX4) (N := 3) (ok_X4_put Γ) (rv_X4_put (Γ := Γ)) rfl bw_677 bw_674 bw_675 bw_676 bw_48 no_X4_put ⟨⟨rfl, rfl⟩, ⟨by decide, by decide⟩, ⟨by decide, by decide⟩⟩, fun z => by cases z⟩ (all_nil)))))))))))
theorem updS_updS {ss : Nat → SS} {j : Nat} {s s' : SS} : updS (updS ss j s) j s' = updS ss j s' := by
  funext k
  unfold updS
  by_cases e : k = j <;> simp [e]
theorem updS_self {ss : Nat → SS} {j : Nat} : updS ss j (ss j) = ss := by
  funext k
  unfold updS
  by_cases e : k = j
  · simp [e]
  · simp [e]
theorem updS_at {ss : Nat → SS} {j : Nat} {s : SS} : updS ss j s j = s := by unfold updS; simp
set_option maxRecDepth 20000 in
theorem ok_X6_film (Γ : Cx) : Ok Γ yX6_film mX6_film (sp_X6_film Γ) := by
  refine ok_intro (by decide +kernel) rfl rfl ?_
  intro av σ K h
  obtain ⟨a, b, c, d, f, e, lab, X, ψ, rfl, hW, hpre, h⟩ := h
  obtain ⟨x, sh, ⟨n0, n1, n2, n3⟩, ⟨t0, t1, t2, t3⟩, p, ⟨i0, i1, i2, i3⟩, ip, ⟨ta, tl⟩, ⟨pa, pk⟩, S⟩ := X
  obtain ⟨⟨w, kp, kd, day, gone, draw, P, rule, gd⟩, si, ⟨pc, pn⟩, ⟨qc, qn⟩, hi, ⟨l, len⟩, ss⟩ := ψ
  have hW0 := hW
  obtain ⟨⟨x1, x2, x3, x4⟩, x5, ⟨sf, x6, x7⟩, ⟨cN, lN⟩, ⟨⟨t, cT⟩, lT⟩, pP, ⟨cI, lI⟩, pI, ⟨⟨pl, tT⟩, lTp, hlen⟩, ⟨⟨pls, pPl⟩, lPl⟩, hS⟩ := hW
  simp only at cN lN cT lT pP cI lI pI tT lTp hlen pPl lPl hS x6 x7
  obtain ⟨⟨m1, m2, m3, m4⟩, e1, e2, e3, e4⟩ := id cN
  simp only [XE, ColE, iA] at x1 x2 x5 m1 m2 m3 m4 e1 e2 e3 e4
  have hP := hpre.1.1
  simp only at hP
  have hno : ¬ okF ((w, kp, kd, day, gone, draw, P, rule, gd), si, (pc, pn), (qc, qn), hi, (l, len), ss) a b c d f → K (some (.int (-1))) σ := fun z => h σ _ _ (Or.inl ⟨z, rfl, rfl⟩) frm.rf hW0
  have go : okF ((w, kp, kd, day, gone, draw, P, rule, gd), si, (pc, pn), (qc, qn), hi, (l, len), ss) a b c d f → YG Γ mX6_film K 46 [(0, .ref x), (1, .int a), (2, .int b), (3, .int c), (4, .int d), (5, .int f), (6, .int e)] [] σ := by
    intro hok
    have h2 := fun σ' ψ' r hr hf hW' => h σ' ψ' r (Or.inr ⟨hok, hr⟩) hf hW'
    obtain ⟨o1, o2, o3, o4, o5⟩ := hok
    obtain ⟨pp, hpp, rfl⟩ := has_n hP o1
    obtain ⟨dd, hdd, rfl⟩ := door_n o2
    obtain ⟨q, hq, rfl⟩ := door_n o3
    obtain ⟨d2, d3⟩ := in4q hq
    obtain ⟨hS1, hl1⟩ := hS q hq
    have hx7 := x7 q hq
    have hss := hpre.2 q hq
    obtain ⟨⟨v1, v2⟩, f1, f2⟩ := id hS1
    simp only [ShE, shA] at f1 x6
    simp only [d3] at h2 hss
    refine yvc_ok (uX6_film Γ) (S := [85]) 60 _ _ _ _ ?_
    simp only [x1, x2, x5, x6, d2, d3, hx7, v1, f1, sp_X4_refusal, yvc_s, s1i, s2i, s1l, s2l, sil, s1r, sir, siir, slir, srir, svr, sd1, sd2, lg, lput, ldel, isL_i, isL_r, isL_l, jmp, obj, obj1, fI, fR, arI, arL, arR, hput, f4_0, f4_1, f4_2, f4_3, lc_0, lc_1, rok_i, rok_b, rok_y, strF, fput_1, fput_2, csum_nil, csum_i, csum_l, csum_r, va_up_self, bx_uu, Int.reduceAdd, List.elem_nil, List.elem_cons, List.take_succ_cons, List.take_zero, List.drop_succ_cons, List.drop_zero, List.take_nil, List.drop_nil, List.reverse_cons, List.reverse_nil, List.nil_append, List.cons_append, List.append_nil, Option.toList_some, Option.toList_none, List.getElem?_cons_zero, List.getElem?_cons_succ, List.set_cons_zero, List.set_cons_succ, List.length_cons, List.length_nil, reduceIte, reduceCtorEq, and_true, true_and, and_self, or_true, true_or, false_and, and_false, not_true_eq_false, not_false_eq_true, true_implies, false_implies, implies_true, Nat.reduceAdd, Nat.reduceLT, Nat.reduceEqDiff, Nat.reduceLeDiff, Nat.reduceBEq, Nat.zero_add, Nat.lt_add_one, Bool.false_eq_true, Bool.or_false, Bool.or_true, Bool.or_self, Nat.zero_ne_one, Nat.one_ne_zero, ite_true, ite_false, ne_eq, Nat.reduceSub, Nat.succ_eq_add_one, Nat.zero_lt_succ, Nat.add_one_ne_zero, false_or, or_false, mX6_film_c, mX6_film_n, mX6_film_r, mX6_film_l, dX6_film_0, dX6_film_1, fl_6_10_6, dX6_film_4, dX6_film_5, dX6_film_8, tg_8_36, cnd1_eq, dX6_film_11, dX6_film_12, dX6_film_15, tg_15_29, dX6_film_18, dX6_film_20, dX6_film_23, tg_23_21, dX6_film_26, dX6_film_28, dX6_film_31, tg_31_13, dX6_film_34, dX6_film_35, ic_1, dX6_film_36, bc_24, dX6_film_38, dX6_film_41, tg_41_5, cnd1_ne, dX6_film_44, ic_m1, dX6_film_45, dX6_film_46, dX6_film_47, fl_6_53_6, dX6_film_50, dX6_film_52, dX6_film_53, dX6_film_55, dX6_film_57, dX6_film_58, dX6_film_61, dX6_film_63, dX6_film_65, tg_65_6, dX6_film_68, dX6_film_70, dX6_film_71, dX6_film_72, fl_6_16_6, dX6_film_75, dX6_film_76, dX6_film_79, dX6_film_82, ic_0, dX6_film_83, dX6_film_85, dX6_film_87, dX6_film_88, tg_88_41, cnd2_ge, dX6_film_91, dX6_film_92, dX6_film_95, dX6_film_98, dX6_film_99, dX6_film_102, dX6_film_104, dX6_film_105, dX6_film_107, dX6_film_109, dX6_film_110, dX6_film_111, dX6_film_114, dX6_film_115, dX6_film_116, dX6_film_119, dX6_film_120, dX6_film_123, dX6_film_126, tg_126_m41, dX6_film_129, dX6_film_130, jX6_film_0_75, jX6_film_1_79, jX6_film_1_190, jX6_film_1_193, jX6_film_1_57, jX6_film_0_196, jX6_film_0_124, jX6_film_0_163, jX6_film_0_82, jX6_film_0_208, st_aaload, st_aload_n, st_bipush, st_getfield, st_goto, st_i2l, st_iadd, st_iconst, st_ifCond, st_if_icmp, st_iinc, st_iload, st_iload_n, st_invokestatic, st_invokevirtual, st_ireturn, st_istore]
    refine ⟨fun c3 => ?_, fun c3 => h2 σ _ _ (Or.inl ⟨c3, rfl, rfl⟩) frm.rf hW0⟩
    obtain ⟨r1, r2, r3⟩ := rfz_0 c3
    obtain ⟨I, N, k, rfl, rfl, e8, e9, e10⟩ := span_n hss r1 r3
    have h3 := fun σ' t hf hW' => h2 σ' _ _ (Or.inr ⟨c3, rfl, t, rfl⟩) hf hW'
    rw [nI_clamp (show I < 2 ^ 31 by omega), nI_clamp (show N < 2 ^ 31 by omega), nI_clamp (show pp < 2 ^ 31 by omega), nI_clamp (show dd < 2 ^ 31 by omega)] at h3
    unfold setS at h3
    clear h2 h
    simp only at h3
    refine ⟨(t0, t1, t2, t3), (n0, n1, n2, n3), t, _, rfl, ap_lab lT lN (by decide), cT, cN, ?_⟩
    have hwf := bec_wf (t := t) hpre.1
    have hC0 := cT.set (bec t (w, kp, kd, day, gone, draw, P, rule, gd))
    have hW1 := hW0.sT (csetL (Γ := Γ) lT) ⟨_, hC0⟩
    have hf0 : frm (fX lab) σ (cset Γ (t0, t1, t2, t3) (bec t (w, kp, kd, day, gone, draw, P, rule, gd)) σ) := frmX (csetL lT) (by decide)
    have h4 := fun σ' hf hW' => h3 σ' t hf hW'
    simp only at hwf
    generalize cset Γ (t0, t1, t2, t3) (bec t (w, kp, kd, day, gone, draw, P, rule, gd)) σ = σ0 at hC0 hW1 hf0 ⊢
    generalize bec t (w, kp, kd, day, gone, draw, P, rule, gd) = s0 at hC0 hwf h4
    have loop : ∀ m j : Nat, ∀ σ1 : Hp, j + m = N → frm (fX lab) σ σ1 → XW Γ lab (x, sh, (n0, n1, n2, n3), (t0, t1, t2, t3), p, (i0, i1, i2, i3), ip, (ta, tl), (pa, pk), S) ((w, kp, kd, day, gone, draw, P, rule, gd), si, (pc, pn), (qc, qn), hi, (l, len), updS ss q (filI s0 (ss q).2.1 (ss q).1 pp dd I j, (ss q).2)) σ1 → Col Γ (t0, t1, t2, t3) (daysC s0 j) σ1 → YG Γ mX6_film K 85 [(0, .ref x), (1, .int (nI pp)), (2, .int (nI dd)), (3, .int (nI N)), (4, .int (nI q)), (5, .int f), (6, .int (nI I)), (7, .int (rfz (ss q).2.1 (ss q).2.2 f (nI I) (nI N))), (8, .int (nI j))] [] σ1 := by
      intro m
      induction m with
      | zero =>
        intro j σ1 hj hf1 hWj hC1
        obtain rfl : j = N := by omega
        have hk := h4 σ1 hf1 hWj
        refine yvc1_ok (uX6_film Γ) (S := [85]) 40 ?_
        simp only [yvc1, geP, yvc_s, s1i, s2i, s1l, s2l, sil, s1r, sir, siir, slir, srir, svr, sd1, sd2, lg, lput, ldel, isL_i, isL_r, isL_l, jmp, obj, obj1, fI, fR, arI, arL, arR, hput, f4_0, f4_1, f4_2, f4_3, lc_0, lc_1, rok_i, rok_b, rok_y, strF, fput_1, fput_2, csum_nil, csum_i, csum_l, csum_r, va_up_self, bx_uu, Int.reduceAdd, List.elem_nil, List.elem_cons, List.take_succ_cons, List.take_zero, List.drop_succ_cons, List.drop_zero, List.take_nil, List.drop_nil, List.reverse_cons, List.reverse_nil, List.nil_append, List.cons_append, List.append_nil, Option.toList_some, Option.toList_none, List.getElem?_cons_zero, List.getElem?_cons_succ, List.set_cons_zero, List.set_cons_succ, List.length_cons, List.length_nil, reduceIte, reduceCtorEq, and_true, true_and, and_self, or_true, true_or, false_and, and_false, not_true_eq_false, not_false_eq_true, true_implies, false_implies, implies_true, Nat.reduceAdd, Nat.reduceLT, Nat.reduceEqDiff, Nat.reduceLeDiff, Nat.reduceBEq, Nat.zero_add, Nat.lt_add_one, Bool.false_eq_true, Bool.or_false, Bool.or_true, Bool.or_self, Nat.zero_ne_one, Nat.one_ne_zero, ite_true, ite_false, ne_eq, Nat.reduceSub, Nat.succ_eq_add_one, Nat.zero_lt_succ, Nat.add_one_ne_zero, false_or, or_false, mX6_film_c, mX6_film_n, mX6_film_r, mX6_film_l, dX6_film_0, dX6_film_1, fl_6_10_6, dX6_film_4, dX6_film_5, dX6_film_8, tg_8_36, cnd1_eq, dX6_film_11, dX6_film_12, dX6_film_15, tg_15_29, dX6_film_18, dX6_film_20, dX6_film_23, tg_23_21, dX6_film_26, dX6_film_28, dX6_film_31, tg_31_13, dX6_film_34, dX6_film_35, ic_1, dX6_film_36, bc_24, dX6_film_38, dX6_film_41, tg_41_5, cnd1_ne, dX6_film_44, ic_m1, dX6_film_45, dX6_film_46, dX6_film_47, fl_6_53_6, dX6_film_50, dX6_film_52, dX6_film_53, dX6_film_55, dX6_film_57, dX6_film_58, dX6_film_61, dX6_film_63, dX6_film_65, tg_65_6, dX6_film_68, dX6_film_70, dX6_film_71, dX6_film_72, fl_6_16_6, dX6_film_75, dX6_film_76, dX6_film_79, dX6_film_82, ic_0, dX6_film_83, dX6_film_85, dX6_film_87, dX6_film_88, tg_88_41, cnd2_ge, dX6_film_91, dX6_film_92, dX6_film_95, dX6_film_98, dX6_film_99, dX6_film_102, dX6_film_104, dX6_film_105, dX6_film_107, dX6_film_109, dX6_film_110, dX6_film_111, dX6_film_114, dX6_film_115, dX6_film_116, dX6_film_119, dX6_film_120, dX6_film_123, dX6_film_126, tg_126_m41, dX6_film_129, dX6_film_130, jX6_film_0_75, jX6_film_1_79, jX6_film_1_190, jX6_film_1_193, jX6_film_1_57, jX6_film_0_196, jX6_film_0_124, jX6_film_0_163, jX6_film_0_82, jX6_film_0_208, st_aaload, st_aload_n, st_bipush, st_getfield, st_goto, st_i2l, st_iadd, st_iconst, st_ifCond, st_if_icmp, st_iinc, st_iload, st_iload_n, st_invokestatic, st_invokevirtual, st_ireturn, st_istore]
        exact hk
      | succ m ih =>
        intro j σ1 hj hf1 hWj hC1
        have g0 := ltN (show j < N by omega) (by omega)
        have hwj := (daysC_wf hwf j).1
        obtain ⟨⟨y1, -⟩, y5, -⟩ := id hWj
        simp only [XE] at y1 y5
        refine yvc1_ok (uX6_film Γ) (S := [85]) 40 ?_
        simp only [yvc1, g0, y1, y5, yvc_s, s1i, s2i, s1l, s2l, sil, s1r, sir, siir, slir, srir, svr, sd1, sd2, lg, lput, ldel, isL_i, isL_r, isL_l, jmp, obj, obj1, fI, fR, arI, arL, arR, hput, f4_0, f4_1, f4_2, f4_3, lc_0, lc_1, rok_i, rok_b, rok_y, strF, fput_1, fput_2, csum_nil, csum_i, csum_l, csum_r, va_up_self, bx_uu, Int.reduceAdd, List.elem_nil, List.elem_cons, List.take_succ_cons, List.take_zero, List.drop_succ_cons, List.drop_zero, List.take_nil, List.drop_nil, List.reverse_cons, List.reverse_nil, List.nil_append, List.cons_append, List.append_nil, Option.toList_some, Option.toList_none, List.getElem?_cons_zero, List.getElem?_cons_succ, List.set_cons_zero, List.set_cons_succ, List.length_cons, List.length_nil, reduceIte, reduceCtorEq, and_true, true_and, and_self, or_true, true_or, false_and, and_false, not_true_eq_false, not_false_eq_true, true_implies, false_implies, implies_true, Nat.reduceAdd, Nat.reduceLT, Nat.reduceEqDiff, Nat.reduceLeDiff, Nat.reduceBEq, Nat.zero_add, Nat.lt_add_one, Bool.false_eq_true, Bool.or_false, Bool.or_true, Bool.or_self, Nat.zero_ne_one, Nat.one_ne_zero, ite_true, ite_false, ne_eq, Nat.reduceSub, Nat.succ_eq_add_one, Nat.zero_lt_succ, Nat.add_one_ne_zero, false_or, or_false, mX6_film_c, mX6_film_n, mX6_film_r, mX6_film_l, dX6_film_0, dX6_film_1, fl_6_10_6, dX6_film_4, dX6_film_5, dX6_film_8, tg_8_36, cnd1_eq, dX6_film_11, dX6_film_12, dX6_film_15, tg_15_29, dX6_film_18, dX6_film_20, dX6_film_23, tg_23_21, dX6_film_26, dX6_film_28, dX6_film_31, tg_31_13, dX6_film_34, dX6_film_35, ic_1, dX6_film_36, bc_24, dX6_film_38, dX6_film_41, tg_41_5, cnd1_ne, dX6_film_44, ic_m1, dX6_film_45, dX6_film_46, dX6_film_47, fl_6_53_6, dX6_film_50, dX6_film_52, dX6_film_53, dX6_film_55, dX6_film_57, dX6_film_58, dX6_film_61, dX6_film_63, dX6_film_65, tg_65_6, dX6_film_68, dX6_film_70, dX6_film_71, dX6_film_72, fl_6_16_6, dX6_film_75, dX6_film_76, dX6_film_79, dX6_film_82, ic_0, dX6_film_83, dX6_film_85, dX6_film_87, dX6_film_88, tg_88_41, cnd2_ge, dX6_film_91, dX6_film_92, dX6_film_95, dX6_film_98, dX6_film_99, dX6_film_102, dX6_film_104, dX6_film_105, dX6_film_107, dX6_film_109, dX6_film_110, dX6_film_111, dX6_film_114, dX6_film_115, dX6_film_116, dX6_film_119, dX6_film_120, dX6_film_123, dX6_film_126, tg_126_m41, dX6_film_129, dX6_film_130, jX6_film_0_75, jX6_film_1_79, jX6_film_1_190, jX6_film_1_193, jX6_film_1_57, jX6_film_0_196, jX6_film_0_124, jX6_film_0_163, jX6_film_0_82, jX6_film_0_208, st_aaload, st_aload_n, st_bipush, st_getfield, st_goto, st_i2l, st_iadd, st_iconst, st_ifCond, st_if_icmp, st_iinc, st_iload, st_iload_n, st_invokestatic, st_invokevirtual, st_ireturn, st_istore]
        refine ⟨(t0, t1, t2, t3), _, rfl, hwj, hC1, ?_⟩
        rw [← daysC]
        have hC2 := hC1.set (daysC s0 (j + 1))
        have hW2 := hWj.sT (csetL (Γ := Γ) lT) ⟨_, hC2⟩
        have hf2 : frm (fX lab) σ (cset Γ (t0, t1, t2, t3) (daysC s0 (j + 1)) σ1) := hf1.tr (frmX (csetL lT) (by decide))
        have hfil : filI s0 (ss q).2.1 (ss q).1 pp dd I (j + 1) = vp_updL (filI s0 (ss q).2.1 (ss q).1 pp dd I j) (I + j) (cutL (ss q).2.1 ((daysC s0 (j + 1)).1 (ix (nI pp) (nI dd))).toInt64) := rfl
        have hi2 := fun σ3 hf3 hW3 hC3 => ih (j + 1) σ3 (by omega) hf3 hW3 hC3
        rw [hfil] at hi2
        generalize cset Γ (t0, t1, t2, t3) (daysC s0 (j + 1)) σ1 = σ2 at hC2 hW2 hf2 ⊢
        generalize daysC s0 (j + 1) = s2 at hC2 hi2
        obtain ⟨w1, kp1, kd1, day1, gone1, draw1, P1, rule1, gd1⟩ := s2
        obtain ⟨⟨z1, z2, -⟩, z5, ⟨sf2, z6, z7⟩, -, -, -, -, -, -, -, hS2⟩ := id hW2
        have hz7 := z7 q hq
        obtain ⟨hSq, -⟩ := hS2 q hq
        simp only [updS_at] at hSq
        obtain ⟨⟨u1, u2, u3, u4⟩, g1, g2, g3, g4⟩ := id hC2
        simp only [XE, shA, ColE, iA] at z1 z2 z5 z6 hz7 u1 u2 g1 g2
        refine yvc_ok (uX6_film Γ) (S := [85]) 40 _ _ _ _ ?_
        simp only [z1, z2, z5, z6, hz7, u1, u2, g1, g2, d2, d3, sp_X0_wantOf, nI_add, yvc_s, s1i, s2i, s1l, s2l, sil, s1r, sir, siir, slir, srir, svr, sd1, sd2, lg, lput, ldel, isL_i, isL_r, isL_l, jmp, obj, obj1, fI, fR, arI, arL, arR, hput, f4_0, f4_1, f4_2, f4_3, lc_0, lc_1, rok_i, rok_b, rok_y, strF, fput_1, fput_2, csum_nil, csum_i, csum_l, csum_r, va_up_self, bx_uu, Int.reduceAdd, List.elem_nil, List.elem_cons, List.take_succ_cons, List.take_zero, List.drop_succ_cons, List.drop_zero, List.take_nil, List.drop_nil, List.reverse_cons, List.reverse_nil, List.nil_append, List.cons_append, List.append_nil, Option.toList_some, Option.toList_none, List.getElem?_cons_zero, List.getElem?_cons_succ, List.set_cons_zero, List.set_cons_succ, List.length_cons, List.length_nil, reduceIte, reduceCtorEq, and_true, true_and, and_self, or_true, true_or, false_and, and_false, not_true_eq_false, not_false_eq_true, true_implies, false_implies, implies_true, Nat.reduceAdd, Nat.reduceLT, Nat.reduceEqDiff, Nat.reduceLeDiff, Nat.reduceBEq, Nat.zero_add, Nat.lt_add_one, Bool.false_eq_true, Bool.or_false, Bool.or_true, Bool.or_self, Nat.zero_ne_one, Nat.one_ne_zero, ite_true, ite_false, ne_eq, Nat.reduceSub, Nat.succ_eq_add_one, Nat.zero_lt_succ, Nat.add_one_ne_zero, false_or, or_false, mX6_film_c, mX6_film_n, mX6_film_r, mX6_film_l, dX6_film_0, dX6_film_1, fl_6_10_6, dX6_film_4, dX6_film_5, dX6_film_8, tg_8_36, cnd1_eq, dX6_film_11, dX6_film_12, dX6_film_15, tg_15_29, dX6_film_18, dX6_film_20, dX6_film_23, tg_23_21, dX6_film_26, dX6_film_28, dX6_film_31, tg_31_13, dX6_film_34, dX6_film_35, ic_1, dX6_film_36, bc_24, dX6_film_38, dX6_film_41, tg_41_5, cnd1_ne, dX6_film_44, ic_m1, dX6_film_45, dX6_film_46, dX6_film_47, fl_6_53_6, dX6_film_50, dX6_film_52, dX6_film_53, dX6_film_55, dX6_film_57, dX6_film_58, dX6_film_61, dX6_film_63, dX6_film_65, tg_65_6, dX6_film_68, dX6_film_70, dX6_film_71, dX6_film_72, fl_6_16_6, dX6_film_75, dX6_film_76, dX6_film_79, dX6_film_82, ic_0, dX6_film_83, dX6_film_85, dX6_film_87, dX6_film_88, tg_88_41, cnd2_ge, dX6_film_91, dX6_film_92, dX6_film_95, dX6_film_98, dX6_film_99, dX6_film_102, dX6_film_104, dX6_film_105, dX6_film_107, dX6_film_109, dX6_film_110, dX6_film_111, dX6_film_114, dX6_film_115, dX6_film_116, dX6_film_119, dX6_film_120, dX6_film_123, dX6_film_126, tg_126_m41, dX6_film_129, dX6_film_130, jX6_film_0_75, jX6_film_1_79, jX6_film_1_190, jX6_film_1_193, jX6_film_1_57, jX6_film_0_196, jX6_film_0_124, jX6_film_0_163, jX6_film_0_82, jX6_film_0_208, st_aaload, st_aload_n, st_bipush, st_getfield, st_goto, st_i2l, st_iadd, st_iconst, st_ifCond, st_if_icmp, st_iinc, st_iload, st_iload_n, st_invokestatic, st_invokevirtual, st_ireturn, st_istore]
        refine ⟨ix_in (by omega) hdd, S q, _, I + j, _, rfl, by omega, hSq, ?_⟩
        have hf3 : frm (fL lab (8 + q)) σ2 (shset Γ (S q) (vp_updL (filI s0 (ss q).2.1 (ss q).1 pp dd I j) (I + j) (cutL (ss q).2.1 (w1 (ix (nI pp) (nI dd))).toInt64), (ss q).2) σ2) := shset_frm.mono hl1
        have hW3 := hW2.sS hq hf3 (hSq.set (vp_updL (filI s0 (ss q).2.1 (ss q).1 pp dd I j) (I + j) (cutL (ss q).2.1 (w1 (ix (nI pp) (nI dd))).toInt64), (ss q).2))
        simp only [updS_updS] at hW3
        have hC3 := keepC (J := fun k => k = 8 + q) hC2 lT hf3 (by omega)
        have hy := hi2 _ (hf2.tr (frmX hf3 (by omega))) hW3 hC3
        refine yvc_ok (uX6_film Γ) (S := [85]) 40 _ _ _ _ ?_
        simp only [nI_1, yvc_s, s1i, s2i, s1l, s2l, sil, s1r, sir, siir, slir, srir, svr, sd1, sd2, lg, lput, ldel, isL_i, isL_r, isL_l, jmp, obj, obj1, fI, fR, arI, arL, arR, hput, f4_0, f4_1, f4_2, f4_3, lc_0, lc_1, rok_i, rok_b, rok_y, strF, fput_1, fput_2, csum_nil, csum_i, csum_l, csum_r, va_up_self, bx_uu, Int.reduceAdd, List.elem_nil, List.elem_cons, List.take_succ_cons, List.take_zero, List.drop_succ_cons, List.drop_zero, List.take_nil, List.drop_nil, List.reverse_cons, List.reverse_nil, List.nil_append, List.cons_append, List.append_nil, Option.toList_some, Option.toList_none, List.getElem?_cons_zero, List.getElem?_cons_succ, List.set_cons_zero, List.set_cons_succ, List.length_cons, List.length_nil, reduceIte, reduceCtorEq, and_true, true_and, and_self, or_true, true_or, false_and, and_false, not_true_eq_false, not_false_eq_true, true_implies, false_implies, implies_true, Nat.reduceAdd, Nat.reduceLT, Nat.reduceEqDiff, Nat.reduceLeDiff, Nat.reduceBEq, Nat.zero_add, Nat.lt_add_one, Bool.false_eq_true, Bool.or_false, Bool.or_true, Bool.or_self, Nat.zero_ne_one, Nat.one_ne_zero, ite_true, ite_false, ne_eq, Nat.reduceSub, Nat.succ_eq_add_one, Nat.zero_lt_succ, Nat.add_one_ne_zero, false_or, or_false, mX6_film_c, mX6_film_n, mX6_film_r, mX6_film_l, dX6_film_0, dX6_film_1, fl_6_10_6, dX6_film_4, dX6_film_5, dX6_film_8, tg_8_36, cnd1_eq, dX6_film_11, dX6_film_12, dX6_film_15, tg_15_29, dX6_film_18, dX6_film_20, dX6_film_23, tg_23_21, dX6_film_26, dX6_film_28, dX6_film_31, tg_31_13, dX6_film_34, dX6_film_35, ic_1, dX6_film_36, bc_24, dX6_film_38, dX6_film_41, tg_41_5, cnd1_ne, dX6_film_44, ic_m1, dX6_film_45, dX6_film_46, dX6_film_47, fl_6_53_6, dX6_film_50, dX6_film_52, dX6_film_53, dX6_film_55, dX6_film_57, dX6_film_58, dX6_film_61, dX6_film_63, dX6_film_65, tg_65_6, dX6_film_68, dX6_film_70, dX6_film_71, dX6_film_72, fl_6_16_6, dX6_film_75, dX6_film_76, dX6_film_79, dX6_film_82, ic_0, dX6_film_83, dX6_film_85, dX6_film_87, dX6_film_88, tg_88_41, cnd2_ge, dX6_film_91, dX6_film_92, dX6_film_95, dX6_film_98, dX6_film_99, dX6_film_102, dX6_film_104, dX6_film_105, dX6_film_107, dX6_film_109, dX6_film_110, dX6_film_111, dX6_film_114, dX6_film_115, dX6_film_116, dX6_film_119, dX6_film_120, dX6_film_123, dX6_film_126, tg_126_m41, dX6_film_129, dX6_film_130, jX6_film_0_75, jX6_film_1_79, jX6_film_1_190, jX6_film_1_193, jX6_film_1_57, jX6_film_0_196, jX6_film_0_124, jX6_film_0_163, jX6_film_0_82, jX6_film_0_208, st_aaload, st_aload_n, st_bipush, st_getfield, st_goto, st_i2l, st_iadd, st_iconst, st_ifCond, st_if_icmp, st_iinc, st_iload, st_iload_n, st_invokestatic, st_invokevirtual, st_ireturn, st_istore]
        exact hy
    have hl2 := loop N 0 σ0 (by omega) hf0 (by
      have e0 : updS ss q (filI s0 (ss q).2.1 (ss q).1 pp dd I 0, (ss q).2) = ss := updS_self
      rw [e0]
      exact hW1) hC0
    refine yvc_ok (uX6_film Γ) (S := [85]) 60 _ _ _ _ ?_
    simp only [yvc_s, s1i, s2i, s1l, s2l, sil, s1r, sir, siir, slir, srir, svr, sd1, sd2, lg, lput, ldel, isL_i, isL_r, isL_l, jmp, obj, obj1, fI, fR, arI, arL, arR, hput, f4_0, f4_1, f4_2, f4_3, lc_0, lc_1, rok_i, rok_b, rok_y, strF, fput_1, fput_2, csum_nil, csum_i, csum_l, csum_r, va_up_self, bx_uu, Int.reduceAdd, List.elem_nil, List.elem_cons, List.take_succ_cons, List.take_zero, List.drop_succ_cons, List.drop_zero, List.take_nil, List.drop_nil, List.reverse_cons, List.reverse_nil, List.nil_append, List.cons_append, List.append_nil, Option.toList_some, Option.toList_none, List.getElem?_cons_zero, List.getElem?_cons_succ, List.set_cons_zero, List.set_cons_succ, List.length_cons, List.length_nil, reduceIte, reduceCtorEq, and_true, true_and, and_self, or_true, true_or, false_and, and_false, not_true_eq_false, not_false_eq_true, true_implies, false_implies, implies_true, Nat.reduceAdd, Nat.reduceLT, Nat.reduceEqDiff, Nat.reduceLeDiff, Nat.reduceBEq, Nat.zero_add, Nat.lt_add_one, Bool.false_eq_true, Bool.or_false, Bool.or_true, Bool.or_self, Nat.zero_ne_one, Nat.one_ne_zero, ite_true, ite_false, ne_eq, Nat.reduceSub, Nat.succ_eq_add_one, Nat.zero_lt_succ, Nat.add_one_ne_zero, false_or, or_false, mX6_film_c, mX6_film_n, mX6_film_r, mX6_film_l, dX6_film_0, dX6_film_1, fl_6_10_6, dX6_film_4, dX6_film_5, dX6_film_8, tg_8_36, cnd1_eq, dX6_film_11, dX6_film_12, dX6_film_15, tg_15_29, dX6_film_18, dX6_film_20, dX6_film_23, tg_23_21, dX6_film_26, dX6_film_28, dX6_film_31, tg_31_13, dX6_film_34, dX6_film_35, ic_1, dX6_film_36, bc_24, dX6_film_38, dX6_film_41, tg_41_5, cnd1_ne, dX6_film_44, ic_m1, dX6_film_45, dX6_film_46, dX6_film_47, fl_6_53_6, dX6_film_50, dX6_film_52, dX6_film_53, dX6_film_55, dX6_film_57, dX6_film_58, dX6_film_61, dX6_film_63, dX6_film_65, tg_65_6, dX6_film_68, dX6_film_70, dX6_film_71, dX6_film_72, fl_6_16_6, dX6_film_75, dX6_film_76, dX6_film_79, dX6_film_82, ic_0, dX6_film_83, dX6_film_85, dX6_film_87, dX6_film_88, tg_88_41, cnd2_ge, dX6_film_91, dX6_film_92, dX6_film_95, dX6_film_98, dX6_film_99, dX6_film_102, dX6_film_104, dX6_film_105, dX6_film_107, dX6_film_109, dX6_film_110, dX6_film_111, dX6_film_114, dX6_film_115, dX6_film_116, dX6_film_119, dX6_film_120, dX6_film_123, dX6_film_126, tg_126_m41, dX6_film_129, dX6_film_130, jX6_film_0_75, jX6_film_1_79, jX6_film_1_190, jX6_film_1_193, jX6_film_1_57, jX6_film_0_196, jX6_film_0_124, jX6_film_0_163, jX6_film_0_82, jX6_film_0_208, st_aaload, st_aload_n, st_bipush, st_getfield, st_goto, st_i2l, st_iadd, st_iconst, st_ifCond, st_if_icmp, st_iinc, st_iload, st_iload_n, st_invokestatic, st_invokevirtual, st_ireturn, st_istore]
    exact hl2
  refine ⟨Nat.le_of_ble_eq_true rfl, yvc_ok (uX6_film Γ) (S := [46]) 60 _ _ _ _ ?_⟩
  simp only [lv_args, Value.category, x1, x5, m1, e1, sp_X6_isSheet, sp_X6_isLane, sp_X6_isDoor, sp_X6_within, sp_X0_has, bI_eq0, Bool.not_eq_false, yvc_s, s1i, s2i, s1l, s2l, sil, s1r, sir, siir, slir, srir, svr, sd1, sd2, lg, lput, ldel, isL_i, isL_r, isL_l, jmp, obj, obj1, fI, fR, arI, arL, arR, hput, f4_0, f4_1, f4_2, f4_3, lc_0, lc_1, rok_i, rok_b, rok_y, strF, fput_1, fput_2, csum_nil, csum_i, csum_l, csum_r, va_up_self, bx_uu, Int.reduceAdd, List.elem_nil, List.elem_cons, List.take_succ_cons, List.take_zero, List.drop_succ_cons, List.drop_zero, List.take_nil, List.drop_nil, List.reverse_cons, List.reverse_nil, List.nil_append, List.cons_append, List.append_nil, Option.toList_some, Option.toList_none, List.getElem?_cons_zero, List.getElem?_cons_succ, List.set_cons_zero, List.set_cons_succ, List.length_cons, List.length_nil, reduceIte, reduceCtorEq, and_true, true_and, and_self, or_true, true_or, false_and, and_false, not_true_eq_false, not_false_eq_true, true_implies, false_implies, implies_true, Nat.reduceAdd, Nat.reduceLT, Nat.reduceEqDiff, Nat.reduceLeDiff, Nat.reduceBEq, Nat.zero_add, Nat.lt_add_one, Bool.false_eq_true, Bool.or_false, Bool.or_true, Bool.or_self, Nat.zero_ne_one, Nat.one_ne_zero, ite_true, ite_false, ne_eq, Nat.reduceSub, Nat.succ_eq_add_one, Nat.zero_lt_succ, Nat.add_one_ne_zero, false_or, or_false, mX6_film_c, mX6_film_n, mX6_film_r, mX6_film_l, dX6_film_0, dX6_film_1, fl_6_10_6, dX6_film_4, dX6_film_5, dX6_film_8, tg_8_36, cnd1_eq, dX6_film_11, dX6_film_12, dX6_film_15, tg_15_29, dX6_film_18, dX6_film_20, dX6_film_23, tg_23_21, dX6_film_26, dX6_film_28, dX6_film_31, tg_31_13, dX6_film_34, dX6_film_35, ic_1, dX6_film_36, bc_24, dX6_film_38, dX6_film_41, tg_41_5, cnd1_ne, dX6_film_44, ic_m1, dX6_film_45, dX6_film_46, dX6_film_47, fl_6_53_6, dX6_film_50, dX6_film_52, dX6_film_53, dX6_film_55, dX6_film_57, dX6_film_58, dX6_film_61, dX6_film_63, dX6_film_65, tg_65_6, dX6_film_68, dX6_film_70, dX6_film_71, dX6_film_72, fl_6_16_6, dX6_film_75, dX6_film_76, dX6_film_79, dX6_film_82, ic_0, dX6_film_83, dX6_film_85, dX6_film_87, dX6_film_88, tg_88_41, cnd2_ge, dX6_film_91, dX6_film_92, dX6_film_95, dX6_film_98, dX6_film_99, dX6_film_102, dX6_film_104, dX6_film_105, dX6_film_107, dX6_film_109, dX6_film_110, dX6_film_111, dX6_film_114, dX6_film_115, dX6_film_116, dX6_film_119, dX6_film_120, dX6_film_123, dX6_film_126, tg_126_m41, dX6_film_129, dX6_film_130, jX6_film_0_75, jX6_film_1_79, jX6_film_1_190, jX6_film_1_193, jX6_film_1_57, jX6_film_0_196, jX6_film_0_124, jX6_film_0_163, jX6_film_0_82, jX6_film_0_208, st_aaload, st_aload_n, st_bipush, st_getfield, st_goto, st_i2l, st_iadd, st_iconst, st_ifCond, st_if_icmp, st_iinc, st_iload, st_iload_n, st_invokestatic, st_invokevirtual, st_ireturn, st_istore]
  refine ⟨fun c1 => hno (fun z => by rw [z.1] at c1; cases c1), fun c1 => ⟨fun c2 => hno (fun z => by rw [z.2.1] at c2; cases c2), fun c2 => ⟨fun c3 => hno (fun z => by rw [z.2.2.1] at c3; cases c3), fun c3 => ⟨fun c4 => hno (fun z => by rw [z.2.2.2.1] at c4; cases c4), fun c4 => ⟨fun c5 => go ⟨c1, c2, c3, c4, c5⟩, fun c5 => hno (fun z => c5 z.2.2.2.2)⟩⟩⟩⟩⟩
/-- college: what is read becomes now -/
def colN (s' : CS) (draw : Int32) : CS := (s'.1, s'.2.1, s'.2.2.1, 0, 0, draw, s'.2.2.2.2.2.2)
def x_college : XS → XS → Int32 → Prop := fun ψ ψ' r => ∃ (t : CS) (ok : Bool) (p : Nat) (s' : CS), RdR ψ.2.2.2.2.2.1.1 ψ.2.2.2.2.2.1.2 t ok p s' ∧
  ((ok = false ∧ r = -20 - nI p ∧ ψ' = (ψ.1, ψ.2.1, ψ.2.2.1, ψ.2.2.2.1, ψ.2.2.2.2.1, (ψ.2.2.2.2.2.1.1, 0), ψ.2.2.2.2.2.2)) ∨
   (ok = true ∧ r = nI s'.2.2.2.2.2.2.1 ∧ ψ' = (bec ψ.1 (colN s' ψ.1.2.2.2.2.2.1), ψ.2.1, (ψ.2.2.1.1, 0), ψ.2.2.2.1, ψ.2.2.2.2.1, (ψ.2.2.2.2.2.1.1, 0), ψ.2.2.2.2.2.2)))
def sp_X6_college (Γ : Cx) : YSp := fun av σ K => xq Γ [] x_college PX av σ K
theorem rv_X6_college {Γ : Cx} : Recv (sp_X6_college Γ) 0 6 := by
  intro av σ K h
  obtain ⟨q, fs, h1, h2, h3⟩ := rv_xq h
  exact ⟨q, _, fs, h1, rfl, h2, h3⟩
theorem bw_329 : Cond.code yX5_read cX5_read 3 (some .int) ∈ BW := bw_i 329 (by decide +kernel) (by decide +kernel)
theorem no_X5_read : NameOK yX5_read 1 := by unfold NameOK; decide +kernel
theorem bw_326 : Cond.methodLink RX6 111 yX5_read ∈ BW := bw_i 326 (by decide +kernel) (by decide +kernel)
theorem bw_327 : Cond.instanceMethod yX5_read ∈ BW := bw_i 327 (by decide +kernel) (by decide +kernel)
theorem bw_328 : Cond.selects RX5 yX5_read yX5_read ∈ BW := bw_i 328 (by decide +kernel) (by decide +kernel)
def mX6_college : Mt := (⟨7, 0, 0, 161⟩, RX6, cX6_college, 2, some .int, (0, 0), none)
theorem mX6_college_c : mX6_college.2.2.1 = cX6_college := rfl
theorem mX6_college_n : mX6_college.2.2.2.1 = 2 := rfl
theorem mX6_college_r : mX6_college.2.2.2.2.1 = some .int := rfl
theorem mX6_college_l : mX6_college.2.2.2.2.2.2 = none := rfl
def jX6_college (Γ : Cx) : List ((Nat × Nat) × Nat × Bool × YSp) := [((0, 111), 2, false, sp_X5_read Γ), ((0, 124), 2, false, sp_X0_become Γ), ((0, 65), 1, false, sp_X2_forget Γ)]
theorem jX6_college_0_111 (Γ : Cx) : kT (jX6_college Γ) 0 111 = some (2, false, sp_X5_read Γ) := rfl
theorem jX6_college_0_124 (Γ : Cx) : kT (jX6_college Γ) 0 124 = some (2, false, sp_X0_become Γ) := rfl
theorem jX6_college_0_65 (Γ : Cx) : kT (jX6_college Γ) 0 65 = some (1, false, sp_X2_forget Γ) := rfl
theorem uX6_college (Γ : Cx) : TbOK Γ mX6_college (fT fX6, cT kX6, kT (jX6_college Γ)) := tb_ok fX6_ok kX6_ok (all_cons ⟨call_V (n := 1) (T := TX5) (N := 3) (ok_X5_read Γ) (rv_X5_read (Γ := Γ)) rfl bw_329 bw_326 bw_327 bw_328 bw_46 no_X5_read ⟨⟨rfl, rfl⟩, ⟨by decide, by decide⟩, ⟨by decide, by decide⟩⟩, fun z => by cases z⟩ (all_cons ⟨call_V (n := 1) (T := TX0) (N := 9) (ok_X0_become Γ) (rv_X0_become (Γ := Γ)) rfl bw_451 bw_448 bw_449 bw_450 bw_44 no_X0_become ⟨⟨rfl, rfl⟩, ⟨by decide, by decide⟩, ⟨by decide, by decide⟩⟩, fun z => by cases z⟩ (all_cons ⟨call_V (n := 0) (T := TX2) (N := 2) (ok_X2_forget Γ) (rv_X2_forget (Γ := Γ)) rfl bw_245 bw_242 bw_243 bw_244 bw_45 no_X2_forget ⟨⟨rfl, rfl⟩, ⟨by decide, by decide⟩, ⟨by decide, by decide⟩⟩, fun z => by cases z⟩ (all_nil))))
theorem m20_ne {p : Nat} (h : p ≤ 50) : ¬ (-20 - nI p : Int32) = 0 := by
  rcases Nat.lt_or_ge p 51 with h' | h'
  · intro e
    have := congrArg Int32.toInt e
    rw [Int32.toInt_sub, nI_toInt (by omega)] at this
    have e2 : ((-20 : Int32).toInt - (p : Int)).bmod (2 ^ 32) = -20 - p := by
      rw [show (-20 : Int32).toInt = -20 by decide, Int.bmod_eq_of_le] <;> omega
    rw [e2] at this
    simp at this
    omega
  · omega
theorem RdR_le {l : Nat → Int32} {len : Nat} {s : CS} {ok : Bool} {p : Nat} {s' : CS} (h : RdR l len s ok p s') : p ≤ len := by
  have h0 := rR_le (l := l) (Nat.zero_le len)
  rcases h with ⟨-, -, rfl⟩ | ⟨-, r, rfl, h⟩
  · exact h0
  · have h1 := ppl_le (l := l) (len := len) 5 (0, s.2.2.1, s.1, (rR l len 0).2.2) h0
    rcases h with ⟨-, -, rfl⟩ | ⟨-, k, rfl, h⟩
    · exact h1
    · have h2 := rK_le (l := l) (P := (ppl l len 5 (0, s.2.2.1, s.1, (rR l len 0).2.2)).2.1) (k := s.2.1) h1
      rcases h with ⟨-, -, rfl⟩ | ⟨-, rfl, -⟩
      · exact h2
      · exact nx_le h2
set_option maxRecDepth 20000 in
theorem ok_X6_college (Γ : Cx) : Ok Γ yX6_college mX6_college (sp_X6_college Γ) := by
  refine ok_intro (by decide +kernel) rfl rfl ?_
  intro av σ K h
  obtain ⟨lab, X, ψ, rfl, hW, hpre, h⟩ := h
  obtain ⟨x, sh, ⟨n0, n1, n2, n3⟩, ⟨t0, t1, t2, t3⟩, p, ⟨i0, i1, i2, i3⟩, ip, ⟨ta, tl⟩, ⟨pa, pk⟩, S⟩ := X
  obtain ⟨⟨w, kp, kd, day, gone, draw, P, rule, gd⟩, si, ⟨pc, pn⟩, ⟨qc, qn⟩, hi, ⟨l, len⟩, ss⟩ := ψ
  have hW0 := hW
  obtain ⟨⟨x1, x2, x3, x4⟩, x5, ⟨sf, x6, x7⟩, ⟨cN, lN⟩, ⟨⟨t, cT⟩, lT⟩, pP, ⟨cI, lI⟩, pI, ⟨⟨pl, tT⟩, lTp, hlen⟩, ⟨⟨pls, pPl⟩, lPl⟩, hS⟩ := hW
  simp only at cN lN cT lT pP cI lI pI tT lTp hlen pPl lPl hS x6 x7
  obtain ⟨⟨m1, m2, m3, m4⟩, e1, e2, e3, e4⟩ := id cN
  simp only [XE, ColE, iA] at x1 x2 x5 m1 m2 m3 m4 e1 e2 e3 e4
  refine ⟨Nat.le_of_ble_eq_true rfl, yvc_ok (uX6_college Γ) (S := []) 80 _ _ _ _ ?_⟩
  simp only [lv_args, Value.category, x1, x5, yvc_s, s1i, s2i, s1l, s2l, sil, s1r, sir, siir, slir, srir, svr, sd1, sd2, lg, lput, ldel, isL_i, isL_r, isL_l, jmp, obj, obj1, fI, fR, arI, arL, arR, hput, f4_0, f4_1, f4_2, f4_3, lc_0, lc_1, rok_i, rok_b, rok_y, strF, fput_1, fput_2, csum_nil, csum_i, csum_l, csum_r, va_up_self, bx_uu, Int.reduceAdd, List.elem_nil, List.elem_cons, List.take_succ_cons, List.take_zero, List.drop_succ_cons, List.drop_zero, List.take_nil, List.drop_nil, List.reverse_cons, List.reverse_nil, List.nil_append, List.cons_append, List.append_nil, Option.toList_some, Option.toList_none, List.getElem?_cons_zero, List.getElem?_cons_succ, List.set_cons_zero, List.set_cons_succ, List.length_cons, List.length_nil, reduceIte, reduceCtorEq, and_true, true_and, and_self, or_true, true_or, false_and, and_false, not_true_eq_false, not_false_eq_true, true_implies, false_implies, implies_true, Nat.reduceAdd, Nat.reduceLT, Nat.reduceEqDiff, Nat.reduceLeDiff, Nat.reduceBEq, Nat.zero_add, Nat.lt_add_one, Bool.false_eq_true, Bool.or_false, Bool.or_true, Bool.or_self, Nat.zero_ne_one, Nat.one_ne_zero, ite_true, ite_false, ne_eq, Nat.reduceSub, Nat.succ_eq_add_one, Nat.zero_lt_succ, Nat.add_one_ne_zero, false_or, or_false, mX6_college_c, mX6_college_n, mX6_college_r, mX6_college_l, dX6_college_0, dX6_college_1, fl_6_39_6, dX6_college_4, dX6_college_5, fl_6_16_6, dX6_college_8, dX6_college_11, dX6_college_12, dX6_college_13, dX6_college_16, ic_0, dX6_college_17, fl_6_105_5, dX6_college_20, dX6_college_21, tg_21_5, cnd1_eq, dX6_college_24, dX6_college_25, dX6_college_26, dX6_college_27, dX6_college_30, dX6_college_31, fl_6_115_0, dX6_college_34, dX6_college_35, dX6_college_38, dX6_college_39, fl_6_118_0, dX6_college_42, dX6_college_43, dX6_college_46, dX6_college_47, fl_6_10_6, dX6_college_50, fl_6_121_0, dX6_college_53, dX6_college_56, dX6_college_57, dX6_college_60, dX6_college_61, dX6_college_64, dX6_college_67, dX6_college_68, fl_6_22_6, dX6_college_71, dX6_college_74, dX6_college_75, dX6_college_78, fl_6_61_0, dX6_college_81, jX6_college_0_111, jX6_college_0_124, jX6_college_0_65, st_aload_n, st_getfield, st_iconst, st_ifCond, st_iload_n, st_invokevirtual, st_ireturn, st_istore_n, st_putfield]
  refine ⟨(ta, tl), (t0, t1, t2, t3), l, len, pl, t, rfl, tT, cT, dis_lab lTp lT (by decide), hlen, fun ok pp s' hR => ?_⟩
  have hd := dis_lab lTp lT (by decide)
  have hTn := nf_T tT hd s' pp
  have hCn := nf_C (len := len) cT hd s' pp
  have hpp := RdR_le hR
  have hf1 : frm (fun q => (fun k => k = 2 ∨ k = 6) (lab q)) σ (NF Γ (ta, tl) (t0, t1, t2, t3) len s' pp σ) := ((cset_frm (Γ := Γ) (A := (t0, t1, t2, t3)) (s := s')).mono (fun q z => Or.inl (lT q z))).tr (hput_frm (Or.inr (lTp ta (Or.inl rfl))))
  have hW1 := hW0.keep (ψ' := ((w, kp, kd, day, gone, draw, P, rule, gd), si, (pc, pn), (qc, qn), hi, (l, len), ss)) (J := fun k => k = 2 ∨ k = 6) hf1 ⟨by decide, rfl⟩ (Or.inl ⟨by decide, rfl⟩) (Or.inr ⟨_, hCn⟩) (Or.inl ⟨by decide, rfl⟩) (Or.inl ⟨by decide, rfl⟩) (Or.inl ⟨by decide, rfl⟩) (Or.inr ⟨⟨_, hTn⟩, hlen⟩) (Or.inl (by decide)) (fun j _ => Or.inl ⟨by omega, rfl⟩)
  have hfX1 : frm (fX lab) σ (NF Γ (ta, tl) (t0, t1, t2, t3) len s' pp σ) := hf1.mono (fun q z => by show lab q < 20; rcases z with z | z <;> omega)
  generalize NF Γ (ta, tl) (t0, t1, t2, t3) len s' pp σ = σ1 at hTn hCn hW1 hfX1 ⊢
  have hT2 := hTn.put 0 pp
  have hfT : frm (fL lab 6) σ1 (hput σ1 ta (TpE tl 0 pp)) := hput_frm (lTp ta (Or.inl rfl))
  have hW2 := hW1.sTape hfT hT2 (Nat.zero_le _)
  have hC2 := keepC (J := fun k => k = 6) hCn lT hfT (by decide)
  have hfX2 := hfX1.tr (frmX hfT (by decide))
  obtain ⟨⟨y1, -⟩, y5, -⟩ := id hW1
  obtain ⟨⟨v1, v2⟩, f1, f2⟩ := id hTn
  simp only [XE, TpE, hput, nI_0] at y1 y5 v1 f1 hW2 hC2 hfX2
  refine yvc_ok (uX6_college Γ) (S := [26]) 80 _ _ _ _ ?_
  simp only [y1, y5, v1, f1, yvc_s, s1i, s2i, s1l, s2l, sil, s1r, sir, siir, slir, srir, svr, sd1, sd2, lg, lput, ldel, isL_i, isL_r, isL_l, jmp, obj, obj1, fI, fR, arI, arL, arR, hput, f4_0, f4_1, f4_2, f4_3, lc_0, lc_1, rok_i, rok_b, rok_y, strF, fput_1, fput_2, csum_nil, csum_i, csum_l, csum_r, va_up_self, bx_uu, Int.reduceAdd, List.elem_nil, List.elem_cons, List.take_succ_cons, List.take_zero, List.drop_succ_cons, List.drop_zero, List.take_nil, List.drop_nil, List.reverse_cons, List.reverse_nil, List.nil_append, List.cons_append, List.append_nil, Option.toList_some, Option.toList_none, List.getElem?_cons_zero, List.getElem?_cons_succ, List.set_cons_zero, List.set_cons_succ, List.length_cons, List.length_nil, reduceIte, reduceCtorEq, and_true, true_and, and_self, or_true, true_or, false_and, and_false, not_true_eq_false, not_false_eq_true, true_implies, false_implies, implies_true, Nat.reduceAdd, Nat.reduceLT, Nat.reduceEqDiff, Nat.reduceLeDiff, Nat.reduceBEq, Nat.zero_add, Nat.lt_add_one, Bool.false_eq_true, Bool.or_false, Bool.or_true, Bool.or_self, Nat.zero_ne_one, Nat.one_ne_zero, ite_true, ite_false, ne_eq, Nat.reduceSub, Nat.succ_eq_add_one, Nat.zero_lt_succ, Nat.add_one_ne_zero, false_or, or_false, mX6_college_c, mX6_college_n, mX6_college_r, mX6_college_l, dX6_college_0, dX6_college_1, fl_6_39_6, dX6_college_4, dX6_college_5, fl_6_16_6, dX6_college_8, dX6_college_11, dX6_college_12, dX6_college_13, dX6_college_16, ic_0, dX6_college_17, fl_6_105_5, dX6_college_20, dX6_college_21, tg_21_5, cnd1_eq, dX6_college_24, dX6_college_25, dX6_college_26, dX6_college_27, dX6_college_30, dX6_college_31, fl_6_115_0, dX6_college_34, dX6_college_35, dX6_college_38, dX6_college_39, fl_6_118_0, dX6_college_42, dX6_college_43, dX6_college_46, dX6_college_47, fl_6_10_6, dX6_college_50, fl_6_121_0, dX6_college_53, dX6_college_56, dX6_college_57, dX6_college_60, dX6_college_61, dX6_college_64, dX6_college_67, dX6_college_68, fl_6_22_6, dX6_college_71, dX6_college_74, dX6_college_75, dX6_college_78, fl_6_61_0, dX6_college_81, jX6_college_0_111, jX6_college_0_124, jX6_college_0_65, st_aload_n, st_getfield, st_iconst, st_ifCond, st_iload_n, st_invokevirtual, st_ireturn, st_istore_n, st_putfield]
  generalize ((σ1.1, va_up σ1.2 ta (Sum.inr (5, [Value.ref tl, Value.int 0, Value.int (nI pp)]))) : Hp) = σ2 at hW2 hC2 hfX2 ⊢
  refine ⟨fun c => ?_, fun c => ?_⟩
  · have hok : ok = true := by
      cases ok with
      | true => rfl
      | false => exact absurd c (m20_ne (by omega))
    subst hok
    simp only [if_true]
    obtain ⟨w1, kp1, kd1, day1, gone1, draw1, P1, rule1, gd1⟩ := s'
    have q1 := hC2.put (w1, kp1, kd1, 0, 0, draw, P1, rule1, gd1) rfl rfl rfl
    have hC3 := hC2.set (w1, kp1, kd1, 0, 0, draw, P1, rule1, gd1)
    have hW3 := hW2.sT (csetL (Γ := Γ) lT) ⟨_, hC3⟩
    have hfX3 : frm (fX lab) σ (cset Γ (t0, t1, t2, t3) (w1, kp1, kd1, 0, 0, draw, P1, rule1, gd1) σ2) := hfX2.tr (frmX (csetL lT) (by decide))
    obtain ⟨⟨z1, -⟩, z5, -, ⟨cN2, -⟩, -⟩ := id hW2
    obtain ⟨⟨u1, u2, u3, u4⟩, g1, g2, g3, g4⟩ := id hC2
    obtain ⟨⟨o1, o2, o3, o4⟩, r1, r2, r3, r4⟩ := id cN2
    have hne : n0 ≠ t0 := (ap_lab lN lT (by decide)).1
    have hnx : x ≠ t0 := fun z => by have e1 := lT x (Or.inl z); simp only at x3; omega
    simp only [XE, ColE, hput] at z1 z5 u1 g1 o1 r1 q1
    refine yvc_ok (uX6_college Γ) (S := []) 80 _ _ _ _ ?_
    simp only [z1, z5, u1, g1, o1, r1, va_up_ne, ne_eq, hne, hnx, not_false_eq_true, q1, yvc_s, s1i, s2i, s1l, s2l, sil, s1r, sir, siir, slir, srir, svr, sd1, sd2, lg, lput, ldel, isL_i, isL_r, isL_l, jmp, obj, obj1, fI, fR, arI, arL, arR, hput, f4_0, f4_1, f4_2, f4_3, lc_0, lc_1, rok_i, rok_b, rok_y, strF, fput_1, fput_2, csum_nil, csum_i, csum_l, csum_r, va_up_self, bx_uu, Int.reduceAdd, List.elem_nil, List.elem_cons, List.take_succ_cons, List.take_zero, List.drop_succ_cons, List.drop_zero, List.take_nil, List.drop_nil, List.reverse_cons, List.reverse_nil, List.nil_append, List.cons_append, List.append_nil, Option.toList_some, Option.toList_none, List.getElem?_cons_zero, List.getElem?_cons_succ, List.set_cons_zero, List.set_cons_succ, List.length_cons, List.length_nil, reduceIte, reduceCtorEq, and_true, true_and, and_self, or_true, true_or, false_and, and_false, not_true_eq_false, not_false_eq_true, true_implies, false_implies, implies_true, Nat.reduceAdd, Nat.reduceLT, Nat.reduceEqDiff, Nat.reduceLeDiff, Nat.reduceBEq, Nat.zero_add, Nat.lt_add_one, Bool.false_eq_true, Bool.or_false, Bool.or_true, Bool.or_self, Nat.zero_ne_one, Nat.one_ne_zero, ite_true, ite_false, ne_eq, Nat.reduceSub, Nat.succ_eq_add_one, Nat.zero_lt_succ, Nat.add_one_ne_zero, false_or, or_false, mX6_college_c, mX6_college_n, mX6_college_r, mX6_college_l, dX6_college_0, dX6_college_1, fl_6_39_6, dX6_college_4, dX6_college_5, fl_6_16_6, dX6_college_8, dX6_college_11, dX6_college_12, dX6_college_13, dX6_college_16, ic_0, dX6_college_17, fl_6_105_5, dX6_college_20, dX6_college_21, tg_21_5, cnd1_eq, dX6_college_24, dX6_college_25, dX6_college_26, dX6_college_27, dX6_college_30, dX6_college_31, fl_6_115_0, dX6_college_34, dX6_college_35, dX6_college_38, dX6_college_39, fl_6_118_0, dX6_college_42, dX6_college_43, dX6_college_46, dX6_college_47, fl_6_10_6, dX6_college_50, fl_6_121_0, dX6_college_53, dX6_college_56, dX6_college_57, dX6_college_60, dX6_college_61, dX6_college_64, dX6_college_67, dX6_college_68, fl_6_22_6, dX6_college_71, dX6_college_74, dX6_college_75, dX6_college_78, fl_6_61_0, dX6_college_81, jX6_college_0_111, jX6_college_0_124, jX6_college_0_65, st_aload_n, st_getfield, st_iconst, st_ifCond, st_iload_n, st_invokevirtual, st_ireturn, st_istore_n, st_putfield]
    generalize cset Γ (t0, t1, t2, t3) (w1, kp1, kd1, 0, 0, draw, P1, rule1, gd1) σ2 = σ3 at hC3 hW3 hfX3 ⊢
    obtain ⟨⟨z1, -⟩, z5, -, ⟨cN3, -⟩, -⟩ := id hW3
    simp only [XE] at z1 z5 cN3
    simp only [z1, z5, yvc_s, s1i, s2i, s1l, s2l, sil, s1r, sir, siir, slir, srir, svr, sd1, sd2, lg, lput, ldel, isL_i, isL_r, isL_l, jmp, obj, obj1, fI, fR, arI, arL, arR, hput, f4_0, f4_1, f4_2, f4_3, lc_0, lc_1, rok_i, rok_b, rok_y, strF, fput_1, fput_2, csum_nil, csum_i, csum_l, csum_r, va_up_self, bx_uu, Int.reduceAdd, List.elem_nil, List.elem_cons, List.take_succ_cons, List.take_zero, List.drop_succ_cons, List.drop_zero, List.take_nil, List.drop_nil, List.reverse_cons, List.reverse_nil, List.nil_append, List.cons_append, List.append_nil, Option.toList_some, Option.toList_none, List.getElem?_cons_zero, List.getElem?_cons_succ, List.set_cons_zero, List.set_cons_succ, List.length_cons, List.length_nil, reduceIte, reduceCtorEq, and_true, true_and, and_self, or_true, true_or, false_and, and_false, not_true_eq_false, not_false_eq_true, true_implies, false_implies, implies_true, Nat.reduceAdd, Nat.reduceLT, Nat.reduceEqDiff, Nat.reduceLeDiff, Nat.reduceBEq, Nat.zero_add, Nat.lt_add_one, Bool.false_eq_true, Bool.or_false, Bool.or_true, Bool.or_self, Nat.zero_ne_one, Nat.one_ne_zero, ite_true, ite_false, ne_eq, Nat.reduceSub, Nat.succ_eq_add_one, Nat.zero_lt_succ, Nat.add_one_ne_zero, false_or, or_false, mX6_college_c, mX6_college_n, mX6_college_r, mX6_college_l, dX6_college_0, dX6_college_1, fl_6_39_6, dX6_college_4, dX6_college_5, fl_6_16_6, dX6_college_8, dX6_college_11, dX6_college_12, dX6_college_13, dX6_college_16, ic_0, dX6_college_17, fl_6_105_5, dX6_college_20, dX6_college_21, tg_21_5, cnd1_eq, dX6_college_24, dX6_college_25, dX6_college_26, dX6_college_27, dX6_college_30, dX6_college_31, fl_6_115_0, dX6_college_34, dX6_college_35, dX6_college_38, dX6_college_39, fl_6_118_0, dX6_college_42, dX6_college_43, dX6_college_46, dX6_college_47, fl_6_10_6, dX6_college_50, fl_6_121_0, dX6_college_53, dX6_college_56, dX6_college_57, dX6_college_60, dX6_college_61, dX6_college_64, dX6_college_67, dX6_college_68, fl_6_22_6, dX6_college_71, dX6_college_74, dX6_college_75, dX6_college_78, fl_6_61_0, dX6_college_81, jX6_college_0_111, jX6_college_0_124, jX6_college_0_65, st_aload_n, st_getfield, st_iconst, st_ifCond, st_iload_n, st_invokevirtual, st_ireturn, st_istore_n, st_putfield]
    refine ⟨(n0, n1, n2, n3), (t0, t1, t2, t3), _, _, rfl, ap_lab lN lT (by decide), cN3, hC3, ?_⟩
    have hC4 := cN3.set (bec (w, kp, kd, day, gone, draw, P, rule, gd) (w1, kp1, kd1, 0, 0, draw, P1, rule1, gd1))
    have hW4 := hW3.sN (csetL (Γ := Γ) lN) hC4
    have hfX4 : frm (fX lab) σ (cset Γ (n0, n1, n2, n3) (bec (w, kp, kd, day, gone, draw, P, rule, gd) (w1, kp1, kd1, 0, 0, draw, P1, rule1, gd1)) σ3) := hfX3.tr (frmX (csetL lN) (by decide))
    simp only at hW4
    generalize cset Γ (n0, n1, n2, n3) (bec (w, kp, kd, day, gone, draw, P, rule, gd) (w1, kp1, kd1, 0, 0, draw, P1, rule1, gd1)) σ3 = σ4 at hC4 hW4 hfX4 ⊢
    obtain ⟨⟨z1, -⟩, z5, -, -, -, pP4, -⟩ := id hW4
    simp only [XE] at z1 z5 pP4
    refine yvc_ok (uX6_college Γ) (S := []) 80 _ _ _ _ ?_
    simp only [z1, z5, yvc_s, s1i, s2i, s1l, s2l, sil, s1r, sir, siir, slir, srir, svr, sd1, sd2, lg, lput, ldel, isL_i, isL_r, isL_l, jmp, obj, obj1, fI, fR, arI, arL, arR, hput, f4_0, f4_1, f4_2, f4_3, lc_0, lc_1, rok_i, rok_b, rok_y, strF, fput_1, fput_2, csum_nil, csum_i, csum_l, csum_r, va_up_self, bx_uu, Int.reduceAdd, List.elem_nil, List.elem_cons, List.take_succ_cons, List.take_zero, List.drop_succ_cons, List.drop_zero, List.take_nil, List.drop_nil, List.reverse_cons, List.reverse_nil, List.nil_append, List.cons_append, List.append_nil, Option.toList_some, Option.toList_none, List.getElem?_cons_zero, List.getElem?_cons_succ, List.set_cons_zero, List.set_cons_succ, List.length_cons, List.length_nil, reduceIte, reduceCtorEq, and_true, true_and, and_self, or_true, true_or, false_and, and_false, not_true_eq_false, not_false_eq_true, true_implies, false_implies, implies_true, Nat.reduceAdd, Nat.reduceLT, Nat.reduceEqDiff, Nat.reduceLeDiff, Nat.reduceBEq, Nat.zero_add, Nat.lt_add_one, Bool.false_eq_true, Bool.or_false, Bool.or_true, Bool.or_self, Nat.zero_ne_one, Nat.one_ne_zero, ite_true, ite_false, ne_eq, Nat.reduceSub, Nat.succ_eq_add_one, Nat.zero_lt_succ, Nat.add_one_ne_zero, false_or, or_false, mX6_college_c, mX6_college_n, mX6_college_r, mX6_college_l, dX6_college_0, dX6_college_1, fl_6_39_6, dX6_college_4, dX6_college_5, fl_6_16_6, dX6_college_8, dX6_college_11, dX6_college_12, dX6_college_13, dX6_college_16, ic_0, dX6_college_17, fl_6_105_5, dX6_college_20, dX6_college_21, tg_21_5, cnd1_eq, dX6_college_24, dX6_college_25, dX6_college_26, dX6_college_27, dX6_college_30, dX6_college_31, fl_6_115_0, dX6_college_34, dX6_college_35, dX6_college_38, dX6_college_39, fl_6_118_0, dX6_college_42, dX6_college_43, dX6_college_46, dX6_college_47, fl_6_10_6, dX6_college_50, fl_6_121_0, dX6_college_53, dX6_college_56, dX6_college_57, dX6_college_60, dX6_college_61, dX6_college_64, dX6_college_67, dX6_college_68, fl_6_22_6, dX6_college_71, dX6_college_74, dX6_college_75, dX6_college_78, fl_6_61_0, dX6_college_81, jX6_college_0_111, jX6_college_0_124, jX6_college_0_65, st_aload_n, st_getfield, st_iconst, st_ifCond, st_iload_n, st_invokevirtual, st_ireturn, st_istore_n, st_putfield]
    refine ⟨fL lab 3, p, pc, pn, rfl, pP4, fun σ5 hf5 hP5 => ?_⟩
    have hW5 := hW4.sP hf5 hP5
    have hk := h σ5 _ _ ⟨t, true, pp, _, hR, Or.inr ⟨rfl, rfl, rfl⟩⟩ (hfX4.tr (frmX hf5 (by decide))) hW5
    obtain ⟨⟨z1, -⟩, z5, -, ⟨cN5, -⟩, -⟩ := id hW5
    obtain ⟨⟨o1, o2, o3, o4⟩, r1, r2, r3, r4⟩ := id cN5
    simp only [XE, ColE, bec] at z1 z5 o1 r1
    refine yvc_ok (uX6_college Γ) (S := []) 80 _ _ _ _ ?_
    simp only [z1, z5, o1, r1, yvc_s, s1i, s2i, s1l, s2l, sil, s1r, sir, siir, slir, srir, svr, sd1, sd2, lg, lput, ldel, isL_i, isL_r, isL_l, jmp, obj, obj1, fI, fR, arI, arL, arR, hput, f4_0, f4_1, f4_2, f4_3, lc_0, lc_1, rok_i, rok_b, rok_y, strF, fput_1, fput_2, csum_nil, csum_i, csum_l, csum_r, va_up_self, bx_uu, Int.reduceAdd, List.elem_nil, List.elem_cons, List.take_succ_cons, List.take_zero, List.drop_succ_cons, List.drop_zero, List.take_nil, List.drop_nil, List.reverse_cons, List.reverse_nil, List.nil_append, List.cons_append, List.append_nil, Option.toList_some, Option.toList_none, List.getElem?_cons_zero, List.getElem?_cons_succ, List.set_cons_zero, List.set_cons_succ, List.length_cons, List.length_nil, reduceIte, reduceCtorEq, and_true, true_and, and_self, or_true, true_or, false_and, and_false, not_true_eq_false, not_false_eq_true, true_implies, false_implies, implies_true, Nat.reduceAdd, Nat.reduceLT, Nat.reduceEqDiff, Nat.reduceLeDiff, Nat.reduceBEq, Nat.zero_add, Nat.lt_add_one, Bool.false_eq_true, Bool.or_false, Bool.or_true, Bool.or_self, Nat.zero_ne_one, Nat.one_ne_zero, ite_true, ite_false, ne_eq, Nat.reduceSub, Nat.succ_eq_add_one, Nat.zero_lt_succ, Nat.add_one_ne_zero, false_or, or_false, mX6_college_c, mX6_college_n, mX6_college_r, mX6_college_l, dX6_college_0, dX6_college_1, fl_6_39_6, dX6_college_4, dX6_college_5, fl_6_16_6, dX6_college_8, dX6_college_11, dX6_college_12, dX6_college_13, dX6_college_16, ic_0, dX6_college_17, fl_6_105_5, dX6_college_20, dX6_college_21, tg_21_5, cnd1_eq, dX6_college_24, dX6_college_25, dX6_college_26, dX6_college_27, dX6_college_30, dX6_college_31, fl_6_115_0, dX6_college_34, dX6_college_35, dX6_college_38, dX6_college_39, fl_6_118_0, dX6_college_42, dX6_college_43, dX6_college_46, dX6_college_47, fl_6_10_6, dX6_college_50, fl_6_121_0, dX6_college_53, dX6_college_56, dX6_college_57, dX6_college_60, dX6_college_61, dX6_college_64, dX6_college_67, dX6_college_68, fl_6_22_6, dX6_college_71, dX6_college_74, dX6_college_75, dX6_college_78, fl_6_61_0, dX6_college_81, jX6_college_0_111, jX6_college_0_124, jX6_college_0_65, st_aload_n, st_getfield, st_iconst, st_ifCond, st_iload_n, st_invokevirtual, st_ireturn, st_istore_n, st_putfield]
    exact hk
  · have hok : ok = false := by
      cases ok with
      | true => exact absurd (show ((if true = true then (0 : Int32) else -20 - nI pp)) = 0 from rfl) c
      | false => rfl
    subst hok
    have hk := h σ2 _ _ ⟨t, false, pp, s', hR, Or.inl ⟨rfl, rfl, rfl⟩⟩ hfX2 hW2
    simp only [Bool.false_eq_true, if_false]
    exact hk
