/-! ===== College: the draw, joining, becoming another ===== -/
/-- Java's remainder -/
def jr (x y : Int32) : Int32 := x - x / y * y
def dr (x : Int32) : Int32 := ((x.toInt64 * 1103515245 + 12345) &&& 2147483647).toInt32
theorem dr_n (x : Int32) : ∃ D : Nat, D < 2 ^ 31 ∧ dr x = nI D := by
  refine ⟨(x.toInt64 * 1103515245 + 12345).toBitVec.toNat % 2 ^ 31, Nat.mod_lt _ (by decide), ?_⟩
  unfold dr
  generalize x.toInt64 * 1103515245 + 12345 = v
  rw [← lN_i]
  congr 1
  apply Int64.toBitVec_inj.mp
  apply BitVec.eq_of_toNat_eq
  rw [Int64.toBitVec_and, BitVec.toNat_and, show (2147483647 : Int64).toBitVec.toNat = 2 ^ 31 - 1 by decide, Nat.and_two_pow_sub_one_eq_mod]
  show _ = (BitVec.ofNat 64 _).toNat
  rw [BitVec.toNat_ofNat]
  exact (Nat.mod_eq_of_lt (by have := Nat.mod_lt v.toBitVec.toNat (show 0 < 2 ^ 31 by decide); omega)).symm
theorem jr_def {x y : Int32} : x - x / y * y = jr x y := rfl
theorem dr_def {x : Int32} : ((x.toInt64 * 1103515245 + 12345) &&& 2147483647).toInt32 = dr x := rfl
def dtW (w : Nat → Int32) (x : Int32) (P : Nat) : Nat → Int32 := if P = 0 then w else wmore w (jr (x / 65536) (nI P)) (jr (x / 256) 4) (jr (x / 1024) 4)
def dtC (s : CS) : CS := (dtW s.1 (dr s.2.2.2.2.2.1) s.2.2.2.2.2.2.1, s.2.1, s.2.2.1, s.2.2.2.1, s.2.2.2.2.1, dr s.2.2.2.2.2.1, s.2.2.2.2.2.2)
theorem jr_n {a d : Nat} (ha : a < 2 ^ 31) (h0 : 0 < d) (hd : d < 2 ^ 31) : jr (nI a) (nI d) = nI (a % d) := pk_rem ha h0 hd
theorem dt_p {x : Int32} {P : Nat} (hP : 0 < P) (h5 : P ≤ 5) : ∃ q, q < P ∧ jr (dr x / 65536) (nI P) = nI q := by
  obtain ⟨D, hD, e⟩ := dr_n x
  refine ⟨D / 65536 % P, Nat.mod_lt _ hP, ?_⟩
  rw [e, show (65536 : Int32) = nI 65536 from rfl, pk_div hD (by decide) (by decide), jr_n (by omega) hP (by omega)]
theorem dt_d {x : Int32} : ∃ q, q < 4 ∧ jr (dr x / 256) 4 = nI q := by
  obtain ⟨D, hD, e⟩ := dr_n x
  refine ⟨D / 256 % 4, Nat.mod_lt _ (by decide), ?_⟩
  rw [e, show (256 : Int32) = nI 256 from rfl, pk_div hD (by decide) (by decide), show (4 : Int32) = nI 4 from rfl, jr_n (by omega) (by decide) (by decide)]
theorem dtC_wf {s : CS} (h : WfC s) : WfC (dtC s) ∧ (dtC s).2.2.2.2.2.2.1 = s.2.2.2.2.2.2.1 := by
  obtain ⟨w, kp, kd, day, gone, draw, P, rule, gd⟩ := s
  refine ⟨?_, ?_⟩
  · have h' : P ≤ 5 ∧ ∀ d, d < 4 → kp d = -4 ∨ ∃ q, q < P ∧ kp d = nI q := h
    show P ≤ 5 ∧ ∀ d, d < 4 → kp d = -4 ∨ ∃ q, q < P ∧ kp d = nI q
    exact h'
  · show P = P
    rfl
def sp_X0_drawTalk (Γ : Cx) : YSp := fun av σ K => ∃ (A : CA) (s : CS), av = [.ref A.1] ∧ WfC s ∧ Col Γ A s σ ∧ K none (cset Γ A (dtC s) σ)
theorem rv_X0_drawTalk {Γ : Cx} : Recv (sp_X0_drawTalk Γ) 0 0 := by
  intro av σ K h
  obtain ⟨A, s, rfl, -, hc, -⟩ := h
  obtain ⟨fs, h1, h2⟩ := col_rv hc
  exact ⟨_, _, fs, rfl, rfl, h1, h2⟩
theorem i64k : ¬ (65536 : Int32) = 0 := by decide
theorem i256 : ¬ (256 : Int32) = 0 := by decide
theorem i1024 : ¬ (1024 : Int32) = 0 := by decide
theorem nI0 : nI 0 = 0 := nI_0
theorem tg_26_39 : tgo 26 39 = some 65 := by decide
theorem sc_256 : (Int16.ofInt 256).toInt32 = 256 := by decide
theorem sc_1024 : (Int16.ofInt 1024).toInt32 = 1024 := by decide
def mX0_drawTalk : Mt := (⟨2, 0, 0, 46⟩, RX0, cX0_drawTalk, 1, none, (0, 0), none)
theorem mX0_drawTalk_c : mX0_drawTalk.2.2.1 = cX0_drawTalk := rfl
theorem mX0_drawTalk_n : mX0_drawTalk.2.2.2.1 = 1 := rfl
theorem mX0_drawTalk_r : mX0_drawTalk.2.2.2.2.1 = none := rfl
theorem mX0_drawTalk_l : mX0_drawTalk.2.2.2.2.2.2 = none := rfl
def jX0_drawTalk (Γ : Cx) : List ((Nat × Nat) × Nat × Bool × YSp) := [((0, 89), 4, false, sp_X0_wantMore Γ)]
theorem jX0_drawTalk_0_89 (Γ : Cx) : kT (jX0_drawTalk Γ) 0 89 = some (4, false, sp_X0_wantMore Γ) := rfl
theorem uX0_drawTalk (Γ : Cx) : TbOK Γ mX0_drawTalk (fT fX0, cT kX0, kT (jX0_drawTalk Γ)) := tb_ok fX0_ok kX0_ok (all_cons ⟨call_V (n := 3) (T := TX0) (N := 9) (ok_X0_wantMore Γ) (rv_X0_wantMore (Γ := Γ)) rfl bw_512 bw_509 bw_510 bw_511 bw_44 no_X0_wantMore ⟨⟨rfl, rfl⟩, ⟨by decide, by decide⟩, ⟨by decide, by decide⟩⟩, fun z => by cases z⟩ (all_nil))
set_option maxRecDepth 20000 in
theorem ok_X0_drawTalk (Γ : Cx) : Ok Γ yX0_drawTalk mX0_drawTalk (sp_X0_drawTalk Γ) := by
  refine ok_intro (by decide +kernel) rfl rfl ?_
  intro av σ K h
  obtain ⟨⟨a, aw, ak, ad⟩, ⟨w, kp, kd, day, gone, draw, P, rule, gd⟩, rfl, hw, hc, h⟩ := h
  have hP := hw.1
  simp only at hP
  have hc1 := hc.set (w, kp, kd, day, gone, dr draw, P, rule, gd)
  have hp := hc.put (w, kp, kd, day, gone, dr draw, P, rule, gd) (show w = w from rfl) (show kp = kp from rfl) (show kd = kd from rfl)
  obtain ⟨⟨m1, m2, m3, m4⟩, e1, e2, e3, e4⟩ := hc
  simp only [ColE, iA, hput] at e1 e2 e3 e4 m1 m2 m3 m4 hp
  refine ⟨Nat.le_of_ble_eq_true rfl, yvc_ok (uX0_drawTalk Γ) (S := []) 60 _ _ _ _ ?_⟩
  simp only [lv_args, Value.category, m1, m2, m3, m4, e1, e2, e3, e4, i64k, i256, i1024, i4ne0, dr_def, jr_def, yvc_s, s1i, s2i, s1l, s2l, sil, s1r, sir, siir, slir, srir, svr, sd1, sd2, lg, lput, ldel, isL_i, isL_r, isL_l, jmp, obj, obj1, fI, fR, arI, arL, arR, hput, f4_0, f4_1, f4_2, f4_3, lc_0, lc_1, rok_i, rok_b, rok_y, strF, fput_1, fput_2, csum_nil, csum_i, csum_l, csum_r, va_up_self, bx_uu, Int.reduceAdd, List.elem_nil, List.elem_cons, List.take_succ_cons, List.take_zero, List.drop_succ_cons, List.drop_zero, List.take_nil, List.drop_nil, List.reverse_cons, List.reverse_nil, List.nil_append, List.cons_append, List.append_nil, Option.toList_some, Option.toList_none, List.getElem?_cons_zero, List.getElem?_cons_succ, List.set_cons_zero, List.set_cons_succ, List.length_cons, List.length_nil, reduceIte, reduceCtorEq, and_true, true_and, and_self, or_true, true_or, false_and, and_false, not_true_eq_false, not_false_eq_true, true_implies, false_implies, implies_true, Nat.reduceAdd, Nat.reduceLT, Nat.reduceEqDiff, Nat.reduceLeDiff, Nat.reduceBEq, Nat.zero_add, Nat.lt_add_one, Bool.false_eq_true, Bool.or_false, Bool.or_true, Bool.or_self, Nat.zero_ne_one, Nat.one_ne_zero, ite_true, ite_false, ne_eq, Nat.reduceSub, Nat.succ_eq_add_one, Nat.zero_lt_succ, Nat.add_one_ne_zero, false_or, or_false, mX0_drawTalk_c, mX0_drawTalk_n, mX0_drawTalk_r, mX0_drawTalk_l, dX0_drawTalk_0, dX0_drawTalk_1, dX0_drawTalk_2, fl_0_106_0, dX0_drawTalk_5, dX0_drawTalk_6, cl_0_109, dX0_drawTalk_9, dX0_drawTalk_10, cl_0_111, dX0_drawTalk_13, dX0_drawTalk_14, cl_0_113, dX0_drawTalk_17, dX0_drawTalk_18, dX0_drawTalk_19, dX0_drawTalk_22, dX0_drawTalk_23, fl_0_15_0, dX0_drawTalk_26, tg_26_39, cnd1_le, dX0_drawTalk_29, dX0_drawTalk_30, dX0_drawTalk_31, dX0_drawTalk_34, cl_0_115, dX0_drawTalk_36, dX0_drawTalk_37, dX0_drawTalk_38, dX0_drawTalk_41, dX0_drawTalk_42, dX0_drawTalk_43, dX0_drawTalk_46, sc_256, dX0_drawTalk_49, dX0_drawTalk_50, ic_4, dX0_drawTalk_51, dX0_drawTalk_52, dX0_drawTalk_53, dX0_drawTalk_56, sc_1024, dX0_drawTalk_59, dX0_drawTalk_60, dX0_drawTalk_61, dX0_drawTalk_62, dX0_drawTalk_65, jX0_drawTalk_0_89, st_aload_n, st_getfield, st_i2l, st_iconst, st_idiv, st_ifCond, st_invokevirtual, st_irem, st_l2i, st_ladd, st_land, st_ldc, st_ldc2_w, st_lmul, st_putfield, st_return, st_sipush]
  rw [hp]
  simp only [dtC, dtW] at h
  refine ⟨fun c => ?_, fun c => ?_⟩
  · have h0 : P = 0 := by
      rcases Nat.eq_zero_or_pos P with z | z
      · exact z
      · exact absurd c (nI_nle z (by omega))
    rw [if_pos h0] at h
    exact h
  · have h0 : ¬ P = 0 := fun z => c (by rw [z]; decide)
    rw [if_neg h0] at h
    have h1 : ¬ nI P = 0 := nI_ne0 (by omega) (by omega)
    refine ⟨h1, ?_⟩
    obtain ⟨q, hq, f1⟩ := dt_p (x := draw) (show 0 < P by omega) hP
    obtain ⟨r, hr, f2⟩ := dt_d (x := draw)
    refine ⟨(a, aw, ak, ad), (w, kp, kd, day, gone, dr draw, P, rule, gd), _, _, _, rfl, hc1, ?_, ?_⟩
    · rw [f1, f2]
      exact ix_in (by omega) hr
    · refine yvc_ok (uX0_drawTalk Γ) (S := []) 60 _ _ _ _ ?_
      simp only [cset_cset, yvc_s, s1i, s2i, s1l, s2l, sil, s1r, sir, siir, slir, srir, svr, sd1, sd2, lg, lput, ldel, isL_i, isL_r, isL_l, jmp, obj, obj1, fI, fR, arI, arL, arR, hput, f4_0, f4_1, f4_2, f4_3, lc_0, lc_1, rok_i, rok_b, rok_y, strF, fput_1, fput_2, csum_nil, csum_i, csum_l, csum_r, va_up_self, bx_uu, Int.reduceAdd, List.elem_nil, List.elem_cons, List.take_succ_cons, List.take_zero, List.drop_succ_cons, List.drop_zero, List.take_nil, List.drop_nil, List.reverse_cons, List.reverse_nil, List.nil_append, List.cons_append, List.append_nil, Option.toList_some, Option.toList_none, List.getElem?_cons_zero, List.getElem?_cons_succ, List.set_cons_zero, List.set_cons_succ, List.length_cons, List.length_nil, reduceIte, reduceCtorEq, and_true, true_and, and_self, or_true, true_or, false_and, and_false, not_true_eq_false, not_false_eq_true, true_implies, false_implies, implies_true, Nat.reduceAdd, Nat.reduceLT, Nat.reduceEqDiff, Nat.reduceLeDiff, Nat.reduceBEq, Nat.zero_add, Nat.lt_add_one, Bool.false_eq_true, Bool.or_false, Bool.or_true, Bool.or_self, Nat.zero_ne_one, Nat.one_ne_zero, ite_true, ite_false, ne_eq, Nat.reduceSub, Nat.succ_eq_add_one, Nat.zero_lt_succ, Nat.add_one_ne_zero, false_or, or_false, mX0_drawTalk_c, mX0_drawTalk_n, mX0_drawTalk_r, mX0_drawTalk_l, dX0_drawTalk_0, dX0_drawTalk_1, dX0_drawTalk_2, fl_0_106_0, dX0_drawTalk_5, dX0_drawTalk_6, cl_0_109, dX0_drawTalk_9, dX0_drawTalk_10, cl_0_111, dX0_drawTalk_13, dX0_drawTalk_14, cl_0_113, dX0_drawTalk_17, dX0_drawTalk_18, dX0_drawTalk_19, dX0_drawTalk_22, dX0_drawTalk_23, fl_0_15_0, dX0_drawTalk_26, tg_26_39, cnd1_le, dX0_drawTalk_29, dX0_drawTalk_30, dX0_drawTalk_31, dX0_drawTalk_34, cl_0_115, dX0_drawTalk_36, dX0_drawTalk_37, dX0_drawTalk_38, dX0_drawTalk_41, dX0_drawTalk_42, dX0_drawTalk_43, dX0_drawTalk_46, sc_256, dX0_drawTalk_49, dX0_drawTalk_50, ic_4, dX0_drawTalk_51, dX0_drawTalk_52, dX0_drawTalk_53, dX0_drawTalk_56, sc_1024, dX0_drawTalk_59, dX0_drawTalk_60, dX0_drawTalk_61, dX0_drawTalk_62, dX0_drawTalk_65, jX0_drawTalk_0_89, st_aload_n, st_getfield, st_i2l, st_iconst, st_idiv, st_ifCond, st_invokevirtual, st_irem, st_l2i, st_ladd, st_land, st_ldc, st_ldc2_w, st_lmul, st_putfield, st_return, st_sipush]
      exact h
def jw (w : Nat → Int32) (P : Nat) (v : Int32) : Nat → Nat → Int32
  | 0 => w
  | n + 1 => upd (jw w P v n) (ix (nI P) (nI n)) v
def joinC (s : CS) (kind want : Int32) : CS := (jw s.1 s.2.2.2.2.2.2.1 want 4, s.2.1, upd s.2.2.1 s.2.2.2.2.2.2.1 kind, s.2.2.2.1, s.2.2.2.2.1, s.2.2.2.2.2.1, s.2.2.2.2.2.2.1 + 1, s.2.2.2.2.2.2.2)
def sp_X0_join (Γ : Cx) : YSp := fun av σ K => ∃ (A : CA) (s : CS) (kind want : Int32), av = [.ref A.1, .int kind, .int want] ∧ s.2.2.2.2.2.2.1 < 5 ∧ Col Γ A s σ ∧ K (some (.int (nI s.2.2.2.2.2.2.1))) (cset Γ A (joinC s kind want) σ)
theorem rv_X0_join {Γ : Cx} : Recv (sp_X0_join Γ) 2 0 := by
  intro av σ K h
  obtain ⟨A, s, k, w, rfl, -, hc, -⟩ := h
  obtain ⟨fs, h1, h2⟩ := col_rv hc
  exact ⟨_, _, fs, rfl, rfl, h1, h2⟩
theorem jw_s (w : Nat → Int32) (P : Nat) (v : Int32) (n : Nat) : jw w P v (n + 1) = upd (jw w P v n) (ix (nI P) (nI n)) v := rfl
theorem tg_18_17 : tgo 18 17 = some 35 := by decide
theorem tg_32_m17 : tgo 32 (-17) = some 15 := by decide
def mX0_join : Mt := (⟨1, 0, 0, 23⟩, RX0, cX0_join, 5, some .int, (0, 0), none)
theorem mX0_join_c : mX0_join.2.2.1 = cX0_join := rfl
theorem mX0_join_n : mX0_join.2.2.2.1 = 5 := rfl
theorem mX0_join_r : mX0_join.2.2.2.2.1 = some .int := rfl
theorem mX0_join_l : mX0_join.2.2.2.2.2.2 = none := rfl
def jX0_join (Γ : Cx) : List ((Nat × Nat) × Nat × Bool × YSp) := [((0, 39), 4, false, sp_X0_setWant Γ)]
theorem jX0_join_0_39 (Γ : Cx) : kT (jX0_join Γ) 0 39 = some (4, false, sp_X0_setWant Γ) := rfl
theorem uX0_join (Γ : Cx) : TbOK Γ mX0_join (fT fX0, cT kX0, kT (jX0_join Γ)) := tb_ok fX0_ok kX0_ok (all_cons ⟨call_V (n := 3) (T := TX0) (N := 9) (ok_X0_setWant Γ) (rv_X0_setWant (Γ := Γ)) rfl bw_253 bw_250 bw_251 bw_252 bw_44 no_X0_setWant ⟨⟨rfl, rfl⟩, ⟨by decide, by decide⟩, ⟨by decide, by decide⟩⟩, fun z => by cases z⟩ (all_nil))
set_option maxRecDepth 20000 in
theorem ok_X0_join (Γ : Cx) : Ok Γ yX0_join mX0_join (sp_X0_join Γ) := by
  refine ok_intro (by decide +kernel) rfl rfl ?_
  intro av σ K h
  obtain ⟨⟨a, aw, ak, ad⟩, ⟨w, kp, kd, day, gone, draw, P, rule, gd⟩, kind, want, rfl, hP, hc, h⟩ := h
  simp only at hP
  have loop : ∀ n j : Nat, j + n = 4 → YG Γ mX0_join K 15 [(0, .ref a), (1, .int kind), (2, .int want), (3, .int (nI P)), (4, .int (nI j))] [] (cset Γ (a, aw, ak, ad) (jw w P want j, kp, upd kd P kind, day, gone, draw, P, rule, gd) σ) := by
    intro n
    induction n with
    | zero =>
      intro j hj
      obtain rfl : j = 4 := by omega
      have hc' := hc.set (jw w P want 4, kp, upd kd P kind, day, gone, draw, P, rule, gd)
      have hp := hc'.put (jw w P want 4, kp, upd kd P kind, day, gone, draw, P + 1, rule, gd) rfl rfl rfl
      rw [cset_cset] at hp
      obtain ⟨⟨m1, m2, m3, m4⟩, e1, e2, e3, e4⟩ := hc'
      simp only [ColE, iA] at e1 e2 e3 e4 m1 m2 m3 m4
      have h' : K (some (.int (nI P))) (cset Γ (a, aw, ak, ad) (jw w P want 4, kp, upd kd P kind, day, gone, draw, P + 1, rule, gd) σ) := h
      rw [← hp] at h'
      refine yvc1_ok (uX0_join Γ) (S := [15]) 40 ?_
      simp only [yvc1, ge4, m1, e1, nI_1, yvc_s, s1i, s2i, s1l, s2l, sil, s1r, sir, siir, slir, srir, svr, sd1, sd2, lg, lput, ldel, isL_i, isL_r, isL_l, jmp, obj, obj1, fI, fR, arI, arL, arR, hput, f4_0, f4_1, f4_2, f4_3, lc_0, lc_1, rok_i, rok_b, rok_y, strF, fput_1, fput_2, csum_nil, csum_i, csum_l, csum_r, va_up_self, bx_uu, Int.reduceAdd, List.elem_nil, List.elem_cons, List.take_succ_cons, List.take_zero, List.drop_succ_cons, List.drop_zero, List.take_nil, List.drop_nil, List.reverse_cons, List.reverse_nil, List.nil_append, List.cons_append, List.append_nil, Option.toList_some, Option.toList_none, List.getElem?_cons_zero, List.getElem?_cons_succ, List.set_cons_zero, List.set_cons_succ, List.length_cons, List.length_nil, reduceIte, reduceCtorEq, and_true, true_and, and_self, or_true, true_or, false_and, and_false, not_true_eq_false, not_false_eq_true, true_implies, false_implies, implies_true, Nat.reduceAdd, Nat.reduceLT, Nat.reduceEqDiff, Nat.reduceLeDiff, Nat.reduceBEq, Nat.zero_add, Nat.lt_add_one, Bool.false_eq_true, Bool.or_false, Bool.or_true, Bool.or_self, Nat.zero_ne_one, Nat.one_ne_zero, ite_true, ite_false, ne_eq, Nat.reduceSub, Nat.succ_eq_add_one, Nat.zero_lt_succ, Nat.add_one_ne_zero, false_or, or_false, mX0_join_c, mX0_join_n, mX0_join_r, mX0_join_l, dX0_join_0, dX0_join_1, fl_0_15_0, dX0_join_4, dX0_join_5, dX0_join_6, fl_0_9_0, dX0_join_9, dX0_join_10, dX0_join_11, dX0_join_12, ic_0, dX0_join_13, dX0_join_15, dX0_join_17, ic_4, dX0_join_18, tg_18_17, cnd2_ge, dX0_join_21, dX0_join_22, dX0_join_23, dX0_join_25, dX0_join_26, dX0_join_29, ic_1, dX0_join_32, tg_32_m17, dX0_join_35, dX0_join_36, dX0_join_37, dX0_join_38, dX0_join_39, dX0_join_42, dX0_join_43, jX0_join_0_39, st_aload_n, st_getfield, st_goto, st_iadd, st_iastore, st_iconst, st_if_icmp, st_iinc, st_iload, st_iload_n, st_invokevirtual, st_ireturn, st_istore, st_istore_n, st_putfield]
      exact h'
    | succ n ih =>
      intro j hj
      obtain ⟨c1, c2, c3⟩ := lt4 (show j < 4 by omega)
      have hj1 := ih (j + 1) (by omega)
      rw [jw_s] at hj1
      have hc' := hc.set (jw w P want j, kp, upd kd P kind, day, gone, draw, P, rule, gd)
      refine yvc1_ok (uX0_join Γ) (S := [15]) 40 ?_
      simp only [yvc1, c1, yvc_s, s1i, s2i, s1l, s2l, sil, s1r, sir, siir, slir, srir, svr, sd1, sd2, lg, lput, ldel, isL_i, isL_r, isL_l, jmp, obj, obj1, fI, fR, arI, arL, arR, hput, f4_0, f4_1, f4_2, f4_3, lc_0, lc_1, rok_i, rok_b, rok_y, strF, fput_1, fput_2, csum_nil, csum_i, csum_l, csum_r, va_up_self, bx_uu, Int.reduceAdd, List.elem_nil, List.elem_cons, List.take_succ_cons, List.take_zero, List.drop_succ_cons, List.drop_zero, List.take_nil, List.drop_nil, List.reverse_cons, List.reverse_nil, List.nil_append, List.cons_append, List.append_nil, Option.toList_some, Option.toList_none, List.getElem?_cons_zero, List.getElem?_cons_succ, List.set_cons_zero, List.set_cons_succ, List.length_cons, List.length_nil, reduceIte, reduceCtorEq, and_true, true_and, and_self, or_true, true_or, false_and, and_false, not_true_eq_false, not_false_eq_true, true_implies, false_implies, implies_true, Nat.reduceAdd, Nat.reduceLT, Nat.reduceEqDiff, Nat.reduceLeDiff, Nat.reduceBEq, Nat.zero_add, Nat.lt_add_one, Bool.false_eq_true, Bool.or_false, Bool.or_true, Bool.or_self, Nat.zero_ne_one, Nat.one_ne_zero, ite_true, ite_false, ne_eq, Nat.reduceSub, Nat.succ_eq_add_one, Nat.zero_lt_succ, Nat.add_one_ne_zero, false_or, or_false, mX0_join_c, mX0_join_n, mX0_join_r, mX0_join_l, dX0_join_0, dX0_join_1, fl_0_15_0, dX0_join_4, dX0_join_5, dX0_join_6, fl_0_9_0, dX0_join_9, dX0_join_10, dX0_join_11, dX0_join_12, ic_0, dX0_join_13, dX0_join_15, dX0_join_17, ic_4, dX0_join_18, tg_18_17, cnd2_ge, dX0_join_21, dX0_join_22, dX0_join_23, dX0_join_25, dX0_join_26, dX0_join_29, ic_1, dX0_join_32, tg_32_m17, dX0_join_35, dX0_join_36, dX0_join_37, dX0_join_38, dX0_join_39, dX0_join_42, dX0_join_43, jX0_join_0_39, st_aload_n, st_getfield, st_goto, st_iadd, st_iastore, st_iconst, st_if_icmp, st_iinc, st_iload, st_iload_n, st_invokevirtual, st_ireturn, st_istore, st_istore_n, st_putfield]
      refine ⟨(a, aw, ak, ad), _, _, _, _, rfl, hc', ix_in hP (by omega), ?_⟩
      refine yvc_ok (uX0_join Γ) (S := [15]) 40 _ _ _ _ ?_
      simp only [nI_1, cset_cset, yvc_s, s1i, s2i, s1l, s2l, sil, s1r, sir, siir, slir, srir, svr, sd1, sd2, lg, lput, ldel, isL_i, isL_r, isL_l, jmp, obj, obj1, fI, fR, arI, arL, arR, hput, f4_0, f4_1, f4_2, f4_3, lc_0, lc_1, rok_i, rok_b, rok_y, strF, fput_1, fput_2, csum_nil, csum_i, csum_l, csum_r, va_up_self, bx_uu, Int.reduceAdd, List.elem_nil, List.elem_cons, List.take_succ_cons, List.take_zero, List.drop_succ_cons, List.drop_zero, List.take_nil, List.drop_nil, List.reverse_cons, List.reverse_nil, List.nil_append, List.cons_append, List.append_nil, Option.toList_some, Option.toList_none, List.getElem?_cons_zero, List.getElem?_cons_succ, List.set_cons_zero, List.set_cons_succ, List.length_cons, List.length_nil, reduceIte, reduceCtorEq, and_true, true_and, and_self, or_true, true_or, false_and, and_false, not_true_eq_false, not_false_eq_true, true_implies, false_implies, implies_true, Nat.reduceAdd, Nat.reduceLT, Nat.reduceEqDiff, Nat.reduceLeDiff, Nat.reduceBEq, Nat.zero_add, Nat.lt_add_one, Bool.false_eq_true, Bool.or_false, Bool.or_true, Bool.or_self, Nat.zero_ne_one, Nat.one_ne_zero, ite_true, ite_false, ne_eq, Nat.reduceSub, Nat.succ_eq_add_one, Nat.zero_lt_succ, Nat.add_one_ne_zero, false_or, or_false, mX0_join_c, mX0_join_n, mX0_join_r, mX0_join_l, dX0_join_0, dX0_join_1, fl_0_15_0, dX0_join_4, dX0_join_5, dX0_join_6, fl_0_9_0, dX0_join_9, dX0_join_10, dX0_join_11, dX0_join_12, ic_0, dX0_join_13, dX0_join_15, dX0_join_17, ic_4, dX0_join_18, tg_18_17, cnd2_ge, dX0_join_21, dX0_join_22, dX0_join_23, dX0_join_25, dX0_join_26, dX0_join_29, ic_1, dX0_join_32, tg_32_m17, dX0_join_35, dX0_join_36, dX0_join_37, dX0_join_38, dX0_join_39, dX0_join_42, dX0_join_43, jX0_join_0_39, st_aload_n, st_getfield, st_goto, st_iadd, st_iastore, st_iconst, st_if_icmp, st_iinc, st_iload, st_iload_n, st_invokevirtual, st_ireturn, st_istore, st_istore_n, st_putfield]
      exact hj1
  have hp := hc.putD (upd kd P kind)
  have hl := loop 4 0 rfl
  rw [show jw w P want 0 = w from rfl] at hl
  have hp' : hput σ ad (iA Γ 5 (upd kd P kind)) = cset Γ (a, aw, ak, ad) (w, kp, upd kd P kind, day, gone, draw, P, rule, gd) σ := hp
  rw [← hp'] at hl
  obtain ⟨⟨m1, m2, m3, m4⟩, e1, e2, e3, e4⟩ := hc
  simp only [ColE, iA] at e1 e2 e3 e4 m1 m2 m3 m4
  have c5 : vp_in (nI P) 5 := vp_in_nI hP (by decide)
  have c6 : (nI P).toNatClampNeg = P := nI_clamp (by omega)
  refine ⟨Nat.le_of_ble_eq_true rfl, yvc_ok (uX0_join Γ) (S := [15]) 40 _ _ _ _ ?_⟩
  simp only [lv_args, Value.category, m1, m4, e1, e4, c5, c6, yvc_s, s1i, s2i, s1l, s2l, sil, s1r, sir, siir, slir, srir, svr, sd1, sd2, lg, lput, ldel, isL_i, isL_r, isL_l, jmp, obj, obj1, fI, fR, arI, arL, arR, hput, f4_0, f4_1, f4_2, f4_3, lc_0, lc_1, rok_i, rok_b, rok_y, strF, fput_1, fput_2, csum_nil, csum_i, csum_l, csum_r, va_up_self, bx_uu, Int.reduceAdd, List.elem_nil, List.elem_cons, List.take_succ_cons, List.take_zero, List.drop_succ_cons, List.drop_zero, List.take_nil, List.drop_nil, List.reverse_cons, List.reverse_nil, List.nil_append, List.cons_append, List.append_nil, Option.toList_some, Option.toList_none, List.getElem?_cons_zero, List.getElem?_cons_succ, List.set_cons_zero, List.set_cons_succ, List.length_cons, List.length_nil, reduceIte, reduceCtorEq, and_true, true_and, and_self, or_true, true_or, false_and, and_false, not_true_eq_false, not_false_eq_true, true_implies, false_implies, implies_true, Nat.reduceAdd, Nat.reduceLT, Nat.reduceEqDiff, Nat.reduceLeDiff, Nat.reduceBEq, Nat.zero_add, Nat.lt_add_one, Bool.false_eq_true, Bool.or_false, Bool.or_true, Bool.or_self, Nat.zero_ne_one, Nat.one_ne_zero, ite_true, ite_false, ne_eq, Nat.reduceSub, Nat.succ_eq_add_one, Nat.zero_lt_succ, Nat.add_one_ne_zero, false_or, or_false, mX0_join_c, mX0_join_n, mX0_join_r, mX0_join_l, dX0_join_0, dX0_join_1, fl_0_15_0, dX0_join_4, dX0_join_5, dX0_join_6, fl_0_9_0, dX0_join_9, dX0_join_10, dX0_join_11, dX0_join_12, ic_0, dX0_join_13, dX0_join_15, dX0_join_17, ic_4, dX0_join_18, tg_18_17, cnd2_ge, dX0_join_21, dX0_join_22, dX0_join_23, dX0_join_25, dX0_join_26, dX0_join_29, ic_1, dX0_join_32, tg_32_m17, dX0_join_35, dX0_join_36, dX0_join_37, dX0_join_38, dX0_join_39, dX0_join_42, dX0_join_43, jX0_join_0_39, st_aload_n, st_getfield, st_goto, st_iadd, st_iastore, st_iconst, st_if_icmp, st_iinc, st_iload, st_iload_n, st_invokevirtual, st_ireturn, st_istore, st_istore_n, st_putfield]
  exact hl
/-! ===== Moment.recall, College.become ===== -/
def cpN (n : Nat) (f g : Nat → Int32) : Nat → Int32 := va_cpy f g 0 0 n
def MomE (c aw ak : Nat) (day gone draw : Int32) (t : List Value) : va_E := .inr (c, .ref aw :: .ref ak :: .int day :: .int gone :: .int draw :: t)
def sp_X1_recall (Γ : Cx) : YSp := fun av σ K => ∃ (a b ca cb aw ak bw bk : Nat) (w0 k0 w k : Nat → Int32) (d0 g0 r0 day gone draw : Int32) (ta tb : List Value), av = [.ref a, .ref b] ∧ (ca = 0 ∨ ca = 1) ∧ (cb = 0 ∨ cb = 1) ∧
  (a ∈ σ.1 ∧ b ∈ σ.1 ∧ aw ∈ σ.1 ∧ ak ∈ σ.1 ∧ bw ∈ σ.1 ∧ bk ∈ σ.1) ∧ (a ≠ b ∧ aw ≠ bw ∧ ak ≠ bk) ∧
  (σ.2 a = MomE ca aw ak d0 g0 r0 ta ∧ σ.2 b = MomE cb bw bk day gone draw tb ∧ σ.2 aw = iA Γ 20 w0 ∧ σ.2 ak = iA Γ 4 k0 ∧ σ.2 bw = iA Γ 20 w ∧ σ.2 bk = iA Γ 4 k) ∧
  K none (σ.1, va_up (va_up (va_up σ.2 aw (iA Γ 20 (cpN 20 w w0))) ak (iA Γ 4 (cpN 4 k k0))) a (MomE ca aw ak day gone draw ta))
theorem rv_X1_recall_01 {Γ : Cx} : ∀ (av : List Value) (σ : Hp) (K : Option Value → Hp → Prop), sp_X1_recall Γ av σ K → ∃ (b : Nat) (As : List Value) (fs : List Value) (ci : Nat × String × u_T × Nat), ci ∈ [(0, RX0, TX0, 9), (1, RX1, TX1, 5)] ∧ av = .ref b :: As ∧ As.length = 1 ∧ b ∈ σ.1 ∧ σ.2 b = .inr (ci.1, fs) := by
  intro av σ K h
  obtain ⟨a, b, ca, cb, aw, ak, bw, bk, w0, k0, w, k, d0, g0, r0, day, gone, draw, ta, tb, rfl, hca, hcb, ⟨m1, -⟩, -, ⟨e1, -⟩, -⟩ := h
  rcases hca with rfl | rfl
  · exact ⟨a, [.ref b], _, (0, RX0, TX0, 9), by simp, rfl, rfl, m1, e1⟩
  · exact ⟨a, [.ref b], _, (1, RX1, TX1, 5), by simp, rfl, rfl, m1, e1⟩
