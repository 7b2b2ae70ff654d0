/-! ===== YawnKeys: yawn, image, restore ===== -/
def cdL : Nat → Int32 → Int32 → Int32
  | 0, _, d => d
  | m + 1, r, d => if r ≤ 0 then d else cdL m (jr d r) r
def cdM (a b : Int32) : Int32 := if 1 < cdL 64 a b then cdL 64 a b else 1
def sp_X6_commonDivisor (_ : Cx) : YSp := fun av σ K => ∃ a b : Int32, av = [.int a, .int b] ∧ K (some (.int (cdM a b))) σ
theorem rv_X6_commonDivisor {Γ : Cx} : Args (sp_X6_commonDivisor Γ) 2 := by
  intro av σ K h
  obtain ⟨a, b, rfl, -⟩ := h
  rfl
theorem lt64 {j : Nat} (h : j < 64) : ¬ (64 : Int32) ≤ nI j := nI_ge h (by decide)
theorem ge64 : (64 : Int32) ≤ nI 64 := by decide
theorem bw_624 : Cond.methodLink RX6 246 Lib.Math.max.name ∈ BW := bw_i 624 (by decide +kernel) (by decide +kernel)
theorem bc_64 : (Int8.ofInt 64).toInt32 = 64 := by decide
theorem tg_11_23 : tgo 11 23 = some 34 := by decide
theorem tg_31_m24 : tgo 31 (-24) = some 7 := by decide
def mX6_commonDivisor : Mt := (⟨1, 0, 0, 21⟩, RX6, cX6_commonDivisor, 6, some .int, (0, 0), none)
theorem mX6_commonDivisor_c : mX6_commonDivisor.2.2.1 = cX6_commonDivisor := rfl
theorem mX6_commonDivisor_n : mX6_commonDivisor.2.2.2.1 = 6 := rfl
theorem mX6_commonDivisor_r : mX6_commonDivisor.2.2.2.2.1 = some .int := rfl
theorem mX6_commonDivisor_l : mX6_commonDivisor.2.2.2.2.2.2 = none := rfl
def jX6_commonDivisor (Γ : Cx) : List ((Nat × Nat) × Nat × Bool × YSp) := [((1, 246), 2, true, sp_max)]
theorem jX6_commonDivisor_1_246 (Γ : Cx) : kT (jX6_commonDivisor Γ) 1 246 = some (2, true, sp_max) := rfl
theorem uX6_commonDivisor (Γ : Cx) : TbOK Γ mX6_commonDivisor (fT fX6, cT kX6, kT (jX6_commonDivisor Γ)) := tb_ok fX6_ok kX6_ok (all_cons ⟨call_max bw_624 bw_384 bw_53 bw_385 (by decide +kernel), fun _ => mono_max⟩ (all_nil))
set_option maxRecDepth 20000 in
theorem ok_X6_commonDivisor (Γ : Cx) : Ok Γ yX6_commonDivisor mX6_commonDivisor (sp_X6_commonDivisor Γ) := by
  refine ok_intro (by decide +kernel) rfl rfl ?_
  intro av σ K h
  obtain ⟨a, b, rfl, h⟩ := h
  unfold cdM at h
  have loop : ∀ m j : Nat, ∀ r d : Int32, j + m = 64 → cdL m r d = cdL 64 a b → YG Γ mX6_commonDivisor K 7 [(0, .int a), (1, .int b), (2, .int r), (3, .int d), (4, .int (nI j))] [] σ := by
    intro m
    induction m with
    | zero =>
      intro j r d hj hr
      obtain rfl : j = 64 := by omega
      rw [show cdL 0 r d = d from rfl] at hr
      rw [← hr] at h
      refine yvc1_ok (uX6_commonDivisor Γ) (S := [7]) 40 ?_
      simp only [yvc1, ge64, sp_max, yvc_s, s1i, s2i, s1l, s2l, sil, s1r, sir, siir, slir, srir, svr, sd1, sd2, lg, lput, ldel, isL_i, isL_r, isL_l, jmp, obj, obj1, fI, fR, arI, arL, arR, hput, f4_0, f4_1, f4_2, f4_3, lc_0, lc_1, rok_i, rok_b, rok_y, strF, fput_1, fput_2, csum_nil, csum_i, csum_l, csum_r, va_up_self, bx_uu, Int.reduceAdd, List.elem_nil, List.elem_cons, List.take_succ_cons, List.take_zero, List.drop_succ_cons, List.drop_zero, List.take_nil, List.drop_nil, List.reverse_cons, List.reverse_nil, List.nil_append, List.cons_append, List.append_nil, Option.toList_some, Option.toList_none, List.getElem?_cons_zero, List.getElem?_cons_succ, List.set_cons_zero, List.set_cons_succ, List.length_cons, List.length_nil, reduceIte, reduceCtorEq, and_true, true_and, and_self, or_true, true_or, false_and, and_false, not_true_eq_false, not_false_eq_true, true_implies, false_implies, implies_true, Nat.reduceAdd, Nat.reduceLT, Nat.reduceEqDiff, Nat.reduceLeDiff, Nat.reduceBEq, Nat.zero_add, Nat.lt_add_one, Bool.false_eq_true, Bool.or_false, Bool.or_true, Bool.or_self, Nat.zero_ne_one, Nat.one_ne_zero, ite_true, ite_false, ne_eq, Nat.reduceSub, Nat.succ_eq_add_one, Nat.zero_lt_succ, Nat.add_one_ne_zero, false_or, or_false, mX6_commonDivisor_c, mX6_commonDivisor_n, mX6_commonDivisor_r, mX6_commonDivisor_l, dX6_commonDivisor_0, dX6_commonDivisor_1, dX6_commonDivisor_2, dX6_commonDivisor_3, dX6_commonDivisor_4, ic_0, dX6_commonDivisor_5, dX6_commonDivisor_7, dX6_commonDivisor_9, bc_64, dX6_commonDivisor_11, tg_11_23, cnd2_ge, dX6_commonDivisor_14, dX6_commonDivisor_15, tg_15_19, cnd1_le, dX6_commonDivisor_18, dX6_commonDivisor_19, dX6_commonDivisor_20, dX6_commonDivisor_21, dX6_commonDivisor_23, dX6_commonDivisor_24, dX6_commonDivisor_25, dX6_commonDivisor_27, dX6_commonDivisor_28, ic_1, dX6_commonDivisor_31, tg_31_m24, dX6_commonDivisor_34, dX6_commonDivisor_35, dX6_commonDivisor_36, dX6_commonDivisor_39, jX6_commonDivisor_1_246, st_bipush, st_goto, st_iconst, st_ifCond, st_if_icmp, st_iinc, st_iload, st_iload_n, st_invokestatic, st_irem, st_ireturn, st_istore, st_istore_n]
      exact h
    | succ m ih =>
      intro j r d hj hr
      have c1 := lt64 (show j < 64 by omega)
      rw [cdL] at hr
      refine yvc1_ok (uX6_commonDivisor Γ) (S := [7]) 40 ?_
      simp only [yvc1, c1, nI_1, jr_def, sp_max, yvc_s, s1i, s2i, s1l, s2l, sil, s1r, sir, siir, slir, srir, svr, sd1, sd2, lg, lput, ldel, isL_i, isL_r, isL_l, jmp, obj, obj1, fI, fR, arI, arL, arR, hput, f4_0, f4_1, f4_2, f4_3, lc_0, lc_1, rok_i, rok_b, rok_y, strF, fput_1, fput_2, csum_nil, csum_i, csum_l, csum_r, va_up_self, bx_uu, Int.reduceAdd, List.elem_nil, List.elem_cons, List.take_succ_cons, List.take_zero, List.drop_succ_cons, List.drop_zero, List.take_nil, List.drop_nil, List.reverse_cons, List.reverse_nil, List.nil_append, List.cons_append, List.append_nil, Option.toList_some, Option.toList_none, List.getElem?_cons_zero, List.getElem?_cons_succ, List.set_cons_zero, List.set_cons_succ, List.length_cons, List.length_nil, reduceIte, reduceCtorEq, and_true, true_and, and_self, or_true, true_or, false_and, and_false, not_true_eq_false, not_false_eq_true, true_implies, false_implies, implies_true, Nat.reduceAdd, Nat.reduceLT, Nat.reduceEqDiff, Nat.reduceLeDiff, Nat.reduceBEq, Nat.zero_add, Nat.lt_add_one, Bool.false_eq_true, Bool.or_false, Bool.or_true, Bool.or_self, Nat.zero_ne_one, Nat.one_ne_zero, ite_true, ite_false, ne_eq, Nat.reduceSub, Nat.succ_eq_add_one, Nat.zero_lt_succ, Nat.add_one_ne_zero, false_or, or_false, mX6_commonDivisor_c, mX6_commonDivisor_n, mX6_commonDivisor_r, mX6_commonDivisor_l, dX6_commonDivisor_0, dX6_commonDivisor_1, dX6_commonDivisor_2, dX6_commonDivisor_3, dX6_commonDivisor_4, ic_0, dX6_commonDivisor_5, dX6_commonDivisor_7, dX6_commonDivisor_9, bc_64, dX6_commonDivisor_11, tg_11_23, cnd2_ge, dX6_commonDivisor_14, dX6_commonDivisor_15, tg_15_19, cnd1_le, dX6_commonDivisor_18, dX6_commonDivisor_19, dX6_commonDivisor_20, dX6_commonDivisor_21, dX6_commonDivisor_23, dX6_commonDivisor_24, dX6_commonDivisor_25, dX6_commonDivisor_27, dX6_commonDivisor_28, ic_1, dX6_commonDivisor_31, tg_31_m24, dX6_commonDivisor_34, dX6_commonDivisor_35, dX6_commonDivisor_36, dX6_commonDivisor_39, jX6_commonDivisor_1_246, st_bipush, st_goto, st_iconst, st_ifCond, st_if_icmp, st_iinc, st_iload, st_iload_n, st_invokestatic, st_irem, st_ireturn, st_istore, st_istore_n]
      refine ⟨fun c2 => ?_, fun c2 => ⟨fun z => c2 (by rw [z]; decide), ?_⟩⟩
      · rw [if_pos c2] at hr
        rw [← hr] at h
        exact h
      · rw [if_neg c2] at hr
        refine (ih (j + 1) _ _ (by omega) hr).sub (fun q hq => ?_)
        simp only [List.mem_cons, List.not_mem_nil, or_false] at hq ⊢
        rcases hq with rfl | rfl | rfl | rfl | rfl <;> simp
  refine ⟨Nat.le_of_ble_eq_true rfl, yvc_ok (uX6_commonDivisor Γ) (S := [7]) 40 _ _ _ _ ?_⟩
  simp only [lv_args, Value.category, yvc_s, s1i, s2i, s1l, s2l, sil, s1r, sir, siir, slir, srir, svr, sd1, sd2, lg, lput, ldel, isL_i, isL_r, isL_l, jmp, obj, obj1, fI, fR, arI, arL, arR, hput, f4_0, f4_1, f4_2, f4_3, lc_0, lc_1, rok_i, rok_b, rok_y, strF, fput_1, fput_2, csum_nil, csum_i, csum_l, csum_r, va_up_self, bx_uu, Int.reduceAdd, List.elem_nil, List.elem_cons, List.take_succ_cons, List.take_zero, List.drop_succ_cons, List.drop_zero, List.take_nil, List.drop_nil, List.reverse_cons, List.reverse_nil, List.nil_append, List.cons_append, List.append_nil, Option.toList_some, Option.toList_none, List.getElem?_cons_zero, List.getElem?_cons_succ, List.set_cons_zero, List.set_cons_succ, List.length_cons, List.length_nil, reduceIte, reduceCtorEq, and_true, true_and, and_self, or_true, true_or, false_and, and_false, not_true_eq_false, not_false_eq_true, true_implies, false_implies, implies_true, Nat.reduceAdd, Nat.reduceLT, Nat.reduceEqDiff, Nat.reduceLeDiff, Nat.reduceBEq, Nat.zero_add, Nat.lt_add_one, Bool.false_eq_true, Bool.or_false, Bool.or_true, Bool.or_self, Nat.zero_ne_one, Nat.one_ne_zero, ite_true, ite_false, ne_eq, Nat.reduceSub, Nat.succ_eq_add_one, Nat.zero_lt_succ, Nat.add_one_ne_zero, false_or, or_false, mX6_commonDivisor_c, mX6_commonDivisor_n, mX6_commonDivisor_r, mX6_commonDivisor_l, dX6_commonDivisor_0, dX6_commonDivisor_1, dX6_commonDivisor_2, dX6_commonDivisor_3, dX6_commonDivisor_4, ic_0, dX6_commonDivisor_5, dX6_commonDivisor_7, dX6_commonDivisor_9, bc_64, dX6_commonDivisor_11, tg_11_23, cnd2_ge, dX6_commonDivisor_14, dX6_commonDivisor_15, tg_15_19, cnd1_le, dX6_commonDivisor_18, dX6_commonDivisor_19, dX6_commonDivisor_20, dX6_commonDivisor_21, dX6_commonDivisor_23, dX6_commonDivisor_24, dX6_commonDivisor_25, dX6_commonDivisor_27, dX6_commonDivisor_28, ic_1, dX6_commonDivisor_31, tg_31_m24, dX6_commonDivisor_34, dX6_commonDivisor_35, dX6_commonDivisor_36, dX6_commonDivisor_39, jX6_commonDivisor_1_246, st_bipush, st_goto, st_iconst, st_ifCond, st_if_icmp, st_iinc, st_iload, st_iload_n, st_invokestatic, st_irem, st_ireturn, st_istore, st_istore_n]
  exact loop 64 0 a b rfl rfl
theorem cdM_ne (a b : Int32) : ¬ cdM a b = 0 := by
  unfold cdM
  split
  · next c => exact fun z => absurd (by rw [z] at c; exact c) (show ¬ (1 : Int32) < 0 by decide)
  · decide
def yw (w : Nat → Int32) (rule d c : Int32) : Nat → Int32 × Int32
  | 0 => (1, 1)
  | n + 1 => if w (ix (nI n) d) < rule then yw w rule d c n else ((yw w rule d c n).1 * (10 - c), (yw w rule d c n).2 * 10)
def x_yawn (a b c : Int32) (ψ : XS) : XS × Int32 := (ψ, if inr a 0 3 = true ∧ inr b 0 10 = true ∧ inr c 0 1 = true then (if c = 0 then (yw ψ.1.1 ψ.1.2.2.2.2.2.2.2.1 a b ψ.1.2.2.2.2.2.2.1).1 else (yw ψ.1.1 ψ.1.2.2.2.2.2.2.2.1 a b ψ.1.2.2.2.2.2.2.1).2) / cdM (yw ψ.1.1 ψ.1.2.2.2.2.2.2.2.1 a b ψ.1.2.2.2.2.2.2.1).1 (yw ψ.1.1 ψ.1.2.2.2.2.2.2.2.1 a b ψ.1.2.2.2.2.2.2.1).2 else -1)
def sp_X6_yawn (Γ : Cx) : YSp := fun av σ K => ∃ a b c : Int32, xq Γ [.int a, .int b, .int c] (fn (x_yawn a b c)) PX av σ K
theorem rv_X6_yawn {Γ : Cx} : Recv (sp_X6_yawn Γ) 3 6 := by
  intro av σ K h
  obtain ⟨a, b, c, h⟩ := h
  obtain ⟨q, fs, h1, h2, h3⟩ := rv_xq h
  exact ⟨q, _, fs, h1, rfl, h2, h3⟩
theorem bw_623 : Cond.code yX6_commonDivisor cX6_commonDivisor 6 (some .int) ∈ BW := bw_i 623 (by decide +kernel) (by decide +kernel)
theorem no_X6_commonDivisor : NameOK yX6_commonDivisor 2 := by unfold NameOK; decide +kernel
theorem bw_621 : Cond.methodLink RX6 184 yX6_commonDivisor ∈ BW := bw_i 621 (by decide +kernel) (by decide +kernel)
theorem bw_622 : Cond.static yX6_commonDivisor ∈ BW := bw_i 622 (by decide +kernel) (by decide +kernel)
theorem tg_4_22 : tgo 4 22 = some 26 := by decide
theorem tg_14_12 : tgo 14 12 = some 26 := by decide
theorem tg_46_45 : tgo 46 45 = some 91 := by decide
theorem tg_66_19 : tgo 66 19 = some 85 := by decide
theorem tg_88_m51 : tgo 88 (-51) = some 37 := by decide
theorem tg_101_8 : tgo 101 8 = some 109 := by decide
theorem tg_106_5 : tgo 106 5 = some 111 := by decide
def mX6_yawn : Mt := (⟨2, 0, 0, 46⟩, RX6, cX6_yawn, 7, some .int, (0, 0), none)
theorem mX6_yawn_c : mX6_yawn.2.2.1 = cX6_yawn := rfl
theorem mX6_yawn_n : mX6_yawn.2.2.2.1 = 7 := rfl
theorem mX6_yawn_r : mX6_yawn.2.2.2.2.1 = some .int := rfl
theorem mX6_yawn_l : mX6_yawn.2.2.2.2.2.2 = none := rfl
def jX6_yawn (Γ : Cx) : List ((Nat × Nat) × Nat × Bool × YSp) := [((1, 79), 1, true, sp_X6_isDoor Γ), ((1, 57), 3, true, sp_X6_within Γ), ((0, 82), 3, true, sp_X0_wantOf Γ), ((1, 184), 2, false, sp_X6_commonDivisor Γ)]
theorem jX6_yawn_1_79 (Γ : Cx) : kT (jX6_yawn Γ) 1 79 = some (1, true, sp_X6_isDoor Γ) := rfl
theorem jX6_yawn_1_57 (Γ : Cx) : kT (jX6_yawn Γ) 1 57 = some (3, true, sp_X6_within Γ) := rfl
theorem jX6_yawn_0_82 (Γ : Cx) : kT (jX6_yawn Γ) 0 82 = some (3, true, sp_X0_wantOf Γ) := rfl
theorem jX6_yawn_1_184 (Γ : Cx) : kT (jX6_yawn Γ) 1 184 = some (2, false, sp_X6_commonDivisor Γ) := rfl
theorem uX6_yawn (Γ : Cx) : TbOK Γ mX6_yawn (fT fX6, cT kX6, kT (jX6_yawn Γ)) := tb_ok fX6_ok kX6_ok (all_cons ⟨call_S (n := 1) (ok_X6_isDoor Γ) (rv_X6_isDoor (Γ := Γ)) bw_269 bw_267 bw_268 bw_42 no_X6_isDoor ⟨⟨rfl, rfl⟩, ⟨by decide, by decide⟩, ⟨by decide, by decide⟩⟩, fun _ => mono_X6_isDoor (Γ := Γ)⟩ (all_cons ⟨call_S (n := 3) (ok_X6_within Γ) (rv_X6_within (Γ := Γ)) bw_241 bw_239 bw_240 bw_42 no_X6_within ⟨⟨rfl, rfl⟩, ⟨by decide, by decide⟩, ⟨by decide, by decide⟩⟩, fun _ => mono_X6_within (Γ := Γ)⟩ (all_cons ⟨call_V (n := 2) (T := TX0) (N := 9) (ok_X0_wantOf Γ) (rv_X0_wantOf (Γ := Γ)) rfl bw_273 bw_270 bw_271 bw_272 bw_44 no_X0_wantOf ⟨⟨rfl, rfl⟩, ⟨by decide, by decide⟩, ⟨by decide, by decide⟩⟩, fun _ => mono_X0_wantOf (Γ := Γ)⟩ (all_cons ⟨call_S (n := 2) (ok_X6_commonDivisor Γ) (rv_X6_commonDivisor (Γ := Γ)) bw_623 bw_621 bw_622 bw_42 no_X6_commonDivisor ⟨⟨rfl, rfl⟩, ⟨by decide, by decide⟩, ⟨by decide, by decide⟩⟩, fun z => by cases z⟩ (all_nil)))))
set_option maxRecDepth 20000 in
theorem ok_X6_yawn (Γ : Cx) : Ok Γ yX6_yawn mX6_yawn (sp_X6_yawn Γ) := by
  refine ok_intro (by decide +kernel) rfl rfl ?_
  intro av σ K h
  obtain ⟨a, b, c, lab, X, ψ, rfl, hW, hpre, h⟩ := h
  obtain ⟨x, sh, ⟨n0, n1, n2, n3⟩, ⟨t0, t1, t2, t3⟩, p, ⟨i0, i1, i2, i3⟩, ip, ⟨ta, tl⟩, ⟨pa, pk⟩, S⟩ := X
  obtain ⟨⟨w, kp, kd, day, gone, draw, P, rule, gd⟩, si, ⟨pc, pn⟩, ⟨qc, qn⟩, hi, ⟨l, len⟩, ss⟩ := ψ
  have hW0 := hW
  obtain ⟨⟨x1, x2, x3, x4⟩, x5, ⟨sf, x6, x7⟩, ⟨cN, lN⟩, ⟨⟨t, cT⟩, lT⟩, pP, ⟨cI, lI⟩, pI, ⟨⟨pl, tT⟩, lTp, hlen⟩, ⟨⟨pls, pPl⟩, lPl⟩, hS⟩ := hW
  simp only at cN lN cT lT pP cI lI pI tT lTp hlen pPl lPl hS x6 x7
  obtain ⟨⟨m1, m2, m3, m4⟩, e1, e2, e3, e4⟩ := id cN
  simp only [XE, ColE, iA] at x1 x2 x5 m1 m2 m3 m4 e1 e2 e3 e4
  have hP := hpre.1
  simp only at hP
  have hk := h σ _ _ rfl frm.rf hW0
  simp only at hk
  have hno : ¬ (inr a 0 3 = true ∧ inr b 0 10 = true ∧ inr c 0 1 = true) → K (some (.int (-1))) σ := fun z => by rw [if_neg z] at hk; exact hk
  refine ⟨Nat.le_of_ble_eq_true rfl, yvc_ok (uX6_yawn Γ) (S := [37]) 60 _ _ _ _ ?_⟩
  simp only [lv_args, Value.category, sp_X6_isDoor, sp_X6_within, bI_eq0, Bool.not_eq_false, yvc_s, s1i, s2i, s1l, s2l, sil, s1r, sir, siir, slir, srir, svr, sd1, sd2, lg, lput, ldel, isL_i, isL_r, isL_l, jmp, obj, obj1, fI, fR, arI, arL, arR, hput, f4_0, f4_1, f4_2, f4_3, lc_0, lc_1, rok_i, rok_b, rok_y, strF, fput_1, fput_2, csum_nil, csum_i, csum_l, csum_r, va_up_self, bx_uu, Int.reduceAdd, List.elem_nil, List.elem_cons, List.take_succ_cons, List.take_zero, List.drop_succ_cons, List.drop_zero, List.take_nil, List.drop_nil, List.reverse_cons, List.reverse_nil, List.nil_append, List.cons_append, List.append_nil, Option.toList_some, Option.toList_none, List.getElem?_cons_zero, List.getElem?_cons_succ, List.set_cons_zero, List.set_cons_succ, List.length_cons, List.length_nil, reduceIte, reduceCtorEq, and_true, true_and, and_self, or_true, true_or, false_and, and_false, not_true_eq_false, not_false_eq_true, true_implies, false_implies, implies_true, Nat.reduceAdd, Nat.reduceLT, Nat.reduceEqDiff, Nat.reduceLeDiff, Nat.reduceBEq, Nat.zero_add, Nat.lt_add_one, Bool.false_eq_true, Bool.or_false, Bool.or_true, Bool.or_self, Nat.zero_ne_one, Nat.one_ne_zero, ite_true, ite_false, ne_eq, Nat.reduceSub, Nat.succ_eq_add_one, Nat.zero_lt_succ, Nat.add_one_ne_zero, false_or, or_false, mX6_yawn_c, mX6_yawn_n, mX6_yawn_r, mX6_yawn_l, dX6_yawn_0, dX6_yawn_1, dX6_yawn_4, tg_4_22, cnd1_eq, dX6_yawn_7, dX6_yawn_8, ic_0, dX6_yawn_9, bc_10, dX6_yawn_11, dX6_yawn_14, tg_14_12, dX6_yawn_17, dX6_yawn_18, dX6_yawn_19, ic_1, dX6_yawn_20, dX6_yawn_23, tg_23_5, cnd1_ne, dX6_yawn_26, ic_m1, dX6_yawn_27, dX6_yawn_28, dX6_yawn_29, dX6_yawn_31, dX6_yawn_32, dX6_yawn_34, dX6_yawn_35, dX6_yawn_37, dX6_yawn_39, dX6_yawn_40, fl_6_10_6, dX6_yawn_43, fl_6_61_0, dX6_yawn_46, tg_46_45, cnd2_ge, dX6_yawn_49, dX6_yawn_50, dX6_yawn_53, dX6_yawn_55, dX6_yawn_56, dX6_yawn_59, dX6_yawn_60, dX6_yawn_63, fl_6_72_0, dX6_yawn_66, tg_66_19, cnd2_lt, dX6_yawn_69, dX6_yawn_71, dX6_yawn_73, dX6_yawn_74, dX6_yawn_75, dX6_yawn_76, dX6_yawn_78, dX6_yawn_80, dX6_yawn_82, dX6_yawn_83, dX6_yawn_85, dX6_yawn_88, tg_88_m51, dX6_yawn_91, dX6_yawn_93, dX6_yawn_95, dX6_yawn_98, dX6_yawn_100, dX6_yawn_101, tg_101_8, dX6_yawn_104, dX6_yawn_106, tg_106_5, dX6_yawn_109, dX6_yawn_111, dX6_yawn_113, dX6_yawn_114, jX6_yawn_1_79, jX6_yawn_1_57, jX6_yawn_0_82, jX6_yawn_1_184, st_aload_n, st_bipush, st_getfield, st_goto, st_iconst, st_idiv, st_ifCond, st_if_icmp, st_iinc, st_iload, st_iload_n, st_imul, st_invokestatic, st_invokevirtual, st_ireturn, st_istore, st_isub]
  refine ⟨fun c1 => hno (fun z => by rw [c1] at z; cases z.1), fun c1 => ⟨fun c2 => hno (fun z => by rw [c2] at z; cases z.2.1), fun c2 => ⟨fun c3 => ?_, fun c3 => hno (fun z => c3 z.2.2)⟩⟩⟩
  rw [if_pos ⟨c1, c2, c3⟩] at hk
  obtain ⟨q, hq, rfl⟩ := door_n c1
  have loop : ∀ m j : Nat, j + m = P → YG Γ mX6_yawn K 37 [(0, .ref x), (1, .int (nI q)), (2, .int b), (3, .int c), (4, .int (yw w rule (nI q) b j).1), (5, .int (yw w rule (nI q) b j).2), (6, .int (nI j))] [] σ := by
    intro m
    induction m with
    | zero =>
      intro j hj
      obtain rfl : j = P := by omega
      have hn := cdM_ne (yw w rule (nI q) b j).1 (yw w rule (nI q) b j).2
      refine yvc1_ok (uX6_yawn Γ) (S := [37]) 40 ?_
      simp only [yvc1, geP, x1, x5, m1, e1, yvc_s, s1i, s2i, s1l, s2l, sil, s1r, sir, siir, slir, srir, svr, sd1, sd2, lg, lput, ldel, isL_i, isL_r, isL_l, jmp, obj, obj1, fI, fR, arI, arL, arR, hput, f4_0, f4_1, f4_2, f4_3, lc_0, lc_1, rok_i, rok_b, rok_y, strF, fput_1, fput_2, csum_nil, csum_i, csum_l, csum_r, va_up_self, bx_uu, Int.reduceAdd, List.elem_nil, List.elem_cons, List.take_succ_cons, List.take_zero, List.drop_succ_cons, List.drop_zero, List.take_nil, List.drop_nil, List.reverse_cons, List.reverse_nil, List.nil_append, List.cons_append, List.append_nil, Option.toList_some, Option.toList_none, List.getElem?_cons_zero, List.getElem?_cons_succ, List.set_cons_zero, List.set_cons_succ, List.length_cons, List.length_nil, reduceIte, reduceCtorEq, and_true, true_and, and_self, or_true, true_or, false_and, and_false, not_true_eq_false, not_false_eq_true, true_implies, false_implies, implies_true, Nat.reduceAdd, Nat.reduceLT, Nat.reduceEqDiff, Nat.reduceLeDiff, Nat.reduceBEq, Nat.zero_add, Nat.lt_add_one, Bool.false_eq_true, Bool.or_false, Bool.or_true, Bool.or_self, Nat.zero_ne_one, Nat.one_ne_zero, ite_true, ite_false, ne_eq, Nat.reduceSub, Nat.succ_eq_add_one, Nat.zero_lt_succ, Nat.add_one_ne_zero, false_or, or_false, mX6_yawn_c, mX6_yawn_n, mX6_yawn_r, mX6_yawn_l, dX6_yawn_0, dX6_yawn_1, dX6_yawn_4, tg_4_22, cnd1_eq, dX6_yawn_7, dX6_yawn_8, ic_0, dX6_yawn_9, bc_10, dX6_yawn_11, dX6_yawn_14, tg_14_12, dX6_yawn_17, dX6_yawn_18, dX6_yawn_19, ic_1, dX6_yawn_20, dX6_yawn_23, tg_23_5, cnd1_ne, dX6_yawn_26, ic_m1, dX6_yawn_27, dX6_yawn_28, dX6_yawn_29, dX6_yawn_31, dX6_yawn_32, dX6_yawn_34, dX6_yawn_35, dX6_yawn_37, dX6_yawn_39, dX6_yawn_40, fl_6_10_6, dX6_yawn_43, fl_6_61_0, dX6_yawn_46, tg_46_45, cnd2_ge, dX6_yawn_49, dX6_yawn_50, dX6_yawn_53, dX6_yawn_55, dX6_yawn_56, dX6_yawn_59, dX6_yawn_60, dX6_yawn_63, fl_6_72_0, dX6_yawn_66, tg_66_19, cnd2_lt, dX6_yawn_69, dX6_yawn_71, dX6_yawn_73, dX6_yawn_74, dX6_yawn_75, dX6_yawn_76, dX6_yawn_78, dX6_yawn_80, dX6_yawn_82, dX6_yawn_83, dX6_yawn_85, dX6_yawn_88, tg_88_m51, dX6_yawn_91, dX6_yawn_93, dX6_yawn_95, dX6_yawn_98, dX6_yawn_100, dX6_yawn_101, tg_101_8, dX6_yawn_104, dX6_yawn_106, tg_106_5, dX6_yawn_109, dX6_yawn_111, dX6_yawn_113, dX6_yawn_114, jX6_yawn_1_79, jX6_yawn_1_57, jX6_yawn_0_82, jX6_yawn_1_184, st_aload_n, st_bipush, st_getfield, st_goto, st_iconst, st_idiv, st_ifCond, st_if_icmp, st_iinc, st_iload, st_iload_n, st_imul, st_invokestatic, st_invokevirtual, st_ireturn, st_istore, st_isub]
      refine ⟨_, _, rfl, ?_⟩
      refine yvc_ok (uX6_yawn Γ) (S := [37]) 40 _ _ _ _ ?_
      simp only [hn, yvc_s, s1i, s2i, s1l, s2l, sil, s1r, sir, siir, slir, srir, svr, sd1, sd2, lg, lput, ldel, isL_i, isL_r, isL_l, jmp, obj, obj1, fI, fR, arI, arL, arR, hput, f4_0, f4_1, f4_2, f4_3, lc_0, lc_1, rok_i, rok_b, rok_y, strF, fput_1, fput_2, csum_nil, csum_i, csum_l, csum_r, va_up_self, bx_uu, Int.reduceAdd, List.elem_nil, List.elem_cons, List.take_succ_cons, List.take_zero, List.drop_succ_cons, List.drop_zero, List.take_nil, List.drop_nil, List.reverse_cons, List.reverse_nil, List.nil_append, List.cons_append, List.append_nil, Option.toList_some, Option.toList_none, List.getElem?_cons_zero, List.getElem?_cons_succ, List.set_cons_zero, List.set_cons_succ, List.length_cons, List.length_nil, reduceIte, reduceCtorEq, and_true, true_and, and_self, or_true, true_or, false_and, and_false, not_true_eq_false, not_false_eq_true, true_implies, false_implies, implies_true, Nat.reduceAdd, Nat.reduceLT, Nat.reduceEqDiff, Nat.reduceLeDiff, Nat.reduceBEq, Nat.zero_add, Nat.lt_add_one, Bool.false_eq_true, Bool.or_false, Bool.or_true, Bool.or_self, Nat.zero_ne_one, Nat.one_ne_zero, ite_true, ite_false, ne_eq, Nat.reduceSub, Nat.succ_eq_add_one, Nat.zero_lt_succ, Nat.add_one_ne_zero, false_or, or_false, mX6_yawn_c, mX6_yawn_n, mX6_yawn_r, mX6_yawn_l, dX6_yawn_0, dX6_yawn_1, dX6_yawn_4, tg_4_22, cnd1_eq, dX6_yawn_7, dX6_yawn_8, ic_0, dX6_yawn_9, bc_10, dX6_yawn_11, dX6_yawn_14, tg_14_12, dX6_yawn_17, dX6_yawn_18, dX6_yawn_19, ic_1, dX6_yawn_20, dX6_yawn_23, tg_23_5, cnd1_ne, dX6_yawn_26, ic_m1, dX6_yawn_27, dX6_yawn_28, dX6_yawn_29, dX6_yawn_31, dX6_yawn_32, dX6_yawn_34, dX6_yawn_35, dX6_yawn_37, dX6_yawn_39, dX6_yawn_40, fl_6_10_6, dX6_yawn_43, fl_6_61_0, dX6_yawn_46, tg_46_45, cnd2_ge, dX6_yawn_49, dX6_yawn_50, dX6_yawn_53, dX6_yawn_55, dX6_yawn_56, dX6_yawn_59, dX6_yawn_60, dX6_yawn_63, fl_6_72_0, dX6_yawn_66, tg_66_19, cnd2_lt, dX6_yawn_69, dX6_yawn_71, dX6_yawn_73, dX6_yawn_74, dX6_yawn_75, dX6_yawn_76, dX6_yawn_78, dX6_yawn_80, dX6_yawn_82, dX6_yawn_83, dX6_yawn_85, dX6_yawn_88, tg_88_m51, dX6_yawn_91, dX6_yawn_93, dX6_yawn_95, dX6_yawn_98, dX6_yawn_100, dX6_yawn_101, tg_101_8, dX6_yawn_104, dX6_yawn_106, tg_106_5, dX6_yawn_109, dX6_yawn_111, dX6_yawn_113, dX6_yawn_114, jX6_yawn_1_79, jX6_yawn_1_57, jX6_yawn_0_82, jX6_yawn_1_184, st_aload_n, st_bipush, st_getfield, st_goto, st_iconst, st_idiv, st_ifCond, st_if_icmp, st_iinc, st_iload, st_iload_n, st_imul, st_invokestatic, st_invokevirtual, st_ireturn, st_istore, st_isub]
      refine ⟨fun d1 => ?_, fun d1 => ?_⟩
      · rw [if_neg d1] at hk
        exact hk
      · rw [if_pos (Classical.not_not.mp d1)] at hk
        exact hk
    | succ m ih =>
      intro j hj
      have g0 := ltP (show j < P by omega) hP
      have hin := ix_in (show j < 5 by omega) hq
      have hj1 := ih (j + 1) (by omega)
      refine yvc1_ok (uX6_yawn Γ) (S := [37]) 60 ?_
      simp only [yvc1, g0, x1, x5, m1, m2, e1, e2, hin, sp_X0_wantOf, nI_1, yvc_s, s1i, s2i, s1l, s2l, sil, s1r, sir, siir, slir, srir, svr, sd1, sd2, lg, lput, ldel, isL_i, isL_r, isL_l, jmp, obj, obj1, fI, fR, arI, arL, arR, hput, f4_0, f4_1, f4_2, f4_3, lc_0, lc_1, rok_i, rok_b, rok_y, strF, fput_1, fput_2, csum_nil, csum_i, csum_l, csum_r, va_up_self, bx_uu, Int.reduceAdd, List.elem_nil, List.elem_cons, List.take_succ_cons, List.take_zero, List.drop_succ_cons, List.drop_zero, List.take_nil, List.drop_nil, List.reverse_cons, List.reverse_nil, List.nil_append, List.cons_append, List.append_nil, Option.toList_some, Option.toList_none, List.getElem?_cons_zero, List.getElem?_cons_succ, List.set_cons_zero, List.set_cons_succ, List.length_cons, List.length_nil, reduceIte, reduceCtorEq, and_true, true_and, and_self, or_true, true_or, false_and, and_false, not_true_eq_false, not_false_eq_true, true_implies, false_implies, implies_true, Nat.reduceAdd, Nat.reduceLT, Nat.reduceEqDiff, Nat.reduceLeDiff, Nat.reduceBEq, Nat.zero_add, Nat.lt_add_one, Bool.false_eq_true, Bool.or_false, Bool.or_true, Bool.or_self, Nat.zero_ne_one, Nat.one_ne_zero, ite_true, ite_false, ne_eq, Nat.reduceSub, Nat.succ_eq_add_one, Nat.zero_lt_succ, Nat.add_one_ne_zero, false_or, or_false, mX6_yawn_c, mX6_yawn_n, mX6_yawn_r, mX6_yawn_l, dX6_yawn_0, dX6_yawn_1, dX6_yawn_4, tg_4_22, cnd1_eq, dX6_yawn_7, dX6_yawn_8, ic_0, dX6_yawn_9, bc_10, dX6_yawn_11, dX6_yawn_14, tg_14_12, dX6_yawn_17, dX6_yawn_18, dX6_yawn_19, ic_1, dX6_yawn_20, dX6_yawn_23, tg_23_5, cnd1_ne, dX6_yawn_26, ic_m1, dX6_yawn_27, dX6_yawn_28, dX6_yawn_29, dX6_yawn_31, dX6_yawn_32, dX6_yawn_34, dX6_yawn_35, dX6_yawn_37, dX6_yawn_39, dX6_yawn_40, fl_6_10_6, dX6_yawn_43, fl_6_61_0, dX6_yawn_46, tg_46_45, cnd2_ge, dX6_yawn_49, dX6_yawn_50, dX6_yawn_53, dX6_yawn_55, dX6_yawn_56, dX6_yawn_59, dX6_yawn_60, dX6_yawn_63, fl_6_72_0, dX6_yawn_66, tg_66_19, cnd2_lt, dX6_yawn_69, dX6_yawn_71, dX6_yawn_73, dX6_yawn_74, dX6_yawn_75, dX6_yawn_76, dX6_yawn_78, dX6_yawn_80, dX6_yawn_82, dX6_yawn_83, dX6_yawn_85, dX6_yawn_88, tg_88_m51, dX6_yawn_91, dX6_yawn_93, dX6_yawn_95, dX6_yawn_98, dX6_yawn_100, dX6_yawn_101, tg_101_8, dX6_yawn_104, dX6_yawn_106, tg_106_5, dX6_yawn_109, dX6_yawn_111, dX6_yawn_113, dX6_yawn_114, jX6_yawn_1_79, jX6_yawn_1_57, jX6_yawn_0_82, jX6_yawn_1_184, st_aload_n, st_bipush, st_getfield, st_goto, st_iconst, st_idiv, st_ifCond, st_if_icmp, st_iinc, st_iload, st_iload_n, st_imul, st_invokestatic, st_invokevirtual, st_ireturn, st_istore, st_isub]
      refine ⟨fun d1 => ?_, fun d1 => ?_⟩
      · rw [yw, if_pos d1] at hj1
        exact hj1
      · rw [yw, if_neg d1] at hj1
        exact hj1
  exact loop P 0 (by omega)
/-- the object's own field -/
theorem XW.sH {Γ : Cx} {lab : Nat → Nat} {X : XA} {ψ : XS} {σ : Hp} (h : XW Γ lab X ψ σ) (b : Bool) : XW Γ lab X (ψ.1, ψ.2.1, ψ.2.2.1, ψ.2.2.2.1, b, ψ.2.2.2.2.2) (hput σ X.1 (XE X b)) := by
  have hf : frm (fun q => (fun k => k = 0) (lab q)) σ (hput σ X.1 (XE X b)) := hput_frm h.1.2.2.1
  obtain ⟨⟨a1, a2, a3, a4⟩, bb, ⟨f0, c1, c2⟩, ⟨d, d'⟩, ⟨⟨t, e⟩, e'⟩, f, ⟨g, g'⟩, i, ⟨⟨p, j⟩, j', j''⟩, ⟨⟨s, k⟩, k'⟩, l⟩ := h
  have hne : X.2.1 ≠ X.1 := ne_of c1 bb (fun z => by unfold shA XE at z; cases z)
  refine ⟨⟨a1, a2, a3, a4⟩, by simp only [hput, va_up_self], ⟨f0, by simp only [hput]; rw [va_up_ne _ _ hne]; exact c1, c2⟩, ⟨keepC (J := fun k => k = 0) d d' hf (by decide), d'⟩, ⟨⟨t, keepC (J := fun k => k = 0) e e' hf (by decide)⟩, e'⟩, keepP (J := fun k => k = 0) f hf (by decide), ⟨keepC (J := fun k => k = 0) g g' hf (by decide), g'⟩, keepP (J := fun k => k = 0) i hf (by decide), ⟨⟨p, j.keep hf.1 (fun q hq => hf.2 q (nJ (J := fun k => k = 0) (j' q hq) (by decide)))⟩, j', j''⟩, ⟨⟨s, k.keep hf.1 (fun q hq => hf.2 q (nJ (J := fun k => k = 0) (k' q hq) (by decide)))⟩, k'⟩, fun q hq => ⟨(l q hq).1.keep hf.1 (fun r hr => hf.2 r (nJ (J := fun k => k = 0) ((l q hq).2 r hr) (by omega))), (l q hq).2⟩⟩
def x_image (ψ : XS) : XS × Int32 := ((ψ.1, bec ψ.2.1 ψ.1, ψ.2.2.1, (becM ψ.2.2.2.1.1 ψ.2.2.1.1 ψ.2.2.1.2, ψ.2.2.1.2), true, ψ.2.2.2.2.2), 1)
def sp_X6_image (Γ : Cx) : YSp := fun av σ K => xq Γ [] (fn x_image) PX av σ K
theorem rv_X6_image {Γ : Cx} : Recv (sp_X6_image Γ) 0 6 := by
  intro av σ K h
  obtain ⟨q, fs, h1, h2, h3⟩ := rv_xq h
  exact ⟨q, _, fs, h1, rfl, h2, h3⟩
theorem bw_632 : Cond.code yX2_become cX2_become 3 none ∈ BW := bw_i 632 (by decide +kernel) (by decide +kernel)
theorem no_X2_become : NameOK yX2_become 1 := by unfold NameOK; decide +kernel
theorem bw_629 : Cond.methodLink RX6 187 yX2_become ∈ BW := bw_i 629 (by decide +kernel) (by decide +kernel)
theorem bw_630 : Cond.instanceMethod yX2_become ∈ BW := bw_i 630 (by decide +kernel) (by decide +kernel)
theorem bw_631 : Cond.selects RX2 yX2_become yX2_become ∈ BW := bw_i 631 (by decide +kernel) (by decide +kernel)
def mX6_image : Mt := (⟨3, 0, 0, 103⟩, RX6, cX6_image, 1, some .int, (0, 0), none)
theorem mX6_image_c : mX6_image.2.2.1 = cX6_image := rfl
theorem mX6_image_n : mX6_image.2.2.2.1 = 1 := rfl
theorem mX6_image_r : mX6_image.2.2.2.2.1 = some .int := rfl
theorem mX6_image_l : mX6_image.2.2.2.2.2.2 = none := rfl
def jX6_image (Γ : Cx) : List ((Nat × Nat) × Nat × Bool × YSp) := [((0, 124), 2, false, sp_X0_become Γ), ((0, 187), 2, false, sp_X2_become Γ)]
theorem jX6_image_0_124 (Γ : Cx) : kT (jX6_image Γ) 0 124 = some (2, false, sp_X0_become Γ) := rfl
theorem jX6_image_0_187 (Γ : Cx) : kT (jX6_image Γ) 0 187 = some (2, false, sp_X2_become Γ) := rfl
theorem uX6_image (Γ : Cx) : TbOK Γ mX6_image (fT fX6, cT kX6, kT (jX6_image Γ)) := tb_ok fX6_ok kX6_ok (all_cons ⟨call_V (n := 1) (T := TX0) (N := 9) (ok_X0_become Γ) (rv_X0_become (Γ := Γ)) rfl bw_451 bw_448 bw_449 bw_450 bw_44 no_X0_become ⟨⟨rfl, rfl⟩, ⟨by decide, by decide⟩, ⟨by decide, by decide⟩⟩, fun z => by cases z⟩ (all_cons ⟨call_V (n := 1) (T := TX2) (N := 2) (ok_X2_become Γ) (rv_X2_become (Γ := Γ)) rfl bw_632 bw_629 bw_630 bw_631 bw_45 no_X2_become ⟨⟨rfl, rfl⟩, ⟨by decide, by decide⟩, ⟨by decide, by decide⟩⟩, fun z => by cases z⟩ (all_nil)))
set_option maxRecDepth 20000 in
theorem ok_X6_image (Γ : Cx) : Ok Γ yX6_image mX6_image (sp_X6_image Γ) := by
  refine ok_intro (by decide +kernel) rfl rfl ?_
  intro av σ K h
  obtain ⟨lab, X, ψ, rfl, hW, hpre, h⟩ := h
  obtain ⟨x, sh, ⟨n0, n1, n2, n3⟩, ⟨t0, t1, t2, t3⟩, p, ⟨i0, i1, i2, i3⟩, ip, ⟨ta, tl⟩, ⟨pa, pk⟩, S⟩ := X
  obtain ⟨⟨w, kp, kd, day, gone, draw, P, rule, gd⟩, si, ⟨pc, pn⟩, ⟨qc, qn⟩, hi, ⟨l, len⟩, ss⟩ := ψ
  have hW0 := hW
  obtain ⟨⟨x1, x2, x3, x4⟩, x5, ⟨sf, x6, x7⟩, ⟨cN, lN⟩, ⟨⟨t, cT⟩, lT⟩, pP, ⟨cI, lI⟩, pI, ⟨⟨pl, tT⟩, lTp, hlen⟩, ⟨⟨pls, pPl⟩, lPl⟩, hS⟩ := hW
  simp only at cN lN cT lT pP cI lI pI tT lTp hlen pPl lPl hS x6 x7
  obtain ⟨⟨m1, m2, m3, m4⟩, e1, e2, e3, e4⟩ := id cN
  simp only [XE, ColE, iA] at x1 x2 x5 m1 m2 m3 m4 e1 e2 e3 e4
  unfold fn x_image at h
  simp only at h
  refine ⟨Nat.le_of_ble_eq_true rfl, yvc_ok (uX6_image Γ) (S := []) 60 _ _ _ _ ?_⟩
  simp only [lv_args, Value.category, x1, x5, yvc_s, s1i, s2i, s1l, s2l, sil, s1r, sir, siir, slir, srir, svr, sd1, sd2, lg, lput, ldel, isL_i, isL_r, isL_l, jmp, obj, obj1, fI, fR, arI, arL, arR, hput, f4_0, f4_1, f4_2, f4_3, lc_0, lc_1, rok_i, rok_b, rok_y, strF, fput_1, fput_2, csum_nil, csum_i, csum_l, csum_r, va_up_self, bx_uu, Int.reduceAdd, List.elem_nil, List.elem_cons, List.take_succ_cons, List.take_zero, List.drop_succ_cons, List.drop_zero, List.take_nil, List.drop_nil, List.reverse_cons, List.reverse_nil, List.nil_append, List.cons_append, List.append_nil, Option.toList_some, Option.toList_none, List.getElem?_cons_zero, List.getElem?_cons_succ, List.set_cons_zero, List.set_cons_succ, List.length_cons, List.length_nil, reduceIte, reduceCtorEq, and_true, true_and, and_self, or_true, true_or, false_and, and_false, not_true_eq_false, not_false_eq_true, true_implies, false_implies, implies_true, Nat.reduceAdd, Nat.reduceLT, Nat.reduceEqDiff, Nat.reduceLeDiff, Nat.reduceBEq, Nat.zero_add, Nat.lt_add_one, Bool.false_eq_true, Bool.or_false, Bool.or_true, Bool.or_self, Nat.zero_ne_one, Nat.one_ne_zero, ite_true, ite_false, ne_eq, Nat.reduceSub, Nat.succ_eq_add_one, Nat.zero_lt_succ, Nat.add_one_ne_zero, false_or, or_false, mX6_image_c, mX6_image_n, mX6_image_r, mX6_image_l, dX6_image_0, dX6_image_1, fl_6_26_6, dX6_image_4, dX6_image_5, fl_6_10_6, dX6_image_8, dX6_image_11, dX6_image_12, fl_6_29_6, dX6_image_15, dX6_image_16, fl_6_22_6, dX6_image_19, dX6_image_22, dX6_image_23, ic_1, dX6_image_24, fl_6_32_6, dX6_image_27, dX6_image_28, jX6_image_0_124, jX6_image_0_187, st_aload_n, st_getfield, st_iconst, st_invokevirtual, st_ireturn, st_putfield]
  refine ⟨(i0, i1, i2, i3), (n0, n1, n2, n3), si, _, rfl, ap_lab lI lN (by decide), cI, cN, ?_⟩
  have hW1 := hW0.sI (csetL (Γ := Γ) lI) (cI.set (bec si (w, kp, kd, day, gone, draw, P, rule, gd)))
  have hf1 : frm (fX lab) σ (cset Γ (i0, i1, i2, i3) (bec si (w, kp, kd, day, gone, draw, P, rule, gd)) σ) := frmX (csetL lI) (by decide)
  simp only at hW1
  generalize cset Γ (i0, i1, i2, i3) (bec si (w, kp, kd, day, gone, draw, P, rule, gd)) σ = σ1 at hW1 hf1 ⊢
  obtain ⟨⟨y1, -⟩, y5, -, -, -, pP1, -, pI1, -⟩ := id hW1
  simp only [XE] at y1 y5 pP1 pI1
  refine yvc_ok (uX6_image Γ) (S := []) 60 _ _ _ _ ?_
  simp only [y1, y5, yvc_s, s1i, s2i, s1l, s2l, sil, s1r, sir, siir, slir, srir, svr, sd1, sd2, lg, lput, ldel, isL_i, isL_r, isL_l, jmp, obj, obj1, fI, fR, arI, arL, arR, hput, f4_0, f4_1, f4_2, f4_3, lc_0, lc_1, rok_i, rok_b, rok_y, strF, fput_1, fput_2, csum_nil, csum_i, csum_l, csum_r, va_up_self, bx_uu, Int.reduceAdd, List.elem_nil, List.elem_cons, List.take_succ_cons, List.take_zero, List.drop_succ_cons, List.drop_zero, List.take_nil, List.drop_nil, List.reverse_cons, List.reverse_nil, List.nil_append, List.cons_append, List.append_nil, Option.toList_some, Option.toList_none, List.getElem?_cons_zero, List.getElem?_cons_succ, List.set_cons_zero, List.set_cons_succ, List.length_cons, List.length_nil, reduceIte, reduceCtorEq, and_true, true_and, and_self, or_true, true_or, false_and, and_false, not_true_eq_false, not_false_eq_true, true_implies, false_implies, implies_true, Nat.reduceAdd, Nat.reduceLT, Nat.reduceEqDiff, Nat.reduceLeDiff, Nat.reduceBEq, Nat.zero_add, Nat.lt_add_one, Bool.false_eq_true, Bool.or_false, Bool.or_true, Bool.or_self, Nat.zero_ne_one, Nat.one_ne_zero, ite_true, ite_false, ne_eq, Nat.reduceSub, Nat.succ_eq_add_one, Nat.zero_lt_succ, Nat.add_one_ne_zero, false_or, or_false, mX6_image_c, mX6_image_n, mX6_image_r, mX6_image_l, dX6_image_0, dX6_image_1, fl_6_26_6, dX6_image_4, dX6_image_5, fl_6_10_6, dX6_image_8, dX6_image_11, dX6_image_12, fl_6_29_6, dX6_image_15, dX6_image_16, fl_6_22_6, dX6_image_19, dX6_image_22, dX6_image_23, ic_1, dX6_image_24, fl_6_32_6, dX6_image_27, dX6_image_28, jX6_image_0_124, jX6_image_0_187, st_aload_n, st_getfield, st_iconst, st_invokevirtual, st_ireturn, st_putfield]
  refine ⟨fL lab 5, fL lab 3, ip, p, qc, pc, qn, pn, rfl, pI1, pP1, fun q z1 z2 => by have : lab q = 5 := z1; have : lab q = 3 := z2; omega, fun σ2 hf2 hP2 => ?_⟩
  have hW2 := hW1.sJ hf2 hP2
  have hW3 := hW2.sH true
  have hk := h _ _ _ rfl ((hf1.tr (frmX hf2 (by decide))).tr (frmX (hputL hW0.1.2.2.1) (by decide))) hW3
  obtain ⟨⟨z1, -⟩, z5, -⟩ := id hW2
  simp only [XE, hput, bI_t] at z1 z5 hk
  refine yvc_ok (uX6_image Γ) (S := []) 60 _ _ _ _ ?_
  simp only [z1, z5, yvc_s, s1i, s2i, s1l, s2l, sil, s1r, sir, siir, slir, srir, svr, sd1, sd2, lg, lput, ldel, isL_i, isL_r, isL_l, jmp, obj, obj1, fI, fR, arI, arL, arR, hput, f4_0, f4_1, f4_2, f4_3, lc_0, lc_1, rok_i, rok_b, rok_y, strF, fput_1, fput_2, csum_nil, csum_i, csum_l, csum_r, va_up_self, bx_uu, Int.reduceAdd, List.elem_nil, List.elem_cons, List.take_succ_cons, List.take_zero, List.drop_succ_cons, List.drop_zero, List.take_nil, List.drop_nil, List.reverse_cons, List.reverse_nil, List.nil_append, List.cons_append, List.append_nil, Option.toList_some, Option.toList_none, List.getElem?_cons_zero, List.getElem?_cons_succ, List.set_cons_zero, List.set_cons_succ, List.length_cons, List.length_nil, reduceIte, reduceCtorEq, and_true, true_and, and_self, or_true, true_or, false_and, and_false, not_true_eq_false, not_false_eq_true, true_implies, false_implies, implies_true, Nat.reduceAdd, Nat.reduceLT, Nat.reduceEqDiff, Nat.reduceLeDiff, Nat.reduceBEq, Nat.zero_add, Nat.lt_add_one, Bool.false_eq_true, Bool.or_false, Bool.or_true, Bool.or_self, Nat.zero_ne_one, Nat.one_ne_zero, ite_true, ite_false, ne_eq, Nat.reduceSub, Nat.succ_eq_add_one, Nat.zero_lt_succ, Nat.add_one_ne_zero, false_or, or_false, mX6_image_c, mX6_image_n, mX6_image_r, mX6_image_l, dX6_image_0, dX6_image_1, fl_6_26_6, dX6_image_4, dX6_image_5, fl_6_10_6, dX6_image_8, dX6_image_11, dX6_image_12, fl_6_29_6, dX6_image_15, dX6_image_16, fl_6_22_6, dX6_image_19, dX6_image_22, dX6_image_23, ic_1, dX6_image_24, fl_6_32_6, dX6_image_27, dX6_image_28, jX6_image_0_124, jX6_image_0_187, st_aload_n, st_getfield, st_iconst, st_invokevirtual, st_ireturn, st_putfield]
  exact hk
def x_restore (ψ : XS) : XS × Int32 := if ψ.2.2.2.2.1 = true then ((bec ψ.1 ψ.2.1, ψ.2.1, (becM ψ.2.2.1.1 ψ.2.2.2.1.1 ψ.2.2.2.1.2, ψ.2.2.2.1.2), ψ.2.2.2), 1) else (ψ, -4)
def sp_X6_restore (Γ : Cx) : YSp := fun av σ K => xq Γ [] (fn x_restore) PX av σ K
theorem rv_X6_restore {Γ : Cx} : Recv (sp_X6_restore Γ) 0 6 := by
  intro av σ K h
  obtain ⟨q, fs, h1, h2, h3⟩ := rv_xq h
  exact ⟨q, _, fs, h1, rfl, h2, h3⟩
def mX6_restore : Mt := (⟨3, 0, 0, 103⟩, RX6, cX6_restore, 1, some .int, (0, 0), none)
theorem mX6_restore_c : mX6_restore.2.2.1 = cX6_restore := rfl
theorem mX6_restore_n : mX6_restore.2.2.2.1 = 1 := rfl
theorem mX6_restore_r : mX6_restore.2.2.2.2.1 = some .int := rfl
theorem mX6_restore_l : mX6_restore.2.2.2.2.2.2 = none := rfl
def jX6_restore (Γ : Cx) : List ((Nat × Nat) × Nat × Bool × YSp) := [((0, 124), 2, false, sp_X0_become Γ), ((0, 187), 2, false, sp_X2_become Γ)]
theorem jX6_restore_0_124 (Γ : Cx) : kT (jX6_restore Γ) 0 124 = some (2, false, sp_X0_become Γ) := rfl
theorem jX6_restore_0_187 (Γ : Cx) : kT (jX6_restore Γ) 0 187 = some (2, false, sp_X2_become Γ) := rfl
theorem uX6_restore (Γ : Cx) : TbOK Γ mX6_restore (fT fX6, cT kX6, kT (jX6_restore Γ)) := tb_ok fX6_ok kX6_ok (all_cons ⟨call_V (n := 1) (T := TX0) (N := 9) (ok_X0_become Γ) (rv_X0_become (Γ := Γ)) rfl bw_451 bw_448 bw_449 bw_450 bw_44 no_X0_become ⟨⟨rfl, rfl⟩, ⟨by decide, by decide⟩, ⟨by decide, by decide⟩⟩, fun z => by cases z⟩ (all_cons ⟨call_V (n := 1) (T := TX2) (N := 2) (ok_X2_become Γ) (rv_X2_become (Γ := Γ)) rfl bw_632 bw_629 bw_630 bw_631 bw_45 no_X2_become ⟨⟨rfl, rfl⟩, ⟨by decide, by decide⟩, ⟨by decide, by decide⟩⟩, fun z => by cases z⟩ (all_nil)))
set_option maxRecDepth 20000 in
theorem ok_X6_restore (Γ : Cx) : Ok Γ yX6_restore mX6_restore (sp_X6_restore Γ) := by
  refine ok_intro (by decide +kernel) rfl rfl ?_
  intro av σ K h
  obtain ⟨lab, X, ψ, rfl, hW, hpre, h⟩ := h
  obtain ⟨x, sh, ⟨n0, n1, n2, n3⟩, ⟨t0, t1, t2, t3⟩, p, ⟨i0, i1, i2, i3⟩, ip, ⟨ta, tl⟩, ⟨pa, pk⟩, S⟩ := X
  obtain ⟨⟨w, kp, kd, day, gone, draw, P, rule, gd⟩, si, ⟨pc, pn⟩, ⟨qc, qn⟩, hi, ⟨l, len⟩, ss⟩ := ψ
  have hW0 := hW
  obtain ⟨⟨x1, x2, x3, x4⟩, x5, ⟨sf, x6, x7⟩, ⟨cN, lN⟩, ⟨⟨t, cT⟩, lT⟩, pP, ⟨cI, lI⟩, pI, ⟨⟨pl, tT⟩, lTp, hlen⟩, ⟨⟨pls, pPl⟩, lPl⟩, hS⟩ := hW
  simp only at cN lN cT lT pP cI lI pI tT lTp hlen pPl lPl hS x6 x7
  obtain ⟨⟨m1, m2, m3, m4⟩, e1, e2, e3, e4⟩ := id cN
  simp only [XE, ColE, iA] at x1 x2 x5 m1 m2 m3 m4 e1 e2 e3 e4
  unfold fn x_restore at h
  simp only at h
  refine ⟨Nat.le_of_ble_eq_true rfl, yvc_ok (uX6_restore Γ) (S := []) 60 _ _ _ _ ?_⟩
  simp only [lv_args, Value.category, x1, x5, bI_eq0, Bool.not_eq_false, yvc_s, s1i, s2i, s1l, s2l, sil, s1r, sir, siir, slir, srir, svr, sd1, sd2, lg, lput, ldel, isL_i, isL_r, isL_l, jmp, obj, obj1, fI, fR, arI, arL, arR, hput, f4_0, f4_1, f4_2, f4_3, lc_0, lc_1, rok_i, rok_b, rok_y, strF, fput_1, fput_2, csum_nil, csum_i, csum_l, csum_r, va_up_self, bx_uu, Int.reduceAdd, List.elem_nil, List.elem_cons, List.take_succ_cons, List.take_zero, List.drop_succ_cons, List.drop_zero, List.take_nil, List.drop_nil, List.reverse_cons, List.reverse_nil, List.nil_append, List.cons_append, List.append_nil, Option.toList_some, Option.toList_none, List.getElem?_cons_zero, List.getElem?_cons_succ, List.set_cons_zero, List.set_cons_succ, List.length_cons, List.length_nil, reduceIte, reduceCtorEq, and_true, true_and, and_self, or_true, true_or, false_and, and_false, not_true_eq_false, not_false_eq_true, true_implies, false_implies, implies_true, Nat.reduceAdd, Nat.reduceLT, Nat.reduceEqDiff, Nat.reduceLeDiff, Nat.reduceBEq, Nat.zero_add, Nat.lt_add_one, Bool.false_eq_true, Bool.or_false, Bool.or_true, Bool.or_self, Nat.zero_ne_one, Nat.one_ne_zero, ite_true, ite_false, ne_eq, Nat.reduceSub, Nat.succ_eq_add_one, Nat.zero_lt_succ, Nat.add_one_ne_zero, false_or, or_false, mX6_restore_c, mX6_restore_n, mX6_restore_r, mX6_restore_l, dX6_restore_0, dX6_restore_1, fl_6_32_6, dX6_restore_4, tg_4_6, cnd1_ne, dX6_restore_7, bc_m4, dX6_restore_9, dX6_restore_10, dX6_restore_11, fl_6_10_6, dX6_restore_14, dX6_restore_15, fl_6_26_6, dX6_restore_18, dX6_restore_21, dX6_restore_22, fl_6_22_6, dX6_restore_25, dX6_restore_26, fl_6_29_6, dX6_restore_29, dX6_restore_32, ic_1, dX6_restore_33, jX6_restore_0_124, jX6_restore_0_187, st_aload_n, st_bipush, st_getfield, st_iconst, st_ifCond, st_invokevirtual, st_ireturn]
  refine ⟨fun c => ?_, fun c => ?_⟩
  · rw [if_pos c] at h
    refine ⟨(n0, n1, n2, n3), (i0, i1, i2, i3), _, si, rfl, ap_lab lN lI (by decide), cN, cI, ?_⟩
    have hW1 := hW0.sN (csetL (Γ := Γ) lN) (cN.set (bec (w, kp, kd, day, gone, draw, P, rule, gd) si))
    have hf1 : frm (fX lab) σ (cset Γ (n0, n1, n2, n3) (bec (w, kp, kd, day, gone, draw, P, rule, gd) si) σ) := frmX (csetL lN) (by decide)
    simp only at hW1
    generalize cset Γ (n0, n1, n2, n3) (bec (w, kp, kd, day, gone, draw, P, rule, gd) si) σ = σ1 at hW1 hf1 ⊢
    obtain ⟨⟨y1, -⟩, y5, -, -, -, pP1, -, pI1, -⟩ := id hW1
    simp only [XE] at y1 y5 pP1 pI1
    refine yvc_ok (uX6_restore Γ) (S := []) 60 _ _ _ _ ?_
    simp only [y1, y5, yvc_s, s1i, s2i, s1l, s2l, sil, s1r, sir, siir, slir, srir, svr, sd1, sd2, lg, lput, ldel, isL_i, isL_r, isL_l, jmp, obj, obj1, fI, fR, arI, arL, arR, hput, f4_0, f4_1, f4_2, f4_3, lc_0, lc_1, rok_i, rok_b, rok_y, strF, fput_1, fput_2, csum_nil, csum_i, csum_l, csum_r, va_up_self, bx_uu, Int.reduceAdd, List.elem_nil, List.elem_cons, List.take_succ_cons, List.take_zero, List.drop_succ_cons, List.drop_zero, List.take_nil, List.drop_nil, List.reverse_cons, List.reverse_nil, List.nil_append, List.cons_append, List.append_nil, Option.toList_some, Option.toList_none, List.getElem?_cons_zero, List.getElem?_cons_succ, List.set_cons_zero, List.set_cons_succ, List.length_cons, List.length_nil, reduceIte, reduceCtorEq, and_true, true_and, and_self, or_true, true_or, false_and, and_false, not_true_eq_false, not_false_eq_true, true_implies, false_implies, implies_true, Nat.reduceAdd, Nat.reduceLT, Nat.reduceEqDiff, Nat.reduceLeDiff, Nat.reduceBEq, Nat.zero_add, Nat.lt_add_one, Bool.false_eq_true, Bool.or_false, Bool.or_true, Bool.or_self, Nat.zero_ne_one, Nat.one_ne_zero, ite_true, ite_false, ne_eq, Nat.reduceSub, Nat.succ_eq_add_one, Nat.zero_lt_succ, Nat.add_one_ne_zero, false_or, or_false, mX6_restore_c, mX6_restore_n, mX6_restore_r, mX6_restore_l, dX6_restore_0, dX6_restore_1, fl_6_32_6, dX6_restore_4, tg_4_6, cnd1_ne, dX6_restore_7, bc_m4, dX6_restore_9, dX6_restore_10, dX6_restore_11, fl_6_10_6, dX6_restore_14, dX6_restore_15, fl_6_26_6, dX6_restore_18, dX6_restore_21, dX6_restore_22, fl_6_22_6, dX6_restore_25, dX6_restore_26, fl_6_29_6, dX6_restore_29, dX6_restore_32, ic_1, dX6_restore_33, jX6_restore_0_124, jX6_restore_0_187, st_aload_n, st_bipush, st_getfield, st_iconst, st_ifCond, st_invokevirtual, st_ireturn]
    refine ⟨fL lab 3, fL lab 5, p, ip, pc, qc, pn, qn, rfl, pP1, pI1, fun q z1 z2 => by have : lab q = 3 := z1; have : lab q = 5 := z2; omega, fun σ2 hf2 hP2 => ?_⟩
    have hW2 := hW1.sP hf2 hP2
    have hk := h _ _ _ rfl (hf1.tr (frmX hf2 (by decide))) hW2
    refine yvc_ok (uX6_restore Γ) (S := []) 60 _ _ _ _ ?_
    simp only [yvc_s, s1i, s2i, s1l, s2l, sil, s1r, sir, siir, slir, srir, svr, sd1, sd2, lg, lput, ldel, isL_i, isL_r, isL_l, jmp, obj, obj1, fI, fR, arI, arL, arR, hput, f4_0, f4_1, f4_2, f4_3, lc_0, lc_1, rok_i, rok_b, rok_y, strF, fput_1, fput_2, csum_nil, csum_i, csum_l, csum_r, va_up_self, bx_uu, Int.reduceAdd, List.elem_nil, List.elem_cons, List.take_succ_cons, List.take_zero, List.drop_succ_cons, List.drop_zero, List.take_nil, List.drop_nil, List.reverse_cons, List.reverse_nil, List.nil_append, List.cons_append, List.append_nil, Option.toList_some, Option.toList_none, List.getElem?_cons_zero, List.getElem?_cons_succ, List.set_cons_zero, List.set_cons_succ, List.length_cons, List.length_nil, reduceIte, reduceCtorEq, and_true, true_and, and_self, or_true, true_or, false_and, and_false, not_true_eq_false, not_false_eq_true, true_implies, false_implies, implies_true, Nat.reduceAdd, Nat.reduceLT, Nat.reduceEqDiff, Nat.reduceLeDiff, Nat.reduceBEq, Nat.zero_add, Nat.lt_add_one, Bool.false_eq_true, Bool.or_false, Bool.or_true, Bool.or_self, Nat.zero_ne_one, Nat.one_ne_zero, ite_true, ite_false, ne_eq, Nat.reduceSub, Nat.succ_eq_add_one, Nat.zero_lt_succ, Nat.add_one_ne_zero, false_or, or_false, mX6_restore_c, mX6_restore_n, mX6_restore_r, mX6_restore_l, dX6_restore_0, dX6_restore_1, fl_6_32_6, dX6_restore_4, tg_4_6, cnd1_ne, dX6_restore_7, bc_m4, dX6_restore_9, dX6_restore_10, dX6_restore_11, fl_6_10_6, dX6_restore_14, dX6_restore_15, fl_6_26_6, dX6_restore_18, dX6_restore_21, dX6_restore_22, fl_6_22_6, dX6_restore_25, dX6_restore_26, fl_6_29_6, dX6_restore_29, dX6_restore_32, ic_1, dX6_restore_33, jX6_restore_0_124, jX6_restore_0_187, st_aload_n, st_bipush, st_getfield, st_iconst, st_ifCond, st_invokevirtual, st_ireturn]
    exact hk
  · rw [if_neg c] at h
    exact h σ _ _ rfl frm.rf hW0
