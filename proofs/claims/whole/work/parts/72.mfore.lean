/-! ===== YawnKeysModel: what is foretold ===== -/
theorem ft_no {ok : XS → Prop} {f : XS → CS → Int32} {ψ ψ' : XS} {r : Int32} (h : ft ok f ψ ψ' r) (z : ¬ ok ψ) : ψ' = ψ ∧ r = -1 := ⟨h.1, h.2.elim (fun y => absurd y.1 z) (fun y => y.2)⟩
theorem ft_yes {ok : XS → Prop} {f : XS → CS → Int32} {ψ ψ' : XS} {r : Int32} (h : ft ok f ψ ψ' r) (z : ok ψ) : ψ' = ψ ∧ ∃ t, r = f ψ t := ⟨h.1, h.2.elim (fun y => y.2) (fun y => absurd z y.1)⟩
def sp_X7_keeper (Γ : Cx) : YSp := fun av σ K => ∃ (x : Int32) (y : Int32), mo Γ [.int x, .int y] (ft (fun _ => inr x 0 3 = true ∧ inr y 0 60 = true) (fun ψ t => (daysC (bec t ψ.1) y.toNatClampNeg).2.1 x.toNatClampNeg)) av σ K
theorem rv_X7_keeper {Γ : Cx} : Recv (sp_X7_keeper Γ) 2 7 := by
  intro av σ K h
  obtain ⟨x, y, h⟩ := h
  obtain ⟨q, fs, h1, h2, h3⟩ := rv_mo h
  exact ⟨q, _, fs, h1, rfl, h2, h3⟩
theorem bw_961 : Cond.code yX7_goDays cX7_goDays 3 none ∈ BW := bw_i 961 (by decide +kernel) (by decide +kernel)
theorem no_X7_goDays : NameOK yX7_goDays 1 := by unfold NameOK; decide +kernel
theorem bw_958 : Cond.methodLink RX7 198 yX7_goDays ∈ BW := bw_i 958 (by decide +kernel) (by decide +kernel)
theorem bw_960 : Cond.instanceMethod yX7_goDays ∈ BW := bw_i 960 (by decide +kernel) (by decide +kernel)
theorem bw_34 : Cond.selects RX7 yX7_goDays yX7_goDays ∈ BW := bw_i 34 (by decide +kernel) (by decide +kernel)
def mX7_keeper : Mt := (⟨4, 0, 0, 91⟩, RX7, cX7_keeper, 3, some .int, (0, 0), none)
theorem mX7_keeper_c : mX7_keeper.2.2.1 = cX7_keeper := rfl
theorem mX7_keeper_n : mX7_keeper.2.2.2.1 = 3 := rfl
theorem mX7_keeper_r : mX7_keeper.2.2.2.2.1 = some .int := rfl
theorem mX7_keeper_l : mX7_keeper.2.2.2.2.2.2 = none := rfl
def jX7_keeper (Γ : Cx) : List ((Nat × Nat) × Nat × Bool × YSp) := [((1, 111), 1, true, sp_X7_isDoor Γ), ((1, 63), 3, true, sp_X7_lies Γ), ((0, 122), 1, false, sp_X7_aside Γ), ((0, 198), 2, false, sp_X7_goDays Γ)]
theorem jX7_keeper_1_111 (Γ : Cx) : kT (jX7_keeper Γ) 1 111 = some (1, true, sp_X7_isDoor Γ) := rfl
theorem jX7_keeper_1_63 (Γ : Cx) : kT (jX7_keeper Γ) 1 63 = some (3, true, sp_X7_lies Γ) := rfl
theorem jX7_keeper_0_122 (Γ : Cx) : kT (jX7_keeper Γ) 0 122 = some (1, false, sp_X7_aside Γ) := rfl
theorem jX7_keeper_0_198 (Γ : Cx) : kT (jX7_keeper Γ) 0 198 = some (2, false, sp_X7_goDays Γ) := rfl
theorem uX7_keeper (Γ : Cx) : TbOK Γ mX7_keeper (fT fX7, cT kX7, kT (jX7_keeper Γ)) := tb_ok fX7_ok kX7_ok (all_cons ⟨call_S (n := 1) (ok_X7_isDoor Γ) (rv_X7_isDoor (Γ := Γ)) bw_813 bw_811 bw_812 bw_49 no_X7_isDoor ⟨⟨rfl, rfl⟩, ⟨by decide, by decide⟩, ⟨by decide, by decide⟩⟩, fun _ => mono_X7_isDoor (Γ := Γ)⟩ (all_cons ⟨call_S (n := 3) (ok_X7_lies Γ) (rv_X7_lies (Γ := Γ)) bw_797 bw_795 bw_796 bw_49 no_X7_lies ⟨⟨rfl, rfl⟩, ⟨by decide, by decide⟩, ⟨by decide, by decide⟩⟩, fun _ => mono_X7_lies (Γ := Γ)⟩ (all_cons ⟨call_V (n := 0) (T := TX7) (N := 26) (ok_X7_aside Γ) (rv_X7_aside (Γ := Γ)) rfl bw_835 bw_832 bw_834 bw_17 bw_49 no_X7_aside ⟨⟨rfl, rfl⟩, ⟨by decide, by decide⟩, ⟨by decide, by decide⟩⟩, fun z => by cases z⟩ (all_cons ⟨call_V (n := 1) (T := TX7) (N := 26) (ok_X7_goDays Γ) (rv_X7_goDays (Γ := Γ)) rfl bw_961 bw_958 bw_960 bw_34 bw_49 no_X7_goDays ⟨⟨rfl, rfl⟩, ⟨by decide, by decide⟩, ⟨by decide, by decide⟩⟩, fun z => by cases z⟩ (all_nil)))))
set_option maxRecDepth 20000 in
theorem ok_X7_keeper (Γ : Cx) : Ok Γ yX7_keeper mX7_keeper (sp_X7_keeper Γ) := by
  refine ok_intro (by decide +kernel) rfl rfl ?_
  intro av σ K h
  obtain ⟨x, y, h⟩ := h
  obtain ⟨lab, ⟨a, ad⟩, ⟨sc, ar, it⟩, ψ, ψ', r, rfl, hM, hR, hrel, h⟩ := h
  try simp only at h
  obtain ⟨⟨m1, -⟩, e1, -⟩ := id hM
  obtain ⟨⟨p1, p2, p3, p4, pI, p5, p6, p7⟩, hImg, h16, hT, hSh⟩ := id hR
  have hP := pI.P5
  simp only at p1 p2 p3 p4 p5 p6 p7 hImg h16 hT hSh
  simp only [ME] at m1 e1
  have no : ¬ (inr x 0 3 = true ∧ inr y 0 60 = true) → K (some (.int (-1))) σ := fun z => by
    obtain ⟨u1, u2⟩ := ft_no hrel z
    rw [u1, u2] at h
    exact h _ _ hR frm.rf hM
  refine ⟨Nat.le_of_ble_eq_true rfl, yvc_ok (uX7_keeper Γ) (S := []) 60 _ _ _ _ ?_⟩
  simp only [lv_args, Value.category, sp_X7_isDoor, sp_X6_isDoor, sp_X7_lies, inL_060, bI_eq0, Bool.not_eq_false, yvc_s, s1i, s2i, s1l, s2l, sil, s1r, sir, siir, slir, srir, svr, sd1, sd2, lg, lput, ldel, isL_i, isL_r, isL_l, jmp, obj, obj1, fI, fR, arI, arL, arR, hput, f4_0, f4_1, f4_2, f4_3, lc_0, lc_1, rok_i, rok_b, rok_y, strF, fput_1, fput_2, csum_nil, csum_i, csum_l, csum_r, va_up_self, bx_uu, Int.reduceAdd, List.elem_nil, List.elem_cons, List.take_succ_cons, List.take_zero, List.drop_succ_cons, List.drop_zero, List.take_nil, List.drop_nil, List.reverse_cons, List.reverse_nil, List.nil_append, List.cons_append, List.append_nil, Option.toList_some, Option.toList_none, List.getElem?_cons_zero, List.getElem?_cons_succ, List.set_cons_zero, List.set_cons_succ, List.length_cons, List.length_nil, reduceIte, reduceCtorEq, and_true, true_and, and_self, or_true, true_or, false_and, and_false, not_true_eq_false, not_false_eq_true, true_implies, false_implies, implies_true, Nat.reduceAdd, Nat.reduceLT, Nat.reduceEqDiff, Nat.reduceLeDiff, Nat.reduceBEq, Nat.zero_add, Nat.lt_add_one, Bool.false_eq_true, Bool.or_false, Bool.or_true, Bool.or_self, Nat.zero_ne_one, Nat.one_ne_zero, ite_true, ite_false, ne_eq, Nat.reduceSub, Nat.succ_eq_add_one, Nat.zero_lt_succ, Nat.add_one_ne_zero, false_or, or_false, mX7_keeper_c, mX7_keeper_n, mX7_keeper_r, mX7_keeper_l, dX7_keeper_0, dX7_keeper_1, dX7_keeper_4, tg_4_15, cnd1_eq, dX7_keeper_7, dX7_keeper_8, dX7_keeper_9, dX7_keeper_10, cl_7_196, dX7_keeper_13, dX7_keeper_16, tg_16_5, cnd1_ne, dX7_keeper_19, ic_m1, dX7_keeper_20, dX7_keeper_21, dX7_keeper_22, dX7_keeper_25, dX7_keeper_26, dX7_keeper_27, dX7_keeper_30, dX7_keeper_31, fl_7_20_7, dX7_keeper_34, bc_20, dX7_keeper_36, dX7_keeper_37, dX7_keeper_38, dX7_keeper_39, jX7_keeper_1_111, jX7_keeper_1_63, jX7_keeper_0_122, jX7_keeper_0_198, st_aload_n, st_bipush, st_getfield, st_i2l, st_iadd, st_iaload, st_iconst, st_ifCond, st_iload_n, st_invokestatic, st_invokevirtual, st_ireturn, st_lconst, st_ldc2_w]
  refine ⟨fun c => no (fun z => by rw [z.1] at c; cases c), fun c => ⟨fun d => ?_, fun d => no (fun z => d z.2)⟩⟩
  obtain ⟨u1, t, u2⟩ := ft_yes hrel ⟨c, d⟩
  rw [u1, u2] at h
  try simp only at h
  obtain ⟨q, hq, rfl⟩ := door_n c
  obtain ⟨N, hN, rfl⟩ := in_n (B := 60) (by decide) d
  obtain ⟨i1, i2⟩ := ix20 hq
  rw [nI_clamp (show N < 2 ^ 31 by omega), nI_clamp (show q < 2 ^ 31 by omega)] at h
  refine ⟨lab, (a, ad), _, rfl, hM, trivial, ?_⟩
  rintro σ1 s1 r ⟨rfl, rfl⟩ hf1 hM1
  have hL := like_bec (t := t) hP
  refine yvc_ok (uX7_keeper Γ) (S := []) 60 _ _ _ _ ?_
  simp only [yvc_s, s1i, s2i, s1l, s2l, sil, s1r, sir, siir, slir, srir, svr, sd1, sd2, lg, lput, ldel, isL_i, isL_r, isL_l, jmp, obj, obj1, fI, fR, arI, arL, arR, hput, f4_0, f4_1, f4_2, f4_3, lc_0, lc_1, rok_i, rok_b, rok_y, strF, fput_1, fput_2, csum_nil, csum_i, csum_l, csum_r, va_up_self, bx_uu, Int.reduceAdd, List.elem_nil, List.elem_cons, List.take_succ_cons, List.take_zero, List.drop_succ_cons, List.drop_zero, List.take_nil, List.drop_nil, List.reverse_cons, List.reverse_nil, List.nil_append, List.cons_append, List.append_nil, Option.toList_some, Option.toList_none, List.getElem?_cons_zero, List.getElem?_cons_succ, List.set_cons_zero, List.set_cons_succ, List.length_cons, List.length_nil, reduceIte, reduceCtorEq, and_true, true_and, and_self, or_true, true_or, false_and, and_false, not_true_eq_false, not_false_eq_true, true_implies, false_implies, implies_true, Nat.reduceAdd, Nat.reduceLT, Nat.reduceEqDiff, Nat.reduceLeDiff, Nat.reduceBEq, Nat.zero_add, Nat.lt_add_one, Bool.false_eq_true, Bool.or_false, Bool.or_true, Bool.or_self, Nat.zero_ne_one, Nat.one_ne_zero, ite_true, ite_false, ne_eq, Nat.reduceSub, Nat.succ_eq_add_one, Nat.zero_lt_succ, Nat.add_one_ne_zero, false_or, or_false, mX7_keeper_c, mX7_keeper_n, mX7_keeper_r, mX7_keeper_l, dX7_keeper_0, dX7_keeper_1, dX7_keeper_4, tg_4_15, cnd1_eq, dX7_keeper_7, dX7_keeper_8, dX7_keeper_9, dX7_keeper_10, cl_7_196, dX7_keeper_13, dX7_keeper_16, tg_16_5, cnd1_ne, dX7_keeper_19, ic_m1, dX7_keeper_20, dX7_keeper_21, dX7_keeper_22, dX7_keeper_25, dX7_keeper_26, dX7_keeper_27, dX7_keeper_30, dX7_keeper_31, fl_7_20_7, dX7_keeper_34, bc_20, dX7_keeper_36, dX7_keeper_37, dX7_keeper_38, dX7_keeper_39, jX7_keeper_1_111, jX7_keeper_1_63, jX7_keeper_0_122, jX7_keeper_0_198, st_aload_n, st_bipush, st_getfield, st_i2l, st_iadd, st_iaload, st_iconst, st_ifCond, st_iload_n, st_invokestatic, st_invokevirtual, st_ireturn, st_lconst, st_ldc2_w]
  refine ⟨N, bec t ψ.1, lab, (a, ad), _, rfl, hM1, ⟨hR.sd hL, (hL.ci pI).ds, by omega⟩, ?_⟩
  rintro σ2 ⟨sc2, ar2, it2⟩ r ⟨hF2, hS2, rfl⟩ hf2 hM2
  have hk := h _ _ (hR.asd.fr hF2) (hf1.tr hf2) hM2
  generalize daysC (bec t ψ.1) N = z at hS2 hk
  have hkp : ar2 4 (20 + q) = z.2.1 q := hS2.2.2.1 q hq
  obtain ⟨⟨m1, -⟩, e1, -⟩ := id hM2
  obtain ⟨m4, e4⟩ := hM2.arr 4 rfl
  simp only [ME, iA, lenM] at m1 e1 m4 e4
  refine yvc_ok (uX7_keeper Γ) (S := []) 60 _ _ _ _ ?_
  simp only [m1, e1, m4, e4, i1, i2, hkp, yvc_s, s1i, s2i, s1l, s2l, sil, s1r, sir, siir, slir, srir, svr, sd1, sd2, lg, lput, ldel, isL_i, isL_r, isL_l, jmp, obj, obj1, fI, fR, arI, arL, arR, hput, f4_0, f4_1, f4_2, f4_3, lc_0, lc_1, rok_i, rok_b, rok_y, strF, fput_1, fput_2, csum_nil, csum_i, csum_l, csum_r, va_up_self, bx_uu, Int.reduceAdd, List.elem_nil, List.elem_cons, List.take_succ_cons, List.take_zero, List.drop_succ_cons, List.drop_zero, List.take_nil, List.drop_nil, List.reverse_cons, List.reverse_nil, List.nil_append, List.cons_append, List.append_nil, Option.toList_some, Option.toList_none, List.getElem?_cons_zero, List.getElem?_cons_succ, List.set_cons_zero, List.set_cons_succ, List.length_cons, List.length_nil, reduceIte, reduceCtorEq, and_true, true_and, and_self, or_true, true_or, false_and, and_false, not_true_eq_false, not_false_eq_true, true_implies, false_implies, implies_true, Nat.reduceAdd, Nat.reduceLT, Nat.reduceEqDiff, Nat.reduceLeDiff, Nat.reduceBEq, Nat.zero_add, Nat.lt_add_one, Bool.false_eq_true, Bool.or_false, Bool.or_true, Bool.or_self, Nat.zero_ne_one, Nat.one_ne_zero, ite_true, ite_false, ne_eq, Nat.reduceSub, Nat.succ_eq_add_one, Nat.zero_lt_succ, Nat.add_one_ne_zero, false_or, or_false, mX7_keeper_c, mX7_keeper_n, mX7_keeper_r, mX7_keeper_l, dX7_keeper_0, dX7_keeper_1, dX7_keeper_4, tg_4_15, cnd1_eq, dX7_keeper_7, dX7_keeper_8, dX7_keeper_9, dX7_keeper_10, cl_7_196, dX7_keeper_13, dX7_keeper_16, tg_16_5, cnd1_ne, dX7_keeper_19, ic_m1, dX7_keeper_20, dX7_keeper_21, dX7_keeper_22, dX7_keeper_25, dX7_keeper_26, dX7_keeper_27, dX7_keeper_30, dX7_keeper_31, fl_7_20_7, dX7_keeper_34, bc_20, dX7_keeper_36, dX7_keeper_37, dX7_keeper_38, dX7_keeper_39, jX7_keeper_1_111, jX7_keeper_1_63, jX7_keeper_0_122, jX7_keeper_0_198, st_aload_n, st_bipush, st_getfield, st_i2l, st_iadd, st_iaload, st_iconst, st_ifCond, st_iload_n, st_invokestatic, st_invokevirtual, st_ireturn, st_lconst, st_ldc2_w]
  exact hk
def sp_X7_ahead (Γ : Cx) : YSp := fun av σ K => ∃ (x : Int32) (y : Int32) (z : Int32), mo Γ [.int x, .int y, .int z] (ft (fun ψ => inr x 0 (nI ψ.1.2.2.2.2.2.2.1 - 1) = true ∧ inr y 0 3 = true ∧ inr z 0 60 = true) (fun ψ t => (daysC (bec t ψ.1) z.toNatClampNeg).1 (ix x y))) av σ K
theorem rv_X7_ahead {Γ : Cx} : Recv (sp_X7_ahead Γ) 3 7 := by
  intro av σ K h
  obtain ⟨x, y, z, h⟩ := h
  obtain ⟨q, fs, h1, h2, h3⟩ := rv_mo h
  exact ⟨q, _, fs, h1, rfl, h2, h3⟩
def mX7_ahead : Mt := (⟨4, 0, 0, 91⟩, RX7, cX7_ahead, 4, some .int, (0, 0), none)
theorem mX7_ahead_c : mX7_ahead.2.2.1 = cX7_ahead := rfl
theorem mX7_ahead_n : mX7_ahead.2.2.2.1 = 4 := rfl
theorem mX7_ahead_r : mX7_ahead.2.2.2.2.1 = some .int := rfl
theorem mX7_ahead_l : mX7_ahead.2.2.2.2.2.2 = none := rfl
def jX7_ahead (Γ : Cx) : List ((Nat × Nat) × Nat × Bool × YSp) := [((0, 107), 2, true, sp_X7_isOne Γ), ((1, 111), 1, true, sp_X7_isDoor Γ), ((1, 63), 3, true, sp_X7_lies Γ), ((0, 122), 1, false, sp_X7_aside Γ), ((0, 198), 2, false, sp_X7_goDays Γ)]
theorem jX7_ahead_0_107 (Γ : Cx) : kT (jX7_ahead Γ) 0 107 = some (2, true, sp_X7_isOne Γ) := rfl
theorem jX7_ahead_1_111 (Γ : Cx) : kT (jX7_ahead Γ) 1 111 = some (1, true, sp_X7_isDoor Γ) := rfl
theorem jX7_ahead_1_63 (Γ : Cx) : kT (jX7_ahead Γ) 1 63 = some (3, true, sp_X7_lies Γ) := rfl
theorem jX7_ahead_0_122 (Γ : Cx) : kT (jX7_ahead Γ) 0 122 = some (1, false, sp_X7_aside Γ) := rfl
theorem jX7_ahead_0_198 (Γ : Cx) : kT (jX7_ahead Γ) 0 198 = some (2, false, sp_X7_goDays Γ) := rfl
theorem uX7_ahead (Γ : Cx) : TbOK Γ mX7_ahead (fT fX7, cT kX7, kT (jX7_ahead Γ)) := tb_ok fX7_ok kX7_ok (all_cons ⟨call_V (n := 1) (T := TX7) (N := 26) (ok_X7_isOne Γ) (rv_X7_isOne (Γ := Γ)) rfl bw_810 bw_807 bw_809 bw_14 bw_49 no_X7_isOne ⟨⟨rfl, rfl⟩, ⟨by decide, by decide⟩, ⟨by decide, by decide⟩⟩, fun _ => mono_X7_isOne (Γ := Γ)⟩ (all_cons ⟨call_S (n := 1) (ok_X7_isDoor Γ) (rv_X7_isDoor (Γ := Γ)) bw_813 bw_811 bw_812 bw_49 no_X7_isDoor ⟨⟨rfl, rfl⟩, ⟨by decide, by decide⟩, ⟨by decide, by decide⟩⟩, fun _ => mono_X7_isDoor (Γ := Γ)⟩ (all_cons ⟨call_S (n := 3) (ok_X7_lies Γ) (rv_X7_lies (Γ := Γ)) bw_797 bw_795 bw_796 bw_49 no_X7_lies ⟨⟨rfl, rfl⟩, ⟨by decide, by decide⟩, ⟨by decide, by decide⟩⟩, fun _ => mono_X7_lies (Γ := Γ)⟩ (all_cons ⟨call_V (n := 0) (T := TX7) (N := 26) (ok_X7_aside Γ) (rv_X7_aside (Γ := Γ)) rfl bw_835 bw_832 bw_834 bw_17 bw_49 no_X7_aside ⟨⟨rfl, rfl⟩, ⟨by decide, by decide⟩, ⟨by decide, by decide⟩⟩, fun z => by cases z⟩ (all_cons ⟨call_V (n := 1) (T := TX7) (N := 26) (ok_X7_goDays Γ) (rv_X7_goDays (Γ := Γ)) rfl bw_961 bw_958 bw_960 bw_34 bw_49 no_X7_goDays ⟨⟨rfl, rfl⟩, ⟨by decide, by decide⟩, ⟨by decide, by decide⟩⟩, fun z => by cases z⟩ (all_nil))))))
set_option maxRecDepth 20000 in
theorem ok_X7_ahead (Γ : Cx) : Ok Γ yX7_ahead mX7_ahead (sp_X7_ahead Γ) := by
  refine ok_intro (by decide +kernel) rfl rfl ?_
  intro av σ K h
  obtain ⟨x, y, z, h⟩ := h
  obtain ⟨lab, ⟨a, ad⟩, ⟨sc, ar, it⟩, ψ, ψ', r, rfl, hM, hR, hrel, h⟩ := h
  try simp only at h
  obtain ⟨⟨m1, -⟩, e1, -⟩ := id hM
  obtain ⟨⟨p1, p2, p3, p4, pI, p5, p6, p7⟩, hImg, h16, hT, hSh⟩ := id hR
  have hP := pI.P5
  simp only at p1 p2 p3 p4 p5 p6 p7 hImg h16 hT hSh
  simp only [ME] at m1 e1
  have no : ¬ (inr x 0 (nI ψ.1.2.2.2.2.2.2.1 - 1) = true ∧ inr y 0 3 = true ∧ inr z 0 60 = true) → K (some (.int (-1))) σ := fun z => by
    obtain ⟨u1, u2⟩ := ft_no hrel z
    rw [u1, u2] at h
    exact h _ _ hR frm.rf hM
  rw [p1] at e1
  refine ⟨Nat.le_of_ble_eq_true rfl, yvc_ok (uX7_ahead Γ) (S := []) 60 _ _ _ _ ?_⟩
  simp only [lv_args, Value.category, m1, e1, sp_X7_isOne, sp_X7_isDoor, sp_X6_isDoor, sp_X7_lies, inL_060, bI_eq0, Bool.not_eq_false, yvc_s, s1i, s2i, s1l, s2l, sil, s1r, sir, siir, slir, srir, svr, sd1, sd2, lg, lput, ldel, isL_i, isL_r, isL_l, jmp, obj, obj1, fI, fR, arI, arL, arR, hput, f4_0, f4_1, f4_2, f4_3, lc_0, lc_1, rok_i, rok_b, rok_y, strF, fput_1, fput_2, csum_nil, csum_i, csum_l, csum_r, va_up_self, bx_uu, Int.reduceAdd, List.elem_nil, List.elem_cons, List.take_succ_cons, List.take_zero, List.drop_succ_cons, List.drop_zero, List.take_nil, List.drop_nil, List.reverse_cons, List.reverse_nil, List.nil_append, List.cons_append, List.append_nil, Option.toList_some, Option.toList_none, List.getElem?_cons_zero, List.getElem?_cons_succ, List.set_cons_zero, List.set_cons_succ, List.length_cons, List.length_nil, reduceIte, reduceCtorEq, and_true, true_and, and_self, or_true, true_or, false_and, and_false, not_true_eq_false, not_false_eq_true, true_implies, false_implies, implies_true, Nat.reduceAdd, Nat.reduceLT, Nat.reduceEqDiff, Nat.reduceLeDiff, Nat.reduceBEq, Nat.zero_add, Nat.lt_add_one, Bool.false_eq_true, Bool.or_false, Bool.or_true, Bool.or_self, Nat.zero_ne_one, Nat.one_ne_zero, ite_true, ite_false, ne_eq, Nat.reduceSub, Nat.succ_eq_add_one, Nat.zero_lt_succ, Nat.add_one_ne_zero, false_or, or_false, mX7_ahead_c, mX7_ahead_n, mX7_ahead_r, mX7_ahead_l, dX7_ahead_0, dX7_ahead_1, dX7_ahead_2, dX7_ahead_5, tg_5_22, cnd1_eq, dX7_ahead_8, dX7_ahead_9, dX7_ahead_12, tg_12_15, dX7_ahead_15, dX7_ahead_16, dX7_ahead_17, dX7_ahead_18, cl_7_196, dX7_ahead_21, dX7_ahead_24, tg_24_5, cnd1_ne, dX7_ahead_27, ic_m1, dX7_ahead_28, dX7_ahead_29, dX7_ahead_30, dX7_ahead_33, dX7_ahead_34, dX7_ahead_35, dX7_ahead_38, dX7_ahead_39, fl_7_20_7, dX7_ahead_42, ic_4, dX7_ahead_43, dX7_ahead_44, dX7_ahead_45, dX7_ahead_46, dX7_ahead_47, dX7_ahead_48, jX7_ahead_0_107, jX7_ahead_1_111, jX7_ahead_1_63, jX7_ahead_0_122, jX7_ahead_0_198, st_aload_n, st_getfield, st_i2l, st_iadd, st_iaload, st_iconst, st_ifCond, st_iload_n, st_imul, st_invokestatic, st_invokevirtual, st_ireturn, st_lconst, st_ldc2_w]
  refine ⟨fun c0 => no (fun z => by rw [z.1] at c0; cases c0), fun c0 => ⟨fun c => no (fun z => by rw [z.2.1] at c; cases c), fun c => ⟨fun d => ?_, fun d => no (fun z => d z.2.2)⟩⟩⟩
  obtain ⟨u1, t, u2⟩ := ft_yes hrel ⟨c0, c, d⟩
  rw [u1, u2] at h
  try simp only at h
  obtain ⟨p, hp, rfl⟩ := has_n hP c0
  obtain ⟨q, hq, rfl⟩ := door_n c
  obtain ⟨N, hN, rfl⟩ := in_n (B := 60) (by decide) d
  obtain ⟨i1, i2⟩ := ix4 (show p < 5 by omega) hq
  rw [nI_clamp (show N < 2 ^ 31 by omega), ix_n (by omega) hq] at h
  refine ⟨lab, (a, ad), _, rfl, hM, trivial, ?_⟩
  rintro σ1 s1 r ⟨rfl, rfl⟩ hf1 hM1
  have hL := like_bec (t := t) hP
  refine yvc_ok (uX7_ahead Γ) (S := []) 60 _ _ _ _ ?_
  simp only [yvc_s, s1i, s2i, s1l, s2l, sil, s1r, sir, siir, slir, srir, svr, sd1, sd2, lg, lput, ldel, isL_i, isL_r, isL_l, jmp, obj, obj1, fI, fR, arI, arL, arR, hput, f4_0, f4_1, f4_2, f4_3, lc_0, lc_1, rok_i, rok_b, rok_y, strF, fput_1, fput_2, csum_nil, csum_i, csum_l, csum_r, va_up_self, bx_uu, Int.reduceAdd, List.elem_nil, List.elem_cons, List.take_succ_cons, List.take_zero, List.drop_succ_cons, List.drop_zero, List.take_nil, List.drop_nil, List.reverse_cons, List.reverse_nil, List.nil_append, List.cons_append, List.append_nil, Option.toList_some, Option.toList_none, List.getElem?_cons_zero, List.getElem?_cons_succ, List.set_cons_zero, List.set_cons_succ, List.length_cons, List.length_nil, reduceIte, reduceCtorEq, and_true, true_and, and_self, or_true, true_or, false_and, and_false, not_true_eq_false, not_false_eq_true, true_implies, false_implies, implies_true, Nat.reduceAdd, Nat.reduceLT, Nat.reduceEqDiff, Nat.reduceLeDiff, Nat.reduceBEq, Nat.zero_add, Nat.lt_add_one, Bool.false_eq_true, Bool.or_false, Bool.or_true, Bool.or_self, Nat.zero_ne_one, Nat.one_ne_zero, ite_true, ite_false, ne_eq, Nat.reduceSub, Nat.succ_eq_add_one, Nat.zero_lt_succ, Nat.add_one_ne_zero, false_or, or_false, mX7_ahead_c, mX7_ahead_n, mX7_ahead_r, mX7_ahead_l, dX7_ahead_0, dX7_ahead_1, dX7_ahead_2, dX7_ahead_5, tg_5_22, cnd1_eq, dX7_ahead_8, dX7_ahead_9, dX7_ahead_12, tg_12_15, dX7_ahead_15, dX7_ahead_16, dX7_ahead_17, dX7_ahead_18, cl_7_196, dX7_ahead_21, dX7_ahead_24, tg_24_5, cnd1_ne, dX7_ahead_27, ic_m1, dX7_ahead_28, dX7_ahead_29, dX7_ahead_30, dX7_ahead_33, dX7_ahead_34, dX7_ahead_35, dX7_ahead_38, dX7_ahead_39, fl_7_20_7, dX7_ahead_42, ic_4, dX7_ahead_43, dX7_ahead_44, dX7_ahead_45, dX7_ahead_46, dX7_ahead_47, dX7_ahead_48, jX7_ahead_0_107, jX7_ahead_1_111, jX7_ahead_1_63, jX7_ahead_0_122, jX7_ahead_0_198, st_aload_n, st_getfield, st_i2l, st_iadd, st_iaload, st_iconst, st_ifCond, st_iload_n, st_imul, st_invokestatic, st_invokevirtual, st_ireturn, st_lconst, st_ldc2_w]
  refine ⟨N, bec t ψ.1, lab, (a, ad), _, rfl, hM1, ⟨hR.sd hL, (hL.ci pI).ds, by omega⟩, ?_⟩
  rintro σ2 ⟨sc2, ar2, it2⟩ r ⟨hF2, hS2, rfl⟩ hf2 hM2
  have hk := h _ _ (hR.asd.fr hF2) (hf1.tr hf2) hM2
  have hPz := (daysC_eq (bec t ψ.1) N).2.1
  generalize daysC (bec t ψ.1) N = z at hS2 hk hPz
  have hkp : ar2 4 (4 * p + q) = z.1 (4 * p + q) := hS2.2.1 _ (by rw [hPz]; show 4 * p + q < 4 * ψ.1.2.2.2.2.2.2.1; omega)
  obtain ⟨⟨m1, -⟩, e1, -⟩ := id hM2
  obtain ⟨m4, e4⟩ := hM2.arr 4 rfl
  simp only [ME, iA, lenM] at m1 e1 m4 e4
  refine yvc_ok (uX7_ahead Γ) (S := []) 60 _ _ _ _ ?_
  simp only [m1, e1, m4, e4, i1, i2, hkp, yvc_s, s1i, s2i, s1l, s2l, sil, s1r, sir, siir, slir, srir, svr, sd1, sd2, lg, lput, ldel, isL_i, isL_r, isL_l, jmp, obj, obj1, fI, fR, arI, arL, arR, hput, f4_0, f4_1, f4_2, f4_3, lc_0, lc_1, rok_i, rok_b, rok_y, strF, fput_1, fput_2, csum_nil, csum_i, csum_l, csum_r, va_up_self, bx_uu, Int.reduceAdd, List.elem_nil, List.elem_cons, List.take_succ_cons, List.take_zero, List.drop_succ_cons, List.drop_zero, List.take_nil, List.drop_nil, List.reverse_cons, List.reverse_nil, List.nil_append, List.cons_append, List.append_nil, Option.toList_some, Option.toList_none, List.getElem?_cons_zero, List.getElem?_cons_succ, List.set_cons_zero, List.set_cons_succ, List.length_cons, List.length_nil, reduceIte, reduceCtorEq, and_true, true_and, and_self, or_true, true_or, false_and, and_false, not_true_eq_false, not_false_eq_true, true_implies, false_implies, implies_true, Nat.reduceAdd, Nat.reduceLT, Nat.reduceEqDiff, Nat.reduceLeDiff, Nat.reduceBEq, Nat.zero_add, Nat.lt_add_one, Bool.false_eq_true, Bool.or_false, Bool.or_true, Bool.or_self, Nat.zero_ne_one, Nat.one_ne_zero, ite_true, ite_false, ne_eq, Nat.reduceSub, Nat.succ_eq_add_one, Nat.zero_lt_succ, Nat.add_one_ne_zero, false_or, or_false, mX7_ahead_c, mX7_ahead_n, mX7_ahead_r, mX7_ahead_l, dX7_ahead_0, dX7_ahead_1, dX7_ahead_2, dX7_ahead_5, tg_5_22, cnd1_eq, dX7_ahead_8, dX7_ahead_9, dX7_ahead_12, tg_12_15, dX7_ahead_15, dX7_ahead_16, dX7_ahead_17, dX7_ahead_18, cl_7_196, dX7_ahead_21, dX7_ahead_24, tg_24_5, cnd1_ne, dX7_ahead_27, ic_m1, dX7_ahead_28, dX7_ahead_29, dX7_ahead_30, dX7_ahead_33, dX7_ahead_34, dX7_ahead_35, dX7_ahead_38, dX7_ahead_39, fl_7_20_7, dX7_ahead_42, ic_4, dX7_ahead_43, dX7_ahead_44, dX7_ahead_45, dX7_ahead_46, dX7_ahead_47, dX7_ahead_48, jX7_ahead_0_107, jX7_ahead_1_111, jX7_ahead_1_63, jX7_ahead_0_122, jX7_ahead_0_198, st_aload_n, st_getfield, st_i2l, st_iadd, st_iaload, st_iconst, st_ifCond, st_iload_n, st_imul, st_invokestatic, st_invokevirtual, st_ireturn, st_lconst, st_ldc2_w]
  exact hk
def sp_X7_then (Γ : Cx) : YSp := fun av σ K => ∃ (x : Int32), mo Γ [.int x] (ft (fun _ => inr x 0 60 = true) (fun ψ t => (daysC (bec t ψ.1) x.toNatClampNeg).2.2.2.2.1)) av σ K
theorem rv_X7_then {Γ : Cx} : Recv (sp_X7_then Γ) 1 7 := by
  intro av σ K h
  obtain ⟨x, h⟩ := h
  obtain ⟨q, fs, h1, h2, h3⟩ := rv_mo h
  exact ⟨q, _, fs, h1, rfl, h2, h3⟩
def mX7_then : Mt := (⟨4, 0, 0, 91⟩, RX7, cX7_then, 2, some .int, (0, 0), none)
theorem mX7_then_c : mX7_then.2.2.1 = cX7_then := rfl
theorem mX7_then_n : mX7_then.2.2.2.1 = 2 := rfl
theorem mX7_then_r : mX7_then.2.2.2.2.1 = some .int := rfl
theorem mX7_then_l : mX7_then.2.2.2.2.2.2 = none := rfl
def jX7_then (Γ : Cx) : List ((Nat × Nat) × Nat × Bool × YSp) := [((1, 63), 3, true, sp_X7_lies Γ), ((0, 122), 1, false, sp_X7_aside Γ), ((0, 198), 2, false, sp_X7_goDays Γ)]
theorem jX7_then_1_63 (Γ : Cx) : kT (jX7_then Γ) 1 63 = some (3, true, sp_X7_lies Γ) := rfl
theorem jX7_then_0_122 (Γ : Cx) : kT (jX7_then Γ) 0 122 = some (1, false, sp_X7_aside Γ) := rfl
theorem jX7_then_0_198 (Γ : Cx) : kT (jX7_then Γ) 0 198 = some (2, false, sp_X7_goDays Γ) := rfl
theorem uX7_then (Γ : Cx) : TbOK Γ mX7_then (fT fX7, cT kX7, kT (jX7_then Γ)) := tb_ok fX7_ok kX7_ok (all_cons ⟨call_S (n := 3) (ok_X7_lies Γ) (rv_X7_lies (Γ := Γ)) bw_797 bw_795 bw_796 bw_49 no_X7_lies ⟨⟨rfl, rfl⟩, ⟨by decide, by decide⟩, ⟨by decide, by decide⟩⟩, fun _ => mono_X7_lies (Γ := Γ)⟩ (all_cons ⟨call_V (n := 0) (T := TX7) (N := 26) (ok_X7_aside Γ) (rv_X7_aside (Γ := Γ)) rfl bw_835 bw_832 bw_834 bw_17 bw_49 no_X7_aside ⟨⟨rfl, rfl⟩, ⟨by decide, by decide⟩, ⟨by decide, by decide⟩⟩, fun z => by cases z⟩ (all_cons ⟨call_V (n := 1) (T := TX7) (N := 26) (ok_X7_goDays Γ) (rv_X7_goDays (Γ := Γ)) rfl bw_961 bw_958 bw_960 bw_34 bw_49 no_X7_goDays ⟨⟨rfl, rfl⟩, ⟨by decide, by decide⟩, ⟨by decide, by decide⟩⟩, fun z => by cases z⟩ (all_nil))))
set_option maxRecDepth 20000 in
theorem ok_X7_then (Γ : Cx) : Ok Γ yX7_then mX7_then (sp_X7_then Γ) := by
  refine ok_intro (by decide +kernel) rfl rfl ?_
  intro av σ K h
  obtain ⟨x, h⟩ := h
  obtain ⟨lab, ⟨a, ad⟩, ⟨sc, ar, it⟩, ψ, ψ', r, rfl, hM, hR, hrel, h⟩ := h
  try simp only at h
  obtain ⟨⟨m1, -⟩, e1, -⟩ := id hM
  obtain ⟨⟨p1, p2, p3, p4, pI, p5, p6, p7⟩, hImg, h16, hT, hSh⟩ := id hR
  have hP := pI.P5
  simp only at p1 p2 p3 p4 p5 p6 p7 hImg h16 hT hSh
  simp only [ME] at m1 e1
  refine ⟨Nat.le_of_ble_eq_true rfl, yvc_ok (uX7_then Γ) (S := []) 60 _ _ _ _ ?_⟩
  simp only [lv_args, Value.category, sp_X7_lies, inL_060, bI_eq0, Bool.not_eq_false, yvc_s, s1i, s2i, s1l, s2l, sil, s1r, sir, siir, slir, srir, svr, sd1, sd2, lg, lput, ldel, isL_i, isL_r, isL_l, jmp, obj, obj1, fI, fR, arI, arL, arR, hput, f4_0, f4_1, f4_2, f4_3, lc_0, lc_1, rok_i, rok_b, rok_y, strF, fput_1, fput_2, csum_nil, csum_i, csum_l, csum_r, va_up_self, bx_uu, Int.reduceAdd, List.elem_nil, List.elem_cons, List.take_succ_cons, List.take_zero, List.drop_succ_cons, List.drop_zero, List.take_nil, List.drop_nil, List.reverse_cons, List.reverse_nil, List.nil_append, List.cons_append, List.append_nil, Option.toList_some, Option.toList_none, List.getElem?_cons_zero, List.getElem?_cons_succ, List.set_cons_zero, List.set_cons_succ, List.length_cons, List.length_nil, reduceIte, reduceCtorEq, and_true, true_and, and_self, or_true, true_or, false_and, and_false, not_true_eq_false, not_false_eq_true, true_implies, false_implies, implies_true, Nat.reduceAdd, Nat.reduceLT, Nat.reduceEqDiff, Nat.reduceLeDiff, Nat.reduceBEq, Nat.zero_add, Nat.lt_add_one, Bool.false_eq_true, Bool.or_false, Bool.or_true, Bool.or_self, Nat.zero_ne_one, Nat.one_ne_zero, ite_true, ite_false, ne_eq, Nat.reduceSub, Nat.succ_eq_add_one, Nat.zero_lt_succ, Nat.add_one_ne_zero, false_or, or_false, mX7_then_c, mX7_then_n, mX7_then_r, mX7_then_l, dX7_then_0, dX7_then_1, dX7_then_2, dX7_then_3, cl_7_196, dX7_then_6, dX7_then_9, tg_9_5, cnd1_ne, dX7_then_12, ic_m1, dX7_then_13, dX7_then_14, dX7_then_15, dX7_then_18, dX7_then_19, dX7_then_20, dX7_then_23, dX7_then_24, fl_7_20_7, dX7_then_27, bc_25, dX7_then_29, dX7_then_30, jX7_then_1_63, jX7_then_0_122, jX7_then_0_198, st_aload_n, st_bipush, st_getfield, st_i2l, st_iaload, st_iconst, st_ifCond, st_iload_n, st_invokestatic, st_invokevirtual, st_ireturn, st_lconst, st_ldc2_w]
  refine ⟨fun d => ?_, fun d => ?_⟩
  · obtain ⟨u1, t, u2⟩ := ft_yes hrel d
    rw [u1, u2] at h
    try simp only at h
    obtain ⟨N, hN, rfl⟩ := in_n (B := 60) (by decide) d
    rw [nI_clamp (show N < 2 ^ 31 by omega)] at h
    refine ⟨lab, (a, ad), _, rfl, hM, trivial, ?_⟩
    rintro σ1 s1 r ⟨rfl, rfl⟩ hf1 hM1
    have hL := like_bec (t := t) hP
    refine yvc_ok (uX7_then Γ) (S := []) 60 _ _ _ _ ?_
    simp only [yvc_s, s1i, s2i, s1l, s2l, sil, s1r, sir, siir, slir, srir, svr, sd1, sd2, lg, lput, ldel, isL_i, isL_r, isL_l, jmp, obj, obj1, fI, fR, arI, arL, arR, hput, f4_0, f4_1, f4_2, f4_3, lc_0, lc_1, rok_i, rok_b, rok_y, strF, fput_1, fput_2, csum_nil, csum_i, csum_l, csum_r, va_up_self, bx_uu, Int.reduceAdd, List.elem_nil, List.elem_cons, List.take_succ_cons, List.take_zero, List.drop_succ_cons, List.drop_zero, List.take_nil, List.drop_nil, List.reverse_cons, List.reverse_nil, List.nil_append, List.cons_append, List.append_nil, Option.toList_some, Option.toList_none, List.getElem?_cons_zero, List.getElem?_cons_succ, List.set_cons_zero, List.set_cons_succ, List.length_cons, List.length_nil, reduceIte, reduceCtorEq, and_true, true_and, and_self, or_true, true_or, false_and, and_false, not_true_eq_false, not_false_eq_true, true_implies, false_implies, implies_true, Nat.reduceAdd, Nat.reduceLT, Nat.reduceEqDiff, Nat.reduceLeDiff, Nat.reduceBEq, Nat.zero_add, Nat.lt_add_one, Bool.false_eq_true, Bool.or_false, Bool.or_true, Bool.or_self, Nat.zero_ne_one, Nat.one_ne_zero, ite_true, ite_false, ne_eq, Nat.reduceSub, Nat.succ_eq_add_one, Nat.zero_lt_succ, Nat.add_one_ne_zero, false_or, or_false, mX7_then_c, mX7_then_n, mX7_then_r, mX7_then_l, dX7_then_0, dX7_then_1, dX7_then_2, dX7_then_3, cl_7_196, dX7_then_6, dX7_then_9, tg_9_5, cnd1_ne, dX7_then_12, ic_m1, dX7_then_13, dX7_then_14, dX7_then_15, dX7_then_18, dX7_then_19, dX7_then_20, dX7_then_23, dX7_then_24, fl_7_20_7, dX7_then_27, bc_25, dX7_then_29, dX7_then_30, jX7_then_1_63, jX7_then_0_122, jX7_then_0_198, st_aload_n, st_bipush, st_getfield, st_i2l, st_iaload, st_iconst, st_ifCond, st_iload_n, st_invokestatic, st_invokevirtual, st_ireturn, st_lconst, st_ldc2_w]
    refine ⟨N, bec t ψ.1, lab, (a, ad), _, rfl, hM1, ⟨hR.sd hL, (hL.ci pI).ds, by omega⟩, ?_⟩
    rintro σ2 ⟨sc2, ar2, it2⟩ r ⟨hF2, hS2, rfl⟩ hf2 hM2
    have hk := h _ _ (hR.asd.fr hF2) (hf1.tr hf2) hM2
    generalize daysC (bec t ψ.1) N = z at hS2 hk
    have hkp : ar2 4 25 = z.2.2.2.2.1 := hS2.2.2.2.2.1
    obtain ⟨⟨m1, -⟩, e1, -⟩ := id hM2
    obtain ⟨m4, e4⟩ := hM2.arr 4 rfl
    simp only [ME, iA, lenM] at m1 e1 m4 e4
    refine yvc_ok (uX7_then Γ) (S := []) 60 _ _ _ _ ?_
    simp only [m1, e1, m4, e4, in25_27, n25, hkp, yvc_s, s1i, s2i, s1l, s2l, sil, s1r, sir, siir, slir, srir, svr, sd1, sd2, lg, lput, ldel, isL_i, isL_r, isL_l, jmp, obj, obj1, fI, fR, arI, arL, arR, hput, f4_0, f4_1, f4_2, f4_3, lc_0, lc_1, rok_i, rok_b, rok_y, strF, fput_1, fput_2, csum_nil, csum_i, csum_l, csum_r, va_up_self, bx_uu, Int.reduceAdd, List.elem_nil, List.elem_cons, List.take_succ_cons, List.take_zero, List.drop_succ_cons, List.drop_zero, List.take_nil, List.drop_nil, List.reverse_cons, List.reverse_nil, List.nil_append, List.cons_append, List.append_nil, Option.toList_some, Option.toList_none, List.getElem?_cons_zero, List.getElem?_cons_succ, List.set_cons_zero, List.set_cons_succ, List.length_cons, List.length_nil, reduceIte, reduceCtorEq, and_true, true_and, and_self, or_true, true_or, false_and, and_false, not_true_eq_false, not_false_eq_true, true_implies, false_implies, implies_true, Nat.reduceAdd, Nat.reduceLT, Nat.reduceEqDiff, Nat.reduceLeDiff, Nat.reduceBEq, Nat.zero_add, Nat.lt_add_one, Bool.false_eq_true, Bool.or_false, Bool.or_true, Bool.or_self, Nat.zero_ne_one, Nat.one_ne_zero, ite_true, ite_false, ne_eq, Nat.reduceSub, Nat.succ_eq_add_one, Nat.zero_lt_succ, Nat.add_one_ne_zero, false_or, or_false, mX7_then_c, mX7_then_n, mX7_then_r, mX7_then_l, dX7_then_0, dX7_then_1, dX7_then_2, dX7_then_3, cl_7_196, dX7_then_6, dX7_then_9, tg_9_5, cnd1_ne, dX7_then_12, ic_m1, dX7_then_13, dX7_then_14, dX7_then_15, dX7_then_18, dX7_then_19, dX7_then_20, dX7_then_23, dX7_then_24, fl_7_20_7, dX7_then_27, bc_25, dX7_then_29, dX7_then_30, jX7_then_1_63, jX7_then_0_122, jX7_then_0_198, st_aload_n, st_bipush, st_getfield, st_i2l, st_iaload, st_iconst, st_ifCond, st_iload_n, st_invokestatic, st_invokevirtual, st_ireturn, st_lconst, st_ldc2_w]
    exact hk
  · obtain ⟨u1, u2⟩ := ft_no hrel d
    rw [u1, u2] at h
    exact h _ _ hR frm.rf hM
theorem and1 {x : Int32} : x &&& 1 = 1 ↔ ¬ x &&& 1 = 0 := by
  obtain ⟨j, hj, e⟩ := pk_andE x (m := 1) 1 (by decide)
  rw [e]
  rcases (show j = 0 ∨ j = 1 by omega) with rfl | rfl <;> decide
theorem gbit_1 {g d : Int32} : (g >>> (d &&& 31)) &&& 1 = 1 ↔ gbit g d = true := by
  rw [and1]
  unfold gbit
  simp
theorem lt61 {j : Nat} (h : j < 61) : ¬ (61 : Int32) ≤ nI j := nI_ge h (by decide)
theorem ge61 : (61 : Int32) ≤ nI 61 := by decide
def sp_X7_in (Γ : Cx) : YSp := fun av σ K => ∃ (x : Int32), mo Γ [.int x] (ft (fun _ => inr x 0 3 = true) (fun ψ t => (fgC x 60 1 (bec t ψ.1)).1)) av σ K
theorem rv_X7_in {Γ : Cx} : Recv (sp_X7_in Γ) 1 7 := by
  intro av σ K h
  obtain ⟨x, h⟩ := h
  obtain ⟨q, fs, h1, h2, h3⟩ := rv_mo h
  exact ⟨q, _, fs, h1, rfl, h2, h3⟩
theorem bc_61 : (Int8.ofInt 61).toInt32 = 61 := by decide
theorem tg_18_27 : tgo 18 27 = some 45 := by decide
theorem tg_34_5 : tgo 34 5 = some 39 := by decide
theorem tg_42_m27 : tgo 42 (-27) = some 15 := by decide
def mX7_in : Mt := (⟨3, 0, 0, 69⟩, RX7, cX7_in, 3, some .int, (0, 0), none)
theorem mX7_in_c : mX7_in.2.2.1 = cX7_in := rfl
theorem mX7_in_n : mX7_in.2.2.2.1 = 3 := rfl
theorem mX7_in_r : mX7_in.2.2.2.2.1 = some .int := rfl
theorem mX7_in_l : mX7_in.2.2.2.2.2.2 = none := rfl
def jX7_in (Γ : Cx) : List ((Nat × Nat) × Nat × Bool × YSp) := [((1, 111), 1, true, sp_X7_isDoor Γ), ((0, 122), 1, false, sp_X7_aside Γ), ((0, 97), 1, false, sp_X7_goDay Γ)]
theorem jX7_in_1_111 (Γ : Cx) : kT (jX7_in Γ) 1 111 = some (1, true, sp_X7_isDoor Γ) := rfl
theorem jX7_in_0_122 (Γ : Cx) : kT (jX7_in Γ) 0 122 = some (1, false, sp_X7_aside Γ) := rfl
theorem jX7_in_0_97 (Γ : Cx) : kT (jX7_in Γ) 0 97 = some (1, false, sp_X7_goDay Γ) := rfl
theorem uX7_in (Γ : Cx) : TbOK Γ mX7_in (fT fX7, cT kX7, kT (jX7_in Γ)) := tb_ok fX7_ok kX7_ok (all_cons ⟨call_S (n := 1) (ok_X7_isDoor Γ) (rv_X7_isDoor (Γ := Γ)) bw_813 bw_811 bw_812 bw_49 no_X7_isDoor ⟨⟨rfl, rfl⟩, ⟨by decide, by decide⟩, ⟨by decide, by decide⟩⟩, fun _ => mono_X7_isDoor (Γ := Γ)⟩ (all_cons ⟨call_V (n := 0) (T := TX7) (N := 26) (ok_X7_aside Γ) (rv_X7_aside (Γ := Γ)) rfl bw_835 bw_832 bw_834 bw_17 bw_49 no_X7_aside ⟨⟨rfl, rfl⟩, ⟨by decide, by decide⟩, ⟨by decide, by decide⟩⟩, fun z => by cases z⟩ (all_cons ⟨call_V (n := 0) (T := TX7) (N := 26) (ok_X7_goDay Γ) (rv_X7_goDay (Γ := Γ)) rfl bw_916 bw_913 bw_915 bw_30 bw_49 no_X7_goDay ⟨⟨rfl, rfl⟩, ⟨by decide, by decide⟩, ⟨by decide, by decide⟩⟩, fun z => by cases z⟩ (all_nil))))
set_option maxRecDepth 20000 in
theorem ok_X7_in (Γ : Cx) : Ok Γ yX7_in mX7_in (sp_X7_in Γ) := by
  refine ok_intro (by decide +kernel) rfl rfl ?_
  intro av σ K h
  obtain ⟨x, h⟩ := h
  obtain ⟨lab, ⟨a, ad⟩, ⟨sc, ar, it⟩, ψ, ψ', r, rfl, hM, hR, hrel, h⟩ := h
  try simp only at h
  obtain ⟨⟨m1, -⟩, e1, -⟩ := id hM
  obtain ⟨⟨p1, p2, p3, p4, pI, p5, p6, p7⟩, hImg, h16, hT, hSh⟩ := id hR
  have hP := pI.P5
  simp only at p1 p2 p3 p4 p5 p6 p7 hImg h16 hT hSh
  simp only [ME] at m1 e1
  refine ⟨Nat.le_of_ble_eq_true rfl, yvc_ok (uX7_in Γ) (S := []) 60 _ _ _ _ ?_⟩
  simp only [lv_args, Value.category, sp_X7_isDoor, sp_X6_isDoor, bI_eq0, Bool.not_eq_false, yvc_s, s1i, s2i, s1l, s2l, sil, s1r, sir, siir, slir, srir, svr, sd1, sd2, lg, lput, ldel, isL_i, isL_r, isL_l, jmp, obj, obj1, fI, fR, arI, arL, arR, hput, f4_0, f4_1, f4_2, f4_3, lc_0, lc_1, rok_i, rok_b, rok_y, strF, fput_1, fput_2, csum_nil, csum_i, csum_l, csum_r, va_up_self, bx_uu, Int.reduceAdd, List.elem_nil, List.elem_cons, List.take_succ_cons, List.take_zero, List.drop_succ_cons, List.drop_zero, List.take_nil, List.drop_nil, List.reverse_cons, List.reverse_nil, List.nil_append, List.cons_append, List.append_nil, Option.toList_some, Option.toList_none, List.getElem?_cons_zero, List.getElem?_cons_succ, List.set_cons_zero, List.set_cons_succ, List.length_cons, List.length_nil, reduceIte, reduceCtorEq, and_true, true_and, and_self, or_true, true_or, false_and, and_false, not_true_eq_false, not_false_eq_true, true_implies, false_implies, implies_true, Nat.reduceAdd, Nat.reduceLT, Nat.reduceEqDiff, Nat.reduceLeDiff, Nat.reduceBEq, Nat.zero_add, Nat.lt_add_one, Bool.false_eq_true, Bool.or_false, Bool.or_true, Bool.or_self, Nat.zero_ne_one, Nat.one_ne_zero, ite_true, ite_false, ne_eq, Nat.reduceSub, Nat.succ_eq_add_one, Nat.zero_lt_succ, Nat.add_one_ne_zero, false_or, or_false, mX7_in_c, mX7_in_n, mX7_in_r, mX7_in_l, dX7_in_0, dX7_in_1, dX7_in_4, tg_4_5, cnd1_ne, dX7_in_7, ic_m1, dX7_in_8, dX7_in_9, dX7_in_10, dX7_in_13, ic_1, dX7_in_14, dX7_in_15, dX7_in_16, bc_61, dX7_in_18, tg_18_27, cnd2_ge, dX7_in_21, dX7_in_22, dX7_in_25, dX7_in_26, fl_7_79_7, dX7_in_29, dX7_in_30, dX7_in_31, dX7_in_32, dX7_in_33, dX7_in_34, tg_34_5, cnd2_ne, dX7_in_37, dX7_in_38, dX7_in_39, dX7_in_42, tg_42_m27, dX7_in_45, bc_m4, dX7_in_47, jX7_in_1_111, jX7_in_0_122, jX7_in_0_97, st_aload_n, st_bipush, st_getfield, st_goto, st_iand, st_iconst, st_ifCond, st_if_icmp, st_iinc, st_iload_n, st_invokestatic, st_invokevirtual, st_ireturn, st_ishr, st_istore_n]
  refine ⟨fun d => ?_, fun d => ?_⟩
  · obtain ⟨u1, t, u2⟩ := ft_yes hrel d
    rw [u1, u2] at h
    try simp only at h
    have hL := like_bec (t := t) hP
    obtain ⟨D, hD, hJ⟩ := hL.ci pI
    have loop : ∀ m i : Nat, ∀ (s : CS) (s1 : MS) (σ1 : Hp), i + m = 61 → (∃ E, E ≤ 9999 + i ∧ CJ E s) → frm (fL lab 30) σ σ1 → Mod Γ lab (a, ad) s1 σ1 → SFr (asd (sc, ar, it)) s1 → SD s1 s → (fgC x m i s).1 = (fgC x 60 1 (bec t ψ.1)).1 → YG Γ mX7_in K 15 [(0, .ref a), (1, .int x), (2, .int (nI i))] [] σ1 := by
      intro m
      induction m with
      | zero =>
        intro i s s1 σ1 hi hJ1 hf1 hM1 hF1 hS1 hr
        obtain rfl : i = 61 := by omega
        have hk := h σ1 s1 (hR.asd.fr hF1) hf1 hM1
        rw [← hr] at hk
        refine yvc1_ok (uX7_in Γ) (S := [15]) 40 ?_
        simp only [yvc1, ge61, yvc_s, s1i, s2i, s1l, s2l, sil, s1r, sir, siir, slir, srir, svr, sd1, sd2, lg, lput, ldel, isL_i, isL_r, isL_l, jmp, obj, obj1, fI, fR, arI, arL, arR, hput, f4_0, f4_1, f4_2, f4_3, lc_0, lc_1, rok_i, rok_b, rok_y, strF, fput_1, fput_2, csum_nil, csum_i, csum_l, csum_r, va_up_self, bx_uu, Int.reduceAdd, List.elem_nil, List.elem_cons, List.take_succ_cons, List.take_zero, List.drop_succ_cons, List.drop_zero, List.take_nil, List.drop_nil, List.reverse_cons, List.reverse_nil, List.nil_append, List.cons_append, List.append_nil, Option.toList_some, Option.toList_none, List.getElem?_cons_zero, List.getElem?_cons_succ, List.set_cons_zero, List.set_cons_succ, List.length_cons, List.length_nil, reduceIte, reduceCtorEq, and_true, true_and, and_self, or_true, true_or, false_and, and_false, not_true_eq_false, not_false_eq_true, true_implies, false_implies, implies_true, Nat.reduceAdd, Nat.reduceLT, Nat.reduceEqDiff, Nat.reduceLeDiff, Nat.reduceBEq, Nat.zero_add, Nat.lt_add_one, Bool.false_eq_true, Bool.or_false, Bool.or_true, Bool.or_self, Nat.zero_ne_one, Nat.one_ne_zero, ite_true, ite_false, ne_eq, Nat.reduceSub, Nat.succ_eq_add_one, Nat.zero_lt_succ, Nat.add_one_ne_zero, false_or, or_false, mX7_in_c, mX7_in_n, mX7_in_r, mX7_in_l, dX7_in_0, dX7_in_1, dX7_in_4, tg_4_5, cnd1_ne, dX7_in_7, ic_m1, dX7_in_8, dX7_in_9, dX7_in_10, dX7_in_13, ic_1, dX7_in_14, dX7_in_15, dX7_in_16, bc_61, dX7_in_18, tg_18_27, cnd2_ge, dX7_in_21, dX7_in_22, dX7_in_25, dX7_in_26, fl_7_79_7, dX7_in_29, dX7_in_30, dX7_in_31, dX7_in_32, dX7_in_33, dX7_in_34, tg_34_5, cnd2_ne, dX7_in_37, dX7_in_38, dX7_in_39, dX7_in_42, tg_42_m27, dX7_in_45, bc_m4, dX7_in_47, jX7_in_1_111, jX7_in_0_122, jX7_in_0_97, st_aload_n, st_bipush, st_getfield, st_goto, st_iand, st_iconst, st_ifCond, st_if_icmp, st_iinc, st_iload_n, st_invokestatic, st_invokevirtual, st_ireturn, st_ishr, st_istore_n]
        exact hk
      | succ m ih =>
        intro i s s1 σ1 hi hJ1 hf1 hM1 hF1 hS1 hr
        have c1 := lt61 (show i < 61 by omega)
        refine yvc1_ok (uX7_in Γ) (S := [15]) 40 ?_
        simp only [yvc1, c1, yvc_s, s1i, s2i, s1l, s2l, sil, s1r, sir, siir, slir, srir, svr, sd1, sd2, lg, lput, ldel, isL_i, isL_r, isL_l, jmp, obj, obj1, fI, fR, arI, arL, arR, hput, f4_0, f4_1, f4_2, f4_3, lc_0, lc_1, rok_i, rok_b, rok_y, strF, fput_1, fput_2, csum_nil, csum_i, csum_l, csum_r, va_up_self, bx_uu, Int.reduceAdd, List.elem_nil, List.elem_cons, List.take_succ_cons, List.take_zero, List.drop_succ_cons, List.drop_zero, List.take_nil, List.drop_nil, List.reverse_cons, List.reverse_nil, List.nil_append, List.cons_append, List.append_nil, Option.toList_some, Option.toList_none, List.getElem?_cons_zero, List.getElem?_cons_succ, List.set_cons_zero, List.set_cons_succ, List.length_cons, List.length_nil, reduceIte, reduceCtorEq, and_true, true_and, and_self, or_true, true_or, false_and, and_false, not_true_eq_false, not_false_eq_true, true_implies, false_implies, implies_true, Nat.reduceAdd, Nat.reduceLT, Nat.reduceEqDiff, Nat.reduceLeDiff, Nat.reduceBEq, Nat.zero_add, Nat.lt_add_one, Bool.false_eq_true, Bool.or_false, Bool.or_true, Bool.or_self, Nat.zero_ne_one, Nat.one_ne_zero, ite_true, ite_false, ne_eq, Nat.reduceSub, Nat.succ_eq_add_one, Nat.zero_lt_succ, Nat.add_one_ne_zero, false_or, or_false, mX7_in_c, mX7_in_n, mX7_in_r, mX7_in_l, dX7_in_0, dX7_in_1, dX7_in_4, tg_4_5, cnd1_ne, dX7_in_7, ic_m1, dX7_in_8, dX7_in_9, dX7_in_10, dX7_in_13, ic_1, dX7_in_14, dX7_in_15, dX7_in_16, bc_61, dX7_in_18, tg_18_27, cnd2_ge, dX7_in_21, dX7_in_22, dX7_in_25, dX7_in_26, fl_7_79_7, dX7_in_29, dX7_in_30, dX7_in_31, dX7_in_32, dX7_in_33, dX7_in_34, tg_34_5, cnd2_ne, dX7_in_37, dX7_in_38, dX7_in_39, dX7_in_42, tg_42_m27, dX7_in_45, bc_m4, dX7_in_47, jX7_in_1_111, jX7_in_0_122, jX7_in_0_97, st_aload_n, st_bipush, st_getfield, st_goto, st_iand, st_iconst, st_ifCond, st_if_icmp, st_iinc, st_iload_n, st_invokestatic, st_invokevirtual, st_ireturn, st_ishr, st_istore_n]
        obtain ⟨E, hE, hJ1⟩ := hJ1
        refine ⟨s, lab, (a, ad), s1, rfl, hM1, ⟨hS1, E, hJ1, by omega⟩, ?_⟩
        rintro σ2 ⟨sc2, ar2, it2⟩ r ⟨hF2, hS2, hg2, rfl⟩ hf2 hM2
        have hk := h σ2 _ (hR.asd.fr (hF1.tr hF2)) (hf1.tr hf2) hM2
        have hJ2 := hJ1.step
        rw [fgC] at hr
        generalize dayC s = s' at hS2 hg2 hJ2 hr
        simp only at hg2
        have hy := ih (i + 1) s' _ σ2 (by omega) ⟨E + 1, by omega, hJ2⟩ (hf1.tr hf2) hM2 (hF1.tr hF2) hS2
        obtain ⟨⟨m1, -⟩, e1, -⟩ := id hM2
        simp only [ME] at m1 e1
        rw [hg2] at e1
        refine yvc_ok (uX7_in Γ) (S := [15]) 60 _ _ _ _ ?_
        simp only [m1, e1, gbit_1, nI_1, yvc_s, s1i, s2i, s1l, s2l, sil, s1r, sir, siir, slir, srir, svr, sd1, sd2, lg, lput, ldel, isL_i, isL_r, isL_l, jmp, obj, obj1, fI, fR, arI, arL, arR, hput, f4_0, f4_1, f4_2, f4_3, lc_0, lc_1, rok_i, rok_b, rok_y, strF, fput_1, fput_2, csum_nil, csum_i, csum_l, csum_r, va_up_self, bx_uu, Int.reduceAdd, List.elem_nil, List.elem_cons, List.take_succ_cons, List.take_zero, List.drop_succ_cons, List.drop_zero, List.take_nil, List.drop_nil, List.reverse_cons, List.reverse_nil, List.nil_append, List.cons_append, List.append_nil, Option.toList_some, Option.toList_none, List.getElem?_cons_zero, List.getElem?_cons_succ, List.set_cons_zero, List.set_cons_succ, List.length_cons, List.length_nil, reduceIte, reduceCtorEq, and_true, true_and, and_self, or_true, true_or, false_and, and_false, not_true_eq_false, not_false_eq_true, true_implies, false_implies, implies_true, Nat.reduceAdd, Nat.reduceLT, Nat.reduceEqDiff, Nat.reduceLeDiff, Nat.reduceBEq, Nat.zero_add, Nat.lt_add_one, Bool.false_eq_true, Bool.or_false, Bool.or_true, Bool.or_self, Nat.zero_ne_one, Nat.one_ne_zero, ite_true, ite_false, ne_eq, Nat.reduceSub, Nat.succ_eq_add_one, Nat.zero_lt_succ, Nat.add_one_ne_zero, false_or, or_false, mX7_in_c, mX7_in_n, mX7_in_r, mX7_in_l, dX7_in_0, dX7_in_1, dX7_in_4, tg_4_5, cnd1_ne, dX7_in_7, ic_m1, dX7_in_8, dX7_in_9, dX7_in_10, dX7_in_13, ic_1, dX7_in_14, dX7_in_15, dX7_in_16, bc_61, dX7_in_18, tg_18_27, cnd2_ge, dX7_in_21, dX7_in_22, dX7_in_25, dX7_in_26, fl_7_79_7, dX7_in_29, dX7_in_30, dX7_in_31, dX7_in_32, dX7_in_33, dX7_in_34, tg_34_5, cnd2_ne, dX7_in_37, dX7_in_38, dX7_in_39, dX7_in_42, tg_42_m27, dX7_in_45, bc_m4, dX7_in_47, jX7_in_1_111, jX7_in_0_122, jX7_in_0_97, st_aload_n, st_bipush, st_getfield, st_goto, st_iand, st_iconst, st_ifCond, st_if_icmp, st_iinc, st_iload_n, st_invokestatic, st_invokevirtual, st_ireturn, st_ishr, st_istore_n]
        refine ⟨fun c => ?_, fun c => ?_⟩
        · rw [if_neg c] at hr
          exact hy hr
        · rw [if_pos (Classical.not_not.mp c)] at hr
          rw [← hr] at hk
          exact hk
    refine ⟨lab, (a, ad), _, rfl, hM, trivial, ?_⟩
    rintro σ1 s1 r ⟨rfl, rfl⟩ hf1 hM1
    have hl := loop 60 1 (bec t ψ.1) _ σ1 rfl ⟨D, by omega, hJ⟩ hf1 hM1 SFr.rf (hR.sd hL) rfl
    refine yvc_ok (uX7_in Γ) (S := [15]) 60 _ _ _ _ ?_
    simp only [yvc_s, s1i, s2i, s1l, s2l, sil, s1r, sir, siir, slir, srir, svr, sd1, sd2, lg, lput, ldel, isL_i, isL_r, isL_l, jmp, obj, obj1, fI, fR, arI, arL, arR, hput, f4_0, f4_1, f4_2, f4_3, lc_0, lc_1, rok_i, rok_b, rok_y, strF, fput_1, fput_2, csum_nil, csum_i, csum_l, csum_r, va_up_self, bx_uu, Int.reduceAdd, List.elem_nil, List.elem_cons, List.take_succ_cons, List.take_zero, List.drop_succ_cons, List.drop_zero, List.take_nil, List.drop_nil, List.reverse_cons, List.reverse_nil, List.nil_append, List.cons_append, List.append_nil, Option.toList_some, Option.toList_none, List.getElem?_cons_zero, List.getElem?_cons_succ, List.set_cons_zero, List.set_cons_succ, List.length_cons, List.length_nil, reduceIte, reduceCtorEq, and_true, true_and, and_self, or_true, true_or, false_and, and_false, not_true_eq_false, not_false_eq_true, true_implies, false_implies, implies_true, Nat.reduceAdd, Nat.reduceLT, Nat.reduceEqDiff, Nat.reduceLeDiff, Nat.reduceBEq, Nat.zero_add, Nat.lt_add_one, Bool.false_eq_true, Bool.or_false, Bool.or_true, Bool.or_self, Nat.zero_ne_one, Nat.one_ne_zero, ite_true, ite_false, ne_eq, Nat.reduceSub, Nat.succ_eq_add_one, Nat.zero_lt_succ, Nat.add_one_ne_zero, false_or, or_false, mX7_in_c, mX7_in_n, mX7_in_r, mX7_in_l, dX7_in_0, dX7_in_1, dX7_in_4, tg_4_5, cnd1_ne, dX7_in_7, ic_m1, dX7_in_8, dX7_in_9, dX7_in_10, dX7_in_13, ic_1, dX7_in_14, dX7_in_15, dX7_in_16, bc_61, dX7_in_18, tg_18_27, cnd2_ge, dX7_in_21, dX7_in_22, dX7_in_25, dX7_in_26, fl_7_79_7, dX7_in_29, dX7_in_30, dX7_in_31, dX7_in_32, dX7_in_33, dX7_in_34, tg_34_5, cnd2_ne, dX7_in_37, dX7_in_38, dX7_in_39, dX7_in_42, tg_42_m27, dX7_in_45, bc_m4, dX7_in_47, jX7_in_1_111, jX7_in_0_122, jX7_in_0_97, st_aload_n, st_bipush, st_getfield, st_goto, st_iand, st_iconst, st_ifCond, st_if_icmp, st_iinc, st_iload_n, st_invokestatic, st_invokevirtual, st_ireturn, st_ishr, st_istore_n]
    exact hl
  · obtain ⟨u1, u2⟩ := ft_no hrel d
    rw [u1, u2] at h
    exact h _ _ hR frm.rf hM
def sp_X7_holds (Γ : Cx) : YSp := fun av σ K => ∃ (x : Int32), mo Γ [.int x] (ft (fun _ => inr x 0 3 = true) (fun ψ t => hlD x (ψ.1.2.1 x.toNatClampNeg) 60 1 (bec t ψ.1))) av σ K
theorem rv_X7_holds {Γ : Cx} : Recv (sp_X7_holds Γ) 1 7 := by
  intro av σ K h
  obtain ⟨x, h⟩ := h
  obtain ⟨q, fs, h1, h2, h3⟩ := rv_mo h
  exact ⟨q, _, fs, h1, rfl, h2, h3⟩
theorem tg_18_48 : tgo 18 48 = some 66 := by decide
theorem tg_34_24 : tgo 34 24 = some 58 := by decide
theorem tg_55_5 : tgo 55 5 = some 60 := by decide
theorem tg_63_m48 : tgo 63 (-48) = some 15 := by decide
def mX7_holds : Mt := (⟨3, 0, 0, 69⟩, RX7, cX7_holds, 3, some .int, (0, 0), none)
theorem mX7_holds_c : mX7_holds.2.2.1 = cX7_holds := rfl
theorem mX7_holds_n : mX7_holds.2.2.2.1 = 3 := rfl
theorem mX7_holds_r : mX7_holds.2.2.2.2.1 = some .int := rfl
theorem mX7_holds_l : mX7_holds.2.2.2.2.2.2 = none := rfl
def jX7_holds (Γ : Cx) : List ((Nat × Nat) × Nat × Bool × YSp) := [((1, 111), 1, true, sp_X7_isDoor Γ), ((0, 122), 1, false, sp_X7_aside Γ), ((0, 97), 1, false, sp_X7_goDay Γ)]
theorem jX7_holds_1_111 (Γ : Cx) : kT (jX7_holds Γ) 1 111 = some (1, true, sp_X7_isDoor Γ) := rfl
theorem jX7_holds_0_122 (Γ : Cx) : kT (jX7_holds Γ) 0 122 = some (1, false, sp_X7_aside Γ) := rfl
theorem jX7_holds_0_97 (Γ : Cx) : kT (jX7_holds Γ) 0 97 = some (1, false, sp_X7_goDay Γ) := rfl
theorem uX7_holds (Γ : Cx) : TbOK Γ mX7_holds (fT fX7, cT kX7, kT (jX7_holds Γ)) := tb_ok fX7_ok kX7_ok (all_cons ⟨call_S (n := 1) (ok_X7_isDoor Γ) (rv_X7_isDoor (Γ := Γ)) bw_813 bw_811 bw_812 bw_49 no_X7_isDoor ⟨⟨rfl, rfl⟩, ⟨by decide, by decide⟩, ⟨by decide, by decide⟩⟩, fun _ => mono_X7_isDoor (Γ := Γ)⟩ (all_cons ⟨call_V (n := 0) (T := TX7) (N := 26) (ok_X7_aside Γ) (rv_X7_aside (Γ := Γ)) rfl bw_835 bw_832 bw_834 bw_17 bw_49 no_X7_aside ⟨⟨rfl, rfl⟩, ⟨by decide, by decide⟩, ⟨by decide, by decide⟩⟩, fun z => by cases z⟩ (all_cons ⟨call_V (n := 0) (T := TX7) (N := 26) (ok_X7_goDay Γ) (rv_X7_goDay (Γ := Γ)) rfl bw_916 bw_913 bw_915 bw_30 bw_49 no_X7_goDay ⟨⟨rfl, rfl⟩, ⟨by decide, by decide⟩, ⟨by decide, by decide⟩⟩, fun z => by cases z⟩ (all_nil))))
set_option maxRecDepth 20000 in
theorem ok_X7_holds (Γ : Cx) : Ok Γ yX7_holds mX7_holds (sp_X7_holds Γ) := by
  refine ok_intro (by decide +kernel) rfl rfl ?_
  intro av σ K h
  obtain ⟨x, h⟩ := h
  obtain ⟨lab, ⟨a, ad⟩, ⟨sc, ar, it⟩, ψ, ψ', r, rfl, hM, hR, hrel, h⟩ := h
  try simp only at h
  obtain ⟨⟨m1, -⟩, e1, -⟩ := id hM
  obtain ⟨⟨p1, p2, p3, p4, pI, p5, p6, p7⟩, hImg, h16, hT, hSh⟩ := id hR
  have hP := pI.P5
  simp only at p1 p2 p3 p4 p5 p6 p7 hImg h16 hT hSh
  simp only [ME] at m1 e1
  refine ⟨Nat.le_of_ble_eq_true rfl, yvc_ok (uX7_holds Γ) (S := []) 60 _ _ _ _ ?_⟩
  simp only [lv_args, Value.category, sp_X7_isDoor, sp_X6_isDoor, bI_eq0, Bool.not_eq_false, yvc_s, s1i, s2i, s1l, s2l, sil, s1r, sir, siir, slir, srir, svr, sd1, sd2, lg, lput, ldel, isL_i, isL_r, isL_l, jmp, obj, obj1, fI, fR, arI, arL, arR, hput, f4_0, f4_1, f4_2, f4_3, lc_0, lc_1, rok_i, rok_b, rok_y, strF, fput_1, fput_2, csum_nil, csum_i, csum_l, csum_r, va_up_self, bx_uu, Int.reduceAdd, List.elem_nil, List.elem_cons, List.take_succ_cons, List.take_zero, List.drop_succ_cons, List.drop_zero, List.take_nil, List.drop_nil, List.reverse_cons, List.reverse_nil, List.nil_append, List.cons_append, List.append_nil, Option.toList_some, Option.toList_none, List.getElem?_cons_zero, List.getElem?_cons_succ, List.set_cons_zero, List.set_cons_succ, List.length_cons, List.length_nil, reduceIte, reduceCtorEq, and_true, true_and, and_self, or_true, true_or, false_and, and_false, not_true_eq_false, not_false_eq_true, true_implies, false_implies, implies_true, Nat.reduceAdd, Nat.reduceLT, Nat.reduceEqDiff, Nat.reduceLeDiff, Nat.reduceBEq, Nat.zero_add, Nat.lt_add_one, Bool.false_eq_true, Bool.or_false, Bool.or_true, Bool.or_self, Nat.zero_ne_one, Nat.one_ne_zero, ite_true, ite_false, ne_eq, Nat.reduceSub, Nat.succ_eq_add_one, Nat.zero_lt_succ, Nat.add_one_ne_zero, false_or, or_false, mX7_holds_c, mX7_holds_n, mX7_holds_r, mX7_holds_l, dX7_holds_0, dX7_holds_1, dX7_holds_4, tg_4_5, cnd1_ne, dX7_holds_7, ic_m1, dX7_holds_8, dX7_holds_9, dX7_holds_10, dX7_holds_13, ic_1, dX7_holds_14, dX7_holds_15, dX7_holds_16, bc_61, dX7_holds_18, tg_18_48, cnd2_ge, dX7_holds_21, dX7_holds_22, dX7_holds_25, dX7_holds_26, fl_7_79_7, dX7_holds_29, dX7_holds_30, dX7_holds_31, dX7_holds_32, dX7_holds_33, dX7_holds_34, tg_34_24, cnd2_eq, dX7_holds_37, dX7_holds_38, fl_7_20_7, dX7_holds_41, bc_20, dX7_holds_43, dX7_holds_44, dX7_holds_45, dX7_holds_46, dX7_holds_47, fl_7_17_7, dX7_holds_50, dX7_holds_52, dX7_holds_53, dX7_holds_54, dX7_holds_55, tg_55_5, dX7_holds_58, dX7_holds_59, dX7_holds_60, dX7_holds_63, tg_63_m48, dX7_holds_66, bc_m4, dX7_holds_68, jX7_holds_1_111, jX7_holds_0_122, jX7_holds_0_97, st_aload_n, st_bipush, st_getfield, st_goto, st_iadd, st_iaload, st_iand, st_iconst, st_ifCond, st_if_icmp, st_iinc, st_iload_n, st_invokestatic, st_invokevirtual, st_ireturn, st_ishr, st_istore_n]
  refine ⟨fun d => ?_, fun d => ?_⟩
  · obtain ⟨u1, t, u2⟩ := ft_yes hrel d
    rw [u1, u2] at h
    try simp only at h
    have hL := like_bec (t := t) hP
    obtain ⟨D, hD, hJ⟩ := hL.ci pI
    obtain ⟨q, hq, rfl⟩ := door_n d
    obtain ⟨j1, j2⟩ := ix20 hq
    have q2 : (nI q).toNatClampNeg = q := nI_clamp (by omega)
    have hkp0 : ar 3 (20 + q) = ψ.1.2.1 q := p6.2.1 q hq
    have loop : ∀ m i : Nat, ∀ (s : CS) (s1 : MS) (σ1 : Hp), i + m = 61 → (∃ E, E ≤ 9999 + i ∧ CJ E s) → frm (fL lab 30) σ σ1 → Mod Γ lab (a, ad) s1 σ1 → SFr (asd (sc, ar, it)) s1 → SD s1 s → hlD (nI q) (ψ.1.2.1 (nI q).toNatClampNeg) m i s = hlD (nI q) (ψ.1.2.1 (nI q).toNatClampNeg) 60 1 (bec t ψ.1) → YG Γ mX7_holds K 15 [(0, .ref a), (1, .int (nI q)), (2, .int (nI i))] [] σ1 := by
      intro m
      induction m with
      | zero =>
        intro i s s1 σ1 hi hJ1 hf1 hM1 hF1 hS1 hr
        obtain rfl : i = 61 := by omega
        have hk := h σ1 s1 (hR.asd.fr hF1) hf1 hM1
        rw [← hr] at hk
        refine yvc1_ok (uX7_holds Γ) (S := [15]) 40 ?_
        simp only [yvc1, ge61, yvc_s, s1i, s2i, s1l, s2l, sil, s1r, sir, siir, slir, srir, svr, sd1, sd2, lg, lput, ldel, isL_i, isL_r, isL_l, jmp, obj, obj1, fI, fR, arI, arL, arR, hput, f4_0, f4_1, f4_2, f4_3, lc_0, lc_1, rok_i, rok_b, rok_y, strF, fput_1, fput_2, csum_nil, csum_i, csum_l, csum_r, va_up_self, bx_uu, Int.reduceAdd, List.elem_nil, List.elem_cons, List.take_succ_cons, List.take_zero, List.drop_succ_cons, List.drop_zero, List.take_nil, List.drop_nil, List.reverse_cons, List.reverse_nil, List.nil_append, List.cons_append, List.append_nil, Option.toList_some, Option.toList_none, List.getElem?_cons_zero, List.getElem?_cons_succ, List.set_cons_zero, List.set_cons_succ, List.length_cons, List.length_nil, reduceIte, reduceCtorEq, and_true, true_and, and_self, or_true, true_or, false_and, and_false, not_true_eq_false, not_false_eq_true, true_implies, false_implies, implies_true, Nat.reduceAdd, Nat.reduceLT, Nat.reduceEqDiff, Nat.reduceLeDiff, Nat.reduceBEq, Nat.zero_add, Nat.lt_add_one, Bool.false_eq_true, Bool.or_false, Bool.or_true, Bool.or_self, Nat.zero_ne_one, Nat.one_ne_zero, ite_true, ite_false, ne_eq, Nat.reduceSub, Nat.succ_eq_add_one, Nat.zero_lt_succ, Nat.add_one_ne_zero, false_or, or_false, mX7_holds_c, mX7_holds_n, mX7_holds_r, mX7_holds_l, dX7_holds_0, dX7_holds_1, dX7_holds_4, tg_4_5, cnd1_ne, dX7_holds_7, ic_m1, dX7_holds_8, dX7_holds_9, dX7_holds_10, dX7_holds_13, ic_1, dX7_holds_14, dX7_holds_15, dX7_holds_16, bc_61, dX7_holds_18, tg_18_48, cnd2_ge, dX7_holds_21, dX7_holds_22, dX7_holds_25, dX7_holds_26, fl_7_79_7, dX7_holds_29, dX7_holds_30, dX7_holds_31, dX7_holds_32, dX7_holds_33, dX7_holds_34, tg_34_24, cnd2_eq, dX7_holds_37, dX7_holds_38, fl_7_20_7, dX7_holds_41, bc_20, dX7_holds_43, dX7_holds_44, dX7_holds_45, dX7_holds_46, dX7_holds_47, fl_7_17_7, dX7_holds_50, dX7_holds_52, dX7_holds_53, dX7_holds_54, dX7_holds_55, tg_55_5, dX7_holds_58, dX7_holds_59, dX7_holds_60, dX7_holds_63, tg_63_m48, dX7_holds_66, bc_m4, dX7_holds_68, jX7_holds_1_111, jX7_holds_0_122, jX7_holds_0_97, st_aload_n, st_bipush, st_getfield, st_goto, st_iadd, st_iaload, st_iand, st_iconst, st_ifCond, st_if_icmp, st_iinc, st_iload_n, st_invokestatic, st_invokevirtual, st_ireturn, st_ishr, st_istore_n]
        exact hk
      | succ m ih =>
        intro i s s1 σ1 hi hJ1 hf1 hM1 hF1 hS1 hr
        have c1 := lt61 (show i < 61 by omega)
        refine yvc1_ok (uX7_holds Γ) (S := [15]) 40 ?_
        simp only [yvc1, c1, yvc_s, s1i, s2i, s1l, s2l, sil, s1r, sir, siir, slir, srir, svr, sd1, sd2, lg, lput, ldel, isL_i, isL_r, isL_l, jmp, obj, obj1, fI, fR, arI, arL, arR, hput, f4_0, f4_1, f4_2, f4_3, lc_0, lc_1, rok_i, rok_b, rok_y, strF, fput_1, fput_2, csum_nil, csum_i, csum_l, csum_r, va_up_self, bx_uu, Int.reduceAdd, List.elem_nil, List.elem_cons, List.take_succ_cons, List.take_zero, List.drop_succ_cons, List.drop_zero, List.take_nil, List.drop_nil, List.reverse_cons, List.reverse_nil, List.nil_append, List.cons_append, List.append_nil, Option.toList_some, Option.toList_none, List.getElem?_cons_zero, List.getElem?_cons_succ, List.set_cons_zero, List.set_cons_succ, List.length_cons, List.length_nil, reduceIte, reduceCtorEq, and_true, true_and, and_self, or_true, true_or, false_and, and_false, not_true_eq_false, not_false_eq_true, true_implies, false_implies, implies_true, Nat.reduceAdd, Nat.reduceLT, Nat.reduceEqDiff, Nat.reduceLeDiff, Nat.reduceBEq, Nat.zero_add, Nat.lt_add_one, Bool.false_eq_true, Bool.or_false, Bool.or_true, Bool.or_self, Nat.zero_ne_one, Nat.one_ne_zero, ite_true, ite_false, ne_eq, Nat.reduceSub, Nat.succ_eq_add_one, Nat.zero_lt_succ, Nat.add_one_ne_zero, false_or, or_false, mX7_holds_c, mX7_holds_n, mX7_holds_r, mX7_holds_l, dX7_holds_0, dX7_holds_1, dX7_holds_4, tg_4_5, cnd1_ne, dX7_holds_7, ic_m1, dX7_holds_8, dX7_holds_9, dX7_holds_10, dX7_holds_13, ic_1, dX7_holds_14, dX7_holds_15, dX7_holds_16, bc_61, dX7_holds_18, tg_18_48, cnd2_ge, dX7_holds_21, dX7_holds_22, dX7_holds_25, dX7_holds_26, fl_7_79_7, dX7_holds_29, dX7_holds_30, dX7_holds_31, dX7_holds_32, dX7_holds_33, dX7_holds_34, tg_34_24, cnd2_eq, dX7_holds_37, dX7_holds_38, fl_7_20_7, dX7_holds_41, bc_20, dX7_holds_43, dX7_holds_44, dX7_holds_45, dX7_holds_46, dX7_holds_47, fl_7_17_7, dX7_holds_50, dX7_holds_52, dX7_holds_53, dX7_holds_54, dX7_holds_55, tg_55_5, dX7_holds_58, dX7_holds_59, dX7_holds_60, dX7_holds_63, tg_63_m48, dX7_holds_66, bc_m4, dX7_holds_68, jX7_holds_1_111, jX7_holds_0_122, jX7_holds_0_97, st_aload_n, st_bipush, st_getfield, st_goto, st_iadd, st_iaload, st_iand, st_iconst, st_ifCond, st_if_icmp, st_iinc, st_iload_n, st_invokestatic, st_invokevirtual, st_ireturn, st_ishr, st_istore_n]
        obtain ⟨E, hE, hJ1⟩ := hJ1
        refine ⟨s, lab, (a, ad), s1, rfl, hM1, ⟨hS1, E, hJ1, by omega⟩, ?_⟩
        rintro σ2 ⟨sc2, ar2, it2⟩ r ⟨hF2, hS2, hg2, rfl⟩ hf2 hM2
        have hk := h σ2 _ (hR.asd.fr (hF1.tr hF2)) (hf1.tr hf2) hM2
        have hJ2 := hJ1.step
        rw [hlD] at hr
        generalize dayC s = s' at hS2 hg2 hJ2 hr
        simp only at hg2
        have hy := ih (i + 1) s' _ σ2 (by omega) ⟨E + 1, by omega, hJ2⟩ (hf1.tr hf2) hM2 (hF1.tr hF2) hS2
        have hkp : ar2 4 (20 + q) = s'.2.1 q := hS2.2.2.1 q hq
        have hn3 : ar2 3 (20 + q) = ψ.1.2.1 q := by
          have := (hF1.tr hF2).2.2 3 (by decide) (by decide)
          simp only [asd, updA_ne (show (3 : Nat) ≠ 4 by decide)] at this
          rw [this]
          exact hkp0
        obtain ⟨⟨m1, -⟩, e1, -⟩ := id hM2
        obtain ⟨m3, e3⟩ := hM2.arr 3 rfl
        obtain ⟨m4, e4⟩ := hM2.arr 4 rfl
        simp only [ME, iA, lenM] at m1 e1 m3 e3 m4 e4
        rw [hg2] at e1
        rw [q2] at hr hy hk
        refine yvc_ok (uX7_holds Γ) (S := [15]) 60 _ _ _ _ ?_
        simp only [m1, e1, m3, e3, m4, e4, j1, j2, hkp, hn3, gbit_1, nI_1, yvc_s, s1i, s2i, s1l, s2l, sil, s1r, sir, siir, slir, srir, svr, sd1, sd2, lg, lput, ldel, isL_i, isL_r, isL_l, jmp, obj, obj1, fI, fR, arI, arL, arR, hput, f4_0, f4_1, f4_2, f4_3, lc_0, lc_1, rok_i, rok_b, rok_y, strF, fput_1, fput_2, csum_nil, csum_i, csum_l, csum_r, va_up_self, bx_uu, Int.reduceAdd, List.elem_nil, List.elem_cons, List.take_succ_cons, List.take_zero, List.drop_succ_cons, List.drop_zero, List.take_nil, List.drop_nil, List.reverse_cons, List.reverse_nil, List.nil_append, List.cons_append, List.append_nil, Option.toList_some, Option.toList_none, List.getElem?_cons_zero, List.getElem?_cons_succ, List.set_cons_zero, List.set_cons_succ, List.length_cons, List.length_nil, reduceIte, reduceCtorEq, and_true, true_and, and_self, or_true, true_or, false_and, and_false, not_true_eq_false, not_false_eq_true, true_implies, false_implies, implies_true, Nat.reduceAdd, Nat.reduceLT, Nat.reduceEqDiff, Nat.reduceLeDiff, Nat.reduceBEq, Nat.zero_add, Nat.lt_add_one, Bool.false_eq_true, Bool.or_false, Bool.or_true, Bool.or_self, Nat.zero_ne_one, Nat.one_ne_zero, ite_true, ite_false, ne_eq, Nat.reduceSub, Nat.succ_eq_add_one, Nat.zero_lt_succ, Nat.add_one_ne_zero, false_or, or_false, mX7_holds_c, mX7_holds_n, mX7_holds_r, mX7_holds_l, dX7_holds_0, dX7_holds_1, dX7_holds_4, tg_4_5, cnd1_ne, dX7_holds_7, ic_m1, dX7_holds_8, dX7_holds_9, dX7_holds_10, dX7_holds_13, ic_1, dX7_holds_14, dX7_holds_15, dX7_holds_16, bc_61, dX7_holds_18, tg_18_48, cnd2_ge, dX7_holds_21, dX7_holds_22, dX7_holds_25, dX7_holds_26, fl_7_79_7, dX7_holds_29, dX7_holds_30, dX7_holds_31, dX7_holds_32, dX7_holds_33, dX7_holds_34, tg_34_24, cnd2_eq, dX7_holds_37, dX7_holds_38, fl_7_20_7, dX7_holds_41, bc_20, dX7_holds_43, dX7_holds_44, dX7_holds_45, dX7_holds_46, dX7_holds_47, fl_7_17_7, dX7_holds_50, dX7_holds_52, dX7_holds_53, dX7_holds_54, dX7_holds_55, tg_55_5, dX7_holds_58, dX7_holds_59, dX7_holds_60, dX7_holds_63, tg_63_m48, dX7_holds_66, bc_m4, dX7_holds_68, jX7_holds_1_111, jX7_holds_0_122, jX7_holds_0_97, st_aload_n, st_bipush, st_getfield, st_goto, st_iadd, st_iaload, st_iand, st_iconst, st_ifCond, st_if_icmp, st_iinc, st_iload_n, st_invokestatic, st_invokevirtual, st_ireturn, st_ishr, st_istore_n]
        refine ⟨fun c => ?_, fun c => ⟨fun c2 => ?_, fun c2 => ?_⟩⟩
        · rw [if_pos (Or.inl c)] at hr
          rw [← hr] at hk
          exact hk
        · rw [if_neg (fun z => z.elim c (fun z => z c2))] at hr
          exact hy hr
        · rw [if_pos (Or.inr c2)] at hr
          rw [← hr] at hk
          exact hk
    refine ⟨lab, (a, ad), _, rfl, hM, trivial, ?_⟩
    rintro σ1 s1 r ⟨rfl, rfl⟩ hf1 hM1
    have hl := loop 60 1 (bec t ψ.1) _ σ1 rfl ⟨D, by omega, hJ⟩ hf1 hM1 SFr.rf (hR.sd hL) rfl
    refine yvc_ok (uX7_holds Γ) (S := [15]) 60 _ _ _ _ ?_
    simp only [yvc_s, s1i, s2i, s1l, s2l, sil, s1r, sir, siir, slir, srir, svr, sd1, sd2, lg, lput, ldel, isL_i, isL_r, isL_l, jmp, obj, obj1, fI, fR, arI, arL, arR, hput, f4_0, f4_1, f4_2, f4_3, lc_0, lc_1, rok_i, rok_b, rok_y, strF, fput_1, fput_2, csum_nil, csum_i, csum_l, csum_r, va_up_self, bx_uu, Int.reduceAdd, List.elem_nil, List.elem_cons, List.take_succ_cons, List.take_zero, List.drop_succ_cons, List.drop_zero, List.take_nil, List.drop_nil, List.reverse_cons, List.reverse_nil, List.nil_append, List.cons_append, List.append_nil, Option.toList_some, Option.toList_none, List.getElem?_cons_zero, List.getElem?_cons_succ, List.set_cons_zero, List.set_cons_succ, List.length_cons, List.length_nil, reduceIte, reduceCtorEq, and_true, true_and, and_self, or_true, true_or, false_and, and_false, not_true_eq_false, not_false_eq_true, true_implies, false_implies, implies_true, Nat.reduceAdd, Nat.reduceLT, Nat.reduceEqDiff, Nat.reduceLeDiff, Nat.reduceBEq, Nat.zero_add, Nat.lt_add_one, Bool.false_eq_true, Bool.or_false, Bool.or_true, Bool.or_self, Nat.zero_ne_one, Nat.one_ne_zero, ite_true, ite_false, ne_eq, Nat.reduceSub, Nat.succ_eq_add_one, Nat.zero_lt_succ, Nat.add_one_ne_zero, false_or, or_false, mX7_holds_c, mX7_holds_n, mX7_holds_r, mX7_holds_l, dX7_holds_0, dX7_holds_1, dX7_holds_4, tg_4_5, cnd1_ne, dX7_holds_7, ic_m1, dX7_holds_8, dX7_holds_9, dX7_holds_10, dX7_holds_13, ic_1, dX7_holds_14, dX7_holds_15, dX7_holds_16, bc_61, dX7_holds_18, tg_18_48, cnd2_ge, dX7_holds_21, dX7_holds_22, dX7_holds_25, dX7_holds_26, fl_7_79_7, dX7_holds_29, dX7_holds_30, dX7_holds_31, dX7_holds_32, dX7_holds_33, dX7_holds_34, tg_34_24, cnd2_eq, dX7_holds_37, dX7_holds_38, fl_7_20_7, dX7_holds_41, bc_20, dX7_holds_43, dX7_holds_44, dX7_holds_45, dX7_holds_46, dX7_holds_47, fl_7_17_7, dX7_holds_50, dX7_holds_52, dX7_holds_53, dX7_holds_54, dX7_holds_55, tg_55_5, dX7_holds_58, dX7_holds_59, dX7_holds_60, dX7_holds_63, tg_63_m48, dX7_holds_66, bc_m4, dX7_holds_68, jX7_holds_1_111, jX7_holds_0_122, jX7_holds_0_97, st_aload_n, st_bipush, st_getfield, st_goto, st_iadd, st_iaload, st_iand, st_iconst, st_ifCond, st_if_icmp, st_iinc, st_iload_n, st_invokestatic, st_invokevirtual, st_ireturn, st_ishr, st_istore_n]
    exact hl
  · obtain ⟨u1, u2⟩ := ft_no hrel d
    rw [u1, u2] at h
    exact h _ _ hR frm.rf hM
def sp_X7_had (Γ : Cx) : YSp := fun av σ K => ∃ (x : Int32) (y : Int32), mo Γ [.int x, .int y] (ft (fun _ => inr x 0 3 = true ∧ inr y 0 60 = true) (fun ψ t => hdD x.toNatClampNeg y.toNatClampNeg (bec t ψ.1) (kas ((bec t ψ.1).2.1 x.toNatClampNeg)))) av σ K
theorem rv_X7_had {Γ : Cx} : Recv (sp_X7_had Γ) 2 7 := by
  intro av σ K h
  obtain ⟨x, y, h⟩ := h
  obtain ⟨q, fs, h1, h2, h3⟩ := rv_mo h
  exact ⟨q, _, fs, h1, rfl, h2, h3⟩
theorem tg_40_14 : tgo 40 14 = some 54 := by decide
theorem tg_61_45 : tgo 61 45 = some 106 := by decide
theorem tg_80_7 : tgo 80 7 = some 87 := by decide
theorem tg_84_14 : tgo 84 14 = some 98 := by decide
theorem tg_103_m45 : tgo 103 (-45) = some 58 := by decide
def mX7_had : Mt := (⟨3, 0, 0, 69⟩, RX7, cX7_had, 5, some .int, (0, 0), none)
theorem mX7_had_c : mX7_had.2.2.1 = cX7_had := rfl
theorem mX7_had_n : mX7_had.2.2.2.1 = 5 := rfl
theorem mX7_had_r : mX7_had.2.2.2.2.1 = some .int := rfl
theorem mX7_had_l : mX7_had.2.2.2.2.2.2 = none := rfl
def jX7_had (Γ : Cx) : List ((Nat × Nat) × Nat × Bool × YSp) := [((1, 111), 1, true, sp_X7_isDoor Γ), ((1, 63), 3, true, sp_X7_lies Γ), ((0, 122), 1, false, sp_X7_aside Γ), ((0, 97), 1, false, sp_X7_goDay Γ)]
theorem jX7_had_1_111 (Γ : Cx) : kT (jX7_had Γ) 1 111 = some (1, true, sp_X7_isDoor Γ) := rfl
theorem jX7_had_1_63 (Γ : Cx) : kT (jX7_had Γ) 1 63 = some (3, true, sp_X7_lies Γ) := rfl
theorem jX7_had_0_122 (Γ : Cx) : kT (jX7_had Γ) 0 122 = some (1, false, sp_X7_aside Γ) := rfl
theorem jX7_had_0_97 (Γ : Cx) : kT (jX7_had Γ) 0 97 = some (1, false, sp_X7_goDay Γ) := rfl
theorem uX7_had (Γ : Cx) : TbOK Γ mX7_had (fT fX7, cT kX7, kT (jX7_had Γ)) := tb_ok fX7_ok kX7_ok (all_cons ⟨call_S (n := 1) (ok_X7_isDoor Γ) (rv_X7_isDoor (Γ := Γ)) bw_813 bw_811 bw_812 bw_49 no_X7_isDoor ⟨⟨rfl, rfl⟩, ⟨by decide, by decide⟩, ⟨by decide, by decide⟩⟩, fun _ => mono_X7_isDoor (Γ := Γ)⟩ (all_cons ⟨call_S (n := 3) (ok_X7_lies Γ) (rv_X7_lies (Γ := Γ)) bw_797 bw_795 bw_796 bw_49 no_X7_lies ⟨⟨rfl, rfl⟩, ⟨by decide, by decide⟩, ⟨by decide, by decide⟩⟩, fun _ => mono_X7_lies (Γ := Γ)⟩ (all_cons ⟨call_V (n := 0) (T := TX7) (N := 26) (ok_X7_aside Γ) (rv_X7_aside (Γ := Γ)) rfl bw_835 bw_832 bw_834 bw_17 bw_49 no_X7_aside ⟨⟨rfl, rfl⟩, ⟨by decide, by decide⟩, ⟨by decide, by decide⟩⟩, fun z => by cases z⟩ (all_cons ⟨call_V (n := 0) (T := TX7) (N := 26) (ok_X7_goDay Γ) (rv_X7_goDay (Γ := Γ)) rfl bw_916 bw_913 bw_915 bw_30 bw_49 no_X7_goDay ⟨⟨rfl, rfl⟩, ⟨by decide, by decide⟩, ⟨by decide, by decide⟩⟩, fun z => by cases z⟩ (all_nil)))))
set_option maxRecDepth 20000 in
theorem ok_X7_had (Γ : Cx) : Ok Γ yX7_had mX7_had (sp_X7_had Γ) := by
  refine ok_intro (by decide +kernel) rfl rfl ?_
  intro av σ K h
  obtain ⟨x, y, h⟩ := h
  obtain ⟨lab, ⟨a, ad⟩, ⟨sc, ar, it⟩, ψ, ψ', r, rfl, hM, hR, hrel, h⟩ := h
  try simp only at h
  obtain ⟨⟨m1, -⟩, e1, -⟩ := id hM
  obtain ⟨⟨p1, p2, p3, p4, pI, p5, p6, p7⟩, hImg, h16, hT, hSh⟩ := id hR
  have hP := pI.P5
  simp only at p1 p2 p3 p4 p5 p6 p7 hImg h16 hT hSh
  simp only [ME] at m1 e1
  have no : ¬ (inr x 0 3 = true ∧ inr y 0 60 = true) → K (some (.int (-1))) σ := fun z => by
    obtain ⟨u1, u2⟩ := ft_no hrel z
    rw [u1, u2] at h
    exact h _ _ hR frm.rf hM
  refine ⟨Nat.le_of_ble_eq_true rfl, yvc_ok (uX7_had Γ) (S := []) 60 _ _ _ _ ?_⟩
  simp only [lv_args, Value.category, sp_X7_isDoor, sp_X6_isDoor, sp_X7_lies, inL_060, bI_eq0, Bool.not_eq_false, yvc_s, s1i, s2i, s1l, s2l, sil, s1r, sir, siir, slir, srir, svr, sd1, sd2, lg, lput, ldel, isL_i, isL_r, isL_l, jmp, obj, obj1, fI, fR, arI, arL, arR, hput, f4_0, f4_1, f4_2, f4_3, lc_0, lc_1, rok_i, rok_b, rok_y, strF, fput_1, fput_2, csum_nil, csum_i, csum_l, csum_r, va_up_self, bx_uu, Int.reduceAdd, List.elem_nil, List.elem_cons, List.take_succ_cons, List.take_zero, List.drop_succ_cons, List.drop_zero, List.take_nil, List.drop_nil, List.reverse_cons, List.reverse_nil, List.nil_append, List.cons_append, List.append_nil, Option.toList_some, Option.toList_none, List.getElem?_cons_zero, List.getElem?_cons_succ, List.set_cons_zero, List.set_cons_succ, List.length_cons, List.length_nil, reduceIte, reduceCtorEq, and_true, true_and, and_self, or_true, true_or, false_and, and_false, not_true_eq_false, not_false_eq_true, true_implies, false_implies, implies_true, Nat.reduceAdd, Nat.reduceLT, Nat.reduceEqDiff, Nat.reduceLeDiff, Nat.reduceBEq, Nat.zero_add, Nat.lt_add_one, Bool.false_eq_true, Bool.or_false, Bool.or_true, Bool.or_self, Nat.zero_ne_one, Nat.one_ne_zero, ite_true, ite_false, ne_eq, Nat.reduceSub, Nat.succ_eq_add_one, Nat.zero_lt_succ, Nat.add_one_ne_zero, false_or, or_false, mX7_had_c, mX7_had_n, mX7_had_r, mX7_had_l, dX7_had_0, dX7_had_1, dX7_had_4, tg_4_15, cnd1_eq, dX7_had_7, dX7_had_8, dX7_had_9, dX7_had_10, cl_7_196, dX7_had_13, dX7_had_16, tg_16_5, cnd1_ne, dX7_had_19, ic_m1, dX7_had_20, dX7_had_21, dX7_had_22, dX7_had_25, dX7_had_26, fl_7_20_7, dX7_had_29, bc_20, dX7_had_31, dX7_had_32, dX7_had_33, dX7_had_34, bc_m4, dX7_had_36, tg_36_7, cnd2_ne, dX7_had_39, ic_0, dX7_had_40, tg_40_14, dX7_had_43, ic_1, dX7_had_44, dX7_had_45, dX7_had_48, dX7_had_50, dX7_had_51, dX7_had_52, dX7_had_53, dX7_had_54, dX7_had_55, dX7_had_56, dX7_had_58, dX7_had_60, dX7_had_61, tg_61_45, cnd2_ge, dX7_had_64, dX7_had_65, dX7_had_68, dX7_had_69, dX7_had_70, dX7_had_73, dX7_had_75, dX7_had_76, dX7_had_77, dX7_had_78, dX7_had_80, tg_80_7, dX7_had_83, dX7_had_84, tg_84_14, dX7_had_87, dX7_had_88, dX7_had_89, dX7_had_92, dX7_had_94, dX7_had_95, dX7_had_96, dX7_had_97, dX7_had_98, dX7_had_99, dX7_had_100, dX7_had_103, tg_103_m45, dX7_had_106, dX7_had_107, jX7_had_1_111, jX7_had_1_63, jX7_had_0_122, jX7_had_0_97, st_aload_n, st_bipush, st_getfield, st_goto, st_i2l, st_iadd, st_iaload, st_iconst, st_ifCond, st_if_icmp, st_iinc, st_iload, st_iload_n, st_invokestatic, st_invokevirtual, st_ior, st_ireturn, st_ishl, st_istore, st_istore_n, st_lconst, st_ldc2_w]
  refine ⟨fun c => no (fun z => by rw [z.1] at c; cases c), fun c => ⟨fun d => ?_, fun d => no (fun z => d z.2)⟩⟩
  obtain ⟨u1, t, u2⟩ := ft_yes hrel ⟨c, d⟩
  rw [u1, u2] at h
  try simp only at h
  have hL := like_bec (t := t) hP
  obtain ⟨D, hD, hJ⟩ := hL.ci pI
  obtain ⟨q, hq, rfl⟩ := door_n c
  obtain ⟨N, hN, rfl⟩ := in_n (B := 60) (by decide) d
  obtain ⟨j1, j2⟩ := ix20 hq
  rw [nI_clamp (show N < 2 ^ 31 by omega), nI_clamp (show q < 2 ^ 31 by omega)] at h
  have loop : ∀ m i : Nat, ∀ (s : CS) (acc : Int32) (s1 : MS) (σ1 : Hp), i + m = N → (∃ E, E ≤ 9999 + i ∧ CJ E s) → frm (fL lab 30) σ σ1 → Mod Γ lab (a, ad) s1 σ1 → SFr (asd (sc, ar, it)) s1 → SD s1 s → hdD q m s acc = hdD q N (bec t ψ.1) (kas ((bec t ψ.1).2.1 q)) → YG Γ mX7_had K 58 [(0, .ref a), (1, .int (nI q)), (2, .int (nI N)), (3, .int acc), (4, .int (nI i))] [] σ1 := by
    intro m
    induction m with
    | zero =>
      intro i s acc s1 σ1 hi hJ1 hf1 hM1 hF1 hS1 hr
      obtain rfl : i = N := by omega
      have hk := h σ1 s1 (hR.asd.fr hF1) hf1 hM1
      rw [← hr] at hk
      refine yvc1_ok (uX7_had Γ) (S := [58]) 40 ?_
      simp only [yvc1, geP, yvc_s, s1i, s2i, s1l, s2l, sil, s1r, sir, siir, slir, srir, svr, sd1, sd2, lg, lput, ldel, isL_i, isL_r, isL_l, jmp, obj, obj1, fI, fR, arI, arL, arR, hput, f4_0, f4_1, f4_2, f4_3, lc_0, lc_1, rok_i, rok_b, rok_y, strF, fput_1, fput_2, csum_nil, csum_i, csum_l, csum_r, va_up_self, bx_uu, Int.reduceAdd, List.elem_nil, List.elem_cons, List.take_succ_cons, List.take_zero, List.drop_succ_cons, List.drop_zero, List.take_nil, List.drop_nil, List.reverse_cons, List.reverse_nil, List.nil_append, List.cons_append, List.append_nil, Option.toList_some, Option.toList_none, List.getElem?_cons_zero, List.getElem?_cons_succ, List.set_cons_zero, List.set_cons_succ, List.length_cons, List.length_nil, reduceIte, reduceCtorEq, and_true, true_and, and_self, or_true, true_or, false_and, and_false, not_true_eq_false, not_false_eq_true, true_implies, false_implies, implies_true, Nat.reduceAdd, Nat.reduceLT, Nat.reduceEqDiff, Nat.reduceLeDiff, Nat.reduceBEq, Nat.zero_add, Nat.lt_add_one, Bool.false_eq_true, Bool.or_false, Bool.or_true, Bool.or_self, Nat.zero_ne_one, Nat.one_ne_zero, ite_true, ite_false, ne_eq, Nat.reduceSub, Nat.succ_eq_add_one, Nat.zero_lt_succ, Nat.add_one_ne_zero, false_or, or_false, mX7_had_c, mX7_had_n, mX7_had_r, mX7_had_l, dX7_had_0, dX7_had_1, dX7_had_4, tg_4_15, cnd1_eq, dX7_had_7, dX7_had_8, dX7_had_9, dX7_had_10, cl_7_196, dX7_had_13, dX7_had_16, tg_16_5, cnd1_ne, dX7_had_19, ic_m1, dX7_had_20, dX7_had_21, dX7_had_22, dX7_had_25, dX7_had_26, fl_7_20_7, dX7_had_29, bc_20, dX7_had_31, dX7_had_32, dX7_had_33, dX7_had_34, bc_m4, dX7_had_36, tg_36_7, cnd2_ne, dX7_had_39, ic_0, dX7_had_40, tg_40_14, dX7_had_43, ic_1, dX7_had_44, dX7_had_45, dX7_had_48, dX7_had_50, dX7_had_51, dX7_had_52, dX7_had_53, dX7_had_54, dX7_had_55, dX7_had_56, dX7_had_58, dX7_had_60, dX7_had_61, tg_61_45, cnd2_ge, dX7_had_64, dX7_had_65, dX7_had_68, dX7_had_69, dX7_had_70, dX7_had_73, dX7_had_75, dX7_had_76, dX7_had_77, dX7_had_78, dX7_had_80, tg_80_7, dX7_had_83, dX7_had_84, tg_84_14, dX7_had_87, dX7_had_88, dX7_had_89, dX7_had_92, dX7_had_94, dX7_had_95, dX7_had_96, dX7_had_97, dX7_had_98, dX7_had_99, dX7_had_100, dX7_had_103, tg_103_m45, dX7_had_106, dX7_had_107, jX7_had_1_111, jX7_had_1_63, jX7_had_0_122, jX7_had_0_97, st_aload_n, st_bipush, st_getfield, st_goto, st_i2l, st_iadd, st_iaload, st_iconst, st_ifCond, st_if_icmp, st_iinc, st_iload, st_iload_n, st_invokestatic, st_invokevirtual, st_ior, st_ireturn, st_ishl, st_istore, st_istore_n, st_lconst, st_ldc2_w]
      exact hk
    | succ m ih =>
      intro i s acc s1 σ1 hi hJ1 hf1 hM1 hF1 hS1 hr
      have c1 := ltN (show i < N by omega) (by omega)
      refine yvc1_ok (uX7_had Γ) (S := [58]) 40 ?_
      simp only [yvc1, c1, yvc_s, s1i, s2i, s1l, s2l, sil, s1r, sir, siir, slir, srir, svr, sd1, sd2, lg, lput, ldel, isL_i, isL_r, isL_l, jmp, obj, obj1, fI, fR, arI, arL, arR, hput, f4_0, f4_1, f4_2, f4_3, lc_0, lc_1, rok_i, rok_b, rok_y, strF, fput_1, fput_2, csum_nil, csum_i, csum_l, csum_r, va_up_self, bx_uu, Int.reduceAdd, List.elem_nil, List.elem_cons, List.take_succ_cons, List.take_zero, List.drop_succ_cons, List.drop_zero, List.take_nil, List.drop_nil, List.reverse_cons, List.reverse_nil, List.nil_append, List.cons_append, List.append_nil, Option.toList_some, Option.toList_none, List.getElem?_cons_zero, List.getElem?_cons_succ, List.set_cons_zero, List.set_cons_succ, List.length_cons, List.length_nil, reduceIte, reduceCtorEq, and_true, true_and, and_self, or_true, true_or, false_and, and_false, not_true_eq_false, not_false_eq_true, true_implies, false_implies, implies_true, Nat.reduceAdd, Nat.reduceLT, Nat.reduceEqDiff, Nat.reduceLeDiff, Nat.reduceBEq, Nat.zero_add, Nat.lt_add_one, Bool.false_eq_true, Bool.or_false, Bool.or_true, Bool.or_self, Nat.zero_ne_one, Nat.one_ne_zero, ite_true, ite_false, ne_eq, Nat.reduceSub, Nat.succ_eq_add_one, Nat.zero_lt_succ, Nat.add_one_ne_zero, false_or, or_false, mX7_had_c, mX7_had_n, mX7_had_r, mX7_had_l, dX7_had_0, dX7_had_1, dX7_had_4, tg_4_15, cnd1_eq, dX7_had_7, dX7_had_8, dX7_had_9, dX7_had_10, cl_7_196, dX7_had_13, dX7_had_16, tg_16_5, cnd1_ne, dX7_had_19, ic_m1, dX7_had_20, dX7_had_21, dX7_had_22, dX7_had_25, dX7_had_26, fl_7_20_7, dX7_had_29, bc_20, dX7_had_31, dX7_had_32, dX7_had_33, dX7_had_34, bc_m4, dX7_had_36, tg_36_7, cnd2_ne, dX7_had_39, ic_0, dX7_had_40, tg_40_14, dX7_had_43, ic_1, dX7_had_44, dX7_had_45, dX7_had_48, dX7_had_50, dX7_had_51, dX7_had_52, dX7_had_53, dX7_had_54, dX7_had_55, dX7_had_56, dX7_had_58, dX7_had_60, dX7_had_61, tg_61_45, cnd2_ge, dX7_had_64, dX7_had_65, dX7_had_68, dX7_had_69, dX7_had_70, dX7_had_73, dX7_had_75, dX7_had_76, dX7_had_77, dX7_had_78, dX7_had_80, tg_80_7, dX7_had_83, dX7_had_84, tg_84_14, dX7_had_87, dX7_had_88, dX7_had_89, dX7_had_92, dX7_had_94, dX7_had_95, dX7_had_96, dX7_had_97, dX7_had_98, dX7_had_99, dX7_had_100, dX7_had_103, tg_103_m45, dX7_had_106, dX7_had_107, jX7_had_1_111, jX7_had_1_63, jX7_had_0_122, jX7_had_0_97, st_aload_n, st_bipush, st_getfield, st_goto, st_i2l, st_iadd, st_iaload, st_iconst, st_ifCond, st_if_icmp, st_iinc, st_iload, st_iload_n, st_invokestatic, st_invokevirtual, st_ior, st_ireturn, st_ishl, st_istore, st_istore_n, st_lconst, st_ldc2_w]
      obtain ⟨E, hE, hJ1⟩ := hJ1
      refine ⟨s, lab, (a, ad), s1, rfl, hM1, ⟨hS1, E, hJ1, by omega⟩, ?_⟩
      rintro σ2 ⟨sc2, ar2, it2⟩ r ⟨hF2, hS2, hg2, rfl⟩ hf2 hM2
      have hJ2 := hJ1.step
      rw [hdD] at hr
      generalize dayC s = s' at hS2 hg2 hJ2 hr
      have hy := ih (i + 1) s' _ _ σ2 (by omega) ⟨E + 1, by omega, hJ2⟩ (hf1.tr hf2) hM2 (hF1.tr hF2) hS2 hr
      have hkp : ar2 4 (20 + q) = s'.2.1 q := hS2.2.2.1 q hq
      obtain ⟨⟨m1, -⟩, e1, -⟩ := id hM2
      obtain ⟨m4, e4⟩ := hM2.arr 4 rfl
      simp only [ME, iA, lenM] at m1 e1 m4 e4
      unfold kas at hy
      refine yvc_ok (uX7_had Γ) (S := [58]) 60 _ _ _ _ ?_
      simp only [m1, e1, m4, e4, j1, j2, hkp, nI_1, yvc_s, s1i, s2i, s1l, s2l, sil, s1r, sir, siir, slir, srir, svr, sd1, sd2, lg, lput, ldel, isL_i, isL_r, isL_l, jmp, obj, obj1, fI, fR, arI, arL, arR, hput, f4_0, f4_1, f4_2, f4_3, lc_0, lc_1, rok_i, rok_b, rok_y, strF, fput_1, fput_2, csum_nil, csum_i, csum_l, csum_r, va_up_self, bx_uu, Int.reduceAdd, List.elem_nil, List.elem_cons, List.take_succ_cons, List.take_zero, List.drop_succ_cons, List.drop_zero, List.take_nil, List.drop_nil, List.reverse_cons, List.reverse_nil, List.nil_append, List.cons_append, List.append_nil, Option.toList_some, Option.toList_none, List.getElem?_cons_zero, List.getElem?_cons_succ, List.set_cons_zero, List.set_cons_succ, List.length_cons, List.length_nil, reduceIte, reduceCtorEq, and_true, true_and, and_self, or_true, true_or, false_and, and_false, not_true_eq_false, not_false_eq_true, true_implies, false_implies, implies_true, Nat.reduceAdd, Nat.reduceLT, Nat.reduceEqDiff, Nat.reduceLeDiff, Nat.reduceBEq, Nat.zero_add, Nat.lt_add_one, Bool.false_eq_true, Bool.or_false, Bool.or_true, Bool.or_self, Nat.zero_ne_one, Nat.one_ne_zero, ite_true, ite_false, ne_eq, Nat.reduceSub, Nat.succ_eq_add_one, Nat.zero_lt_succ, Nat.add_one_ne_zero, false_or, or_false, mX7_had_c, mX7_had_n, mX7_had_r, mX7_had_l, dX7_had_0, dX7_had_1, dX7_had_4, tg_4_15, cnd1_eq, dX7_had_7, dX7_had_8, dX7_had_9, dX7_had_10, cl_7_196, dX7_had_13, dX7_had_16, tg_16_5, cnd1_ne, dX7_had_19, ic_m1, dX7_had_20, dX7_had_21, dX7_had_22, dX7_had_25, dX7_had_26, fl_7_20_7, dX7_had_29, bc_20, dX7_had_31, dX7_had_32, dX7_had_33, dX7_had_34, bc_m4, dX7_had_36, tg_36_7, cnd2_ne, dX7_had_39, ic_0, dX7_had_40, tg_40_14, dX7_had_43, ic_1, dX7_had_44, dX7_had_45, dX7_had_48, dX7_had_50, dX7_had_51, dX7_had_52, dX7_had_53, dX7_had_54, dX7_had_55, dX7_had_56, dX7_had_58, dX7_had_60, dX7_had_61, tg_61_45, cnd2_ge, dX7_had_64, dX7_had_65, dX7_had_68, dX7_had_69, dX7_had_70, dX7_had_73, dX7_had_75, dX7_had_76, dX7_had_77, dX7_had_78, dX7_had_80, tg_80_7, dX7_had_83, dX7_had_84, tg_84_14, dX7_had_87, dX7_had_88, dX7_had_89, dX7_had_92, dX7_had_94, dX7_had_95, dX7_had_96, dX7_had_97, dX7_had_98, dX7_had_99, dX7_had_100, dX7_had_103, tg_103_m45, dX7_had_106, dX7_had_107, jX7_had_1_111, jX7_had_1_63, jX7_had_0_122, jX7_had_0_97, st_aload_n, st_bipush, st_getfield, st_goto, st_i2l, st_iadd, st_iaload, st_iconst, st_ifCond, st_if_icmp, st_iinc, st_iload, st_iload_n, st_invokestatic, st_invokevirtual, st_ior, st_ireturn, st_ishl, st_istore, st_istore_n, st_lconst, st_ldc2_w]
      refine ⟨fun z => ?_, fun z => ?_⟩
      · rw [if_neg z] at hy; exact hy
      · rw [if_pos (Classical.not_not.mp z)] at hy; exact hy
  refine ⟨lab, (a, ad), _, rfl, hM, trivial, ?_⟩
  rintro σ1 s1 r ⟨hs1, rfl⟩ hf1 hM1
  have hS1 := hR.sd hL
  have hl := loop N 0 (bec t ψ.1) _ s1 σ1 (by omega) ⟨D, by omega, hJ⟩ hf1 hM1 (by rw [hs1]; exact SFr.rf) (by rw [hs1]; exact hS1) rfl
  rw [← hs1] at hS1
  obtain ⟨sc2, ar2, it2⟩ := s1
  have hkp : ar2 4 (20 + q) = (bec t ψ.1).2.1 q := hS1.2.2.1 q hq
  obtain ⟨⟨m1, -⟩, e1, -⟩ := id hM1
  obtain ⟨m4, e4⟩ := hM1.arr 4 rfl
  simp only [ME, iA, lenM] at m1 e1 m4 e4
  unfold kas at hl
  refine yvc_ok (uX7_had Γ) (S := [58]) 60 _ _ _ _ ?_
  simp only [m1, e1, m4, e4, j1, j2, hkp, yvc_s, s1i, s2i, s1l, s2l, sil, s1r, sir, siir, slir, srir, svr, sd1, sd2, lg, lput, ldel, isL_i, isL_r, isL_l, jmp, obj, obj1, fI, fR, arI, arL, arR, hput, f4_0, f4_1, f4_2, f4_3, lc_0, lc_1, rok_i, rok_b, rok_y, strF, fput_1, fput_2, csum_nil, csum_i, csum_l, csum_r, va_up_self, bx_uu, Int.reduceAdd, List.elem_nil, List.elem_cons, List.take_succ_cons, List.take_zero, List.drop_succ_cons, List.drop_zero, List.take_nil, List.drop_nil, List.reverse_cons, List.reverse_nil, List.nil_append, List.cons_append, List.append_nil, Option.toList_some, Option.toList_none, List.getElem?_cons_zero, List.getElem?_cons_succ, List.set_cons_zero, List.set_cons_succ, List.length_cons, List.length_nil, reduceIte, reduceCtorEq, and_true, true_and, and_self, or_true, true_or, false_and, and_false, not_true_eq_false, not_false_eq_true, true_implies, false_implies, implies_true, Nat.reduceAdd, Nat.reduceLT, Nat.reduceEqDiff, Nat.reduceLeDiff, Nat.reduceBEq, Nat.zero_add, Nat.lt_add_one, Bool.false_eq_true, Bool.or_false, Bool.or_true, Bool.or_self, Nat.zero_ne_one, Nat.one_ne_zero, ite_true, ite_false, ne_eq, Nat.reduceSub, Nat.succ_eq_add_one, Nat.zero_lt_succ, Nat.add_one_ne_zero, false_or, or_false, mX7_had_c, mX7_had_n, mX7_had_r, mX7_had_l, dX7_had_0, dX7_had_1, dX7_had_4, tg_4_15, cnd1_eq, dX7_had_7, dX7_had_8, dX7_had_9, dX7_had_10, cl_7_196, dX7_had_13, dX7_had_16, tg_16_5, cnd1_ne, dX7_had_19, ic_m1, dX7_had_20, dX7_had_21, dX7_had_22, dX7_had_25, dX7_had_26, fl_7_20_7, dX7_had_29, bc_20, dX7_had_31, dX7_had_32, dX7_had_33, dX7_had_34, bc_m4, dX7_had_36, tg_36_7, cnd2_ne, dX7_had_39, ic_0, dX7_had_40, tg_40_14, dX7_had_43, ic_1, dX7_had_44, dX7_had_45, dX7_had_48, dX7_had_50, dX7_had_51, dX7_had_52, dX7_had_53, dX7_had_54, dX7_had_55, dX7_had_56, dX7_had_58, dX7_had_60, dX7_had_61, tg_61_45, cnd2_ge, dX7_had_64, dX7_had_65, dX7_had_68, dX7_had_69, dX7_had_70, dX7_had_73, dX7_had_75, dX7_had_76, dX7_had_77, dX7_had_78, dX7_had_80, tg_80_7, dX7_had_83, dX7_had_84, tg_84_14, dX7_had_87, dX7_had_88, dX7_had_89, dX7_had_92, dX7_had_94, dX7_had_95, dX7_had_96, dX7_had_97, dX7_had_98, dX7_had_99, dX7_had_100, dX7_had_103, tg_103_m45, dX7_had_106, dX7_had_107, jX7_had_1_111, jX7_had_1_63, jX7_had_0_122, jX7_had_0_97, st_aload_n, st_bipush, st_getfield, st_goto, st_i2l, st_iadd, st_iaload, st_iconst, st_ifCond, st_if_icmp, st_iinc, st_iload, st_iload_n, st_invokestatic, st_invokevirtual, st_ior, st_ireturn, st_ishl, st_istore, st_istore_n, st_lconst, st_ldc2_w]
  refine ⟨fun z => ?_, fun z => ?_⟩
  · rw [if_neg z] at hl; exact hl
  · rw [if_pos (Classical.not_not.mp z)] at hl; exact hl
