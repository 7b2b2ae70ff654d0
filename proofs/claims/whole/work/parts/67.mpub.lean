/-! ===== YawnKeysModel: of, at, type, count, person ===== -/
def sp_X7_of (Γ : Cx) : YSp := fun av σ K => ∃ (x : Int32) (y : Int32), mo Γ [.int x, .int y] (fn (x_of x y)) av σ K
theorem rv_X7_of {Γ : Cx} : Recv (sp_X7_of Γ) 2 7 := by
  intro av σ K h
  obtain ⟨x, y, h⟩ := h
  obtain ⟨q, fs, h1, h2, h3⟩ := rv_mo h
  exact ⟨q, _, fs, h1, rfl, h2, h3⟩
theorem bw_823 : Cond.code yX7_keySet cX7_keySet 4 (some .int) ∈ BW := bw_i 823 (by decide +kernel) (by decide +kernel)
theorem no_X7_keySet : NameOK yX7_keySet 1 := by unfold NameOK; decide +kernel
theorem bw_820 : Cond.methodLink RX7 116 yX7_keySet ∈ BW := bw_i 820 (by decide +kernel) (by decide +kernel)
theorem bw_822 : Cond.instanceMethod yX7_keySet ∈ BW := bw_i 822 (by decide +kernel) (by decide +kernel)
theorem bw_15 : Cond.selects RX7 yX7_keySet yX7_keySet ∈ BW := bw_i 15 (by decide +kernel) (by decide +kernel)
theorem bw_827 : Cond.code yX7_sumOf cX7_sumOf 2 (some .int) ∈ BW := bw_i 827 (by decide +kernel) (by decide +kernel)
theorem no_X7_sumOf : NameOK yX7_sumOf 1 := by unfold NameOK; decide +kernel
theorem bw_824 : Cond.methodLink RX7 119 yX7_sumOf ∈ BW := bw_i 824 (by decide +kernel) (by decide +kernel)
theorem bw_826 : Cond.instanceMethod yX7_sumOf ∈ BW := bw_i 826 (by decide +kernel) (by decide +kernel)
theorem bw_16 : Cond.selects RX7 yX7_sumOf yX7_sumOf ∈ BW := bw_i 16 (by decide +kernel) (by decide +kernel)
theorem tg_5_15 : tgo 5 15 = some 20 := by decide
theorem tg_23_12 : tgo 23 12 = some 35 := by decide
theorem tg_32_21 : tgo 32 21 = some 53 := by decide
theorem tg_45_8 : tgo 45 8 = some 53 := by decide
def mX7_of : Mt := (⟨2, 0, 0, 46⟩, RX7, cX7_of, 3, some .int, (0, 0), none)
theorem mX7_of_c : mX7_of.2.2.1 = cX7_of := rfl
theorem mX7_of_n : mX7_of.2.2.2.1 = 3 := rfl
theorem mX7_of_r : mX7_of.2.2.2.2.1 = some .int := rfl
theorem mX7_of_l : mX7_of.2.2.2.2.2.2 = none := rfl
def jX7_of (Γ : Cx) : List ((Nat × Nat) × Nat × Bool × YSp) := [((0, 107), 2, true, sp_X7_isOne Γ), ((1, 63), 3, true, sp_X7_lies Γ), ((0, 116), 2, false, sp_X7_keySet Γ), ((0, 119), 2, false, sp_X7_sumOf Γ)]
theorem jX7_of_0_107 (Γ : Cx) : kT (jX7_of Γ) 0 107 = some (2, true, sp_X7_isOne Γ) := rfl
theorem jX7_of_1_63 (Γ : Cx) : kT (jX7_of Γ) 1 63 = some (3, true, sp_X7_lies Γ) := rfl
theorem jX7_of_0_116 (Γ : Cx) : kT (jX7_of Γ) 0 116 = some (2, false, sp_X7_keySet Γ) := rfl
theorem jX7_of_0_119 (Γ : Cx) : kT (jX7_of Γ) 0 119 = some (2, false, sp_X7_sumOf Γ) := rfl
theorem uX7_of (Γ : Cx) : TbOK Γ mX7_of (fT fX7, cT kX7, kT (jX7_of Γ)) := tb_ok fX7_ok kX7_ok (all_cons ⟨call_V (n := 1) (T := TX7) (N := 26) (ok_X7_isOne Γ) (rv_X7_isOne (Γ := Γ)) rfl bw_810 bw_807 bw_809 bw_14 bw_49 no_X7_isOne ⟨⟨rfl, rfl⟩, ⟨by decide, by decide⟩, ⟨by decide, by decide⟩⟩, fun _ => mono_X7_isOne (Γ := Γ)⟩ (all_cons ⟨call_S (n := 3) (ok_X7_lies Γ) (rv_X7_lies (Γ := Γ)) bw_797 bw_795 bw_796 bw_49 no_X7_lies ⟨⟨rfl, rfl⟩, ⟨by decide, by decide⟩, ⟨by decide, by decide⟩⟩, fun _ => mono_X7_lies (Γ := Γ)⟩ (all_cons ⟨call_V (n := 1) (T := TX7) (N := 26) (ok_X7_keySet Γ) (rv_X7_keySet (Γ := Γ)) rfl bw_823 bw_820 bw_822 bw_15 bw_49 no_X7_keySet ⟨⟨rfl, rfl⟩, ⟨by decide, by decide⟩, ⟨by decide, by decide⟩⟩, fun z => by cases z⟩ (all_cons ⟨call_V (n := 1) (T := TX7) (N := 26) (ok_X7_sumOf Γ) (rv_X7_sumOf (Γ := Γ)) rfl bw_827 bw_824 bw_826 bw_16 bw_49 no_X7_sumOf ⟨⟨rfl, rfl⟩, ⟨by decide, by decide⟩, ⟨by decide, by decide⟩⟩, fun z => by cases z⟩ (all_nil)))))
theorem no_cases {x : Int32} (h : inr x 0 2 = true) (h0 : ¬ x = 0) (h1 : ¬ x = 1) : x = 2 := by
  obtain ⟨q, hq, rfl⟩ := in_n (B := 2) (by decide) h
  rcases (show q = 0 ∨ q = 1 ∨ q = 2 by omega) with rfl | rfl | rfl
  · exact absurd rfl h0
  · exact absurd rfl h1
  · rfl
theorem yes_0 : inr (0 : Int32) 0 2 = true := by decide
theorem yes_1 : inr (1 : Int32) 0 2 = true := by decide
theorem yes_2 : inr (2 : Int32) 0 2 = true := by decide
set_option maxRecDepth 20000 in
theorem ok_X7_of (Γ : Cx) : Ok Γ yX7_of mX7_of (sp_X7_of Γ) := by
  refine ok_intro (by decide +kernel) rfl rfl ?_
  intro av σ K h
  obtain ⟨x, y, h⟩ := h
  obtain ⟨lab, ⟨a, ad⟩, ⟨sc, ar, it⟩, ψ, ψ', r, rfl, hM, hR, hrel, h⟩ := h
  try simp only at h
  obtain ⟨⟨m1, -⟩, e1, -⟩ := id hM
  obtain ⟨⟨p1, p2, p3, p4, pI, p5, p6, p7⟩, hImg, h16, hT, hSh⟩ := id hR
  have hP := pI.P5
  simp only at p1 p2 p3 p4 p5 p6 p7 hImg h16 hT hSh
  simp only [ME] at m1 e1
  obtain ⟨hq1, hq2⟩ := fn_r hrel
  rw [hq1, hq2] at h
  clear hq1 hq2 hrel ψ' r
  have h := h σ (sc, ar, it) hR frm.rf hM
  unfold x_of at h
  simp only at h
  obtain ⟨m2, e2⟩ := hM.arr 2 rfl
  simp only [iA, lenM] at m2 e2
  refine ⟨Nat.le_of_ble_eq_true rfl, yvc_ok (uX7_of Γ) (S := []) 40 _ _ _ _ ?_⟩
  simp only [lv_args, Value.category, m1, e1, m2, e2, sp_X7_isOne, sp_X7_lies, inL_02, p1, bI_eq0, Bool.not_eq_false, yvc_s, s1i, s2i, s1l, s2l, sil, s1r, sir, siir, slir, srir, svr, sd1, sd2, lg, lput, ldel, isL_i, isL_r, isL_l, jmp, obj, obj1, fI, fR, arI, arL, arR, hput, f4_0, f4_1, f4_2, f4_3, lc_0, lc_1, rok_i, rok_b, rok_y, strF, fput_1, fput_2, csum_nil, csum_i, csum_l, csum_r, va_up_self, bx_uu, Int.reduceAdd, List.elem_nil, List.elem_cons, List.take_succ_cons, List.take_zero, List.drop_succ_cons, List.drop_zero, List.take_nil, List.drop_nil, List.reverse_cons, List.reverse_nil, List.nil_append, List.cons_append, List.append_nil, Option.toList_some, Option.toList_none, List.getElem?_cons_zero, List.getElem?_cons_succ, List.set_cons_zero, List.set_cons_succ, List.length_cons, List.length_nil, reduceIte, reduceCtorEq, and_true, true_and, and_self, or_true, true_or, false_and, and_false, not_true_eq_false, not_false_eq_true, true_implies, false_implies, implies_true, Nat.reduceAdd, Nat.reduceLT, Nat.reduceEqDiff, Nat.reduceLeDiff, Nat.reduceBEq, Nat.zero_add, Nat.lt_add_one, Bool.false_eq_true, Bool.or_false, Bool.or_true, Bool.or_self, Nat.zero_ne_one, Nat.one_ne_zero, ite_true, ite_false, ne_eq, Nat.reduceSub, Nat.succ_eq_add_one, Nat.zero_lt_succ, Nat.add_one_ne_zero, false_or, or_false, mX7_of_c, mX7_of_n, mX7_of_r, mX7_of_l, dX7_of_0, dX7_of_1, dX7_of_2, dX7_of_5, tg_5_15, cnd1_eq, dX7_of_8, dX7_of_9, dX7_of_10, dX7_of_11, cl_7_114, dX7_of_14, dX7_of_17, tg_17_5, cnd1_ne, dX7_of_20, ic_m1, dX7_of_21, dX7_of_22, dX7_of_23, tg_23_12, dX7_of_26, dX7_of_27, fl_7_13_7, dX7_of_30, dX7_of_31, dX7_of_32, tg_32_21, dX7_of_35, dX7_of_36, ic_1, dX7_of_37, tg_37_11, cnd2_ne, dX7_of_40, dX7_of_41, dX7_of_42, dX7_of_45, tg_45_8, dX7_of_48, dX7_of_49, dX7_of_50, dX7_of_53, jX7_of_0_107, jX7_of_1_63, jX7_of_0_116, jX7_of_0_119, st_aload_n, st_getfield, st_goto, st_i2l, st_iaload, st_iconst, st_ifCond, st_if_icmp, st_iload_n, st_invokestatic, st_invokevirtual, st_ireturn, st_lconst, st_ldc2_w]
  refine ⟨fun c => ?_, fun c => ⟨fun d => ⟨fun y0 => ⟨fun y1 => ?_, fun y1 => ?_⟩, fun y0 => ?_⟩, fun d => ?_⟩⟩
  · rw [if_neg (fun z => by rw [z] at c; cases c)] at h
    exact h
  · obtain ⟨q, hq, rfl⟩ := has_n hP c
    have y2 := no_cases d y0 y1
    rw [if_pos c, if_neg y0, if_neg y1, if_pos y2] at h
    refine ⟨q, ψ, lab, (a, ad), (sc, ar, it), rfl, hM, ⟨hR, hq⟩, ?_⟩
    refine yvc_ok (uX7_of Γ) (S := []) 40 _ _ _ _ ?_
    simp only [yvc_s, s1i, s2i, s1l, s2l, sil, s1r, sir, siir, slir, srir, svr, sd1, sd2, lg, lput, ldel, isL_i, isL_r, isL_l, jmp, obj, obj1, fI, fR, arI, arL, arR, hput, f4_0, f4_1, f4_2, f4_3, lc_0, lc_1, rok_i, rok_b, rok_y, strF, fput_1, fput_2, csum_nil, csum_i, csum_l, csum_r, va_up_self, bx_uu, Int.reduceAdd, List.elem_nil, List.elem_cons, List.take_succ_cons, List.take_zero, List.drop_succ_cons, List.drop_zero, List.take_nil, List.drop_nil, List.reverse_cons, List.reverse_nil, List.nil_append, List.cons_append, List.append_nil, Option.toList_some, Option.toList_none, List.getElem?_cons_zero, List.getElem?_cons_succ, List.set_cons_zero, List.set_cons_succ, List.length_cons, List.length_nil, reduceIte, reduceCtorEq, and_true, true_and, and_self, or_true, true_or, false_and, and_false, not_true_eq_false, not_false_eq_true, true_implies, false_implies, implies_true, Nat.reduceAdd, Nat.reduceLT, Nat.reduceEqDiff, Nat.reduceLeDiff, Nat.reduceBEq, Nat.zero_add, Nat.lt_add_one, Bool.false_eq_true, Bool.or_false, Bool.or_true, Bool.or_self, Nat.zero_ne_one, Nat.one_ne_zero, ite_true, ite_false, ne_eq, Nat.reduceSub, Nat.succ_eq_add_one, Nat.zero_lt_succ, Nat.add_one_ne_zero, false_or, or_false, mX7_of_c, mX7_of_n, mX7_of_r, mX7_of_l, dX7_of_0, dX7_of_1, dX7_of_2, dX7_of_5, tg_5_15, cnd1_eq, dX7_of_8, dX7_of_9, dX7_of_10, dX7_of_11, cl_7_114, dX7_of_14, dX7_of_17, tg_17_5, cnd1_ne, dX7_of_20, ic_m1, dX7_of_21, dX7_of_22, dX7_of_23, tg_23_12, dX7_of_26, dX7_of_27, fl_7_13_7, dX7_of_30, dX7_of_31, dX7_of_32, tg_32_21, dX7_of_35, dX7_of_36, ic_1, dX7_of_37, tg_37_11, cnd2_ne, dX7_of_40, dX7_of_41, dX7_of_42, dX7_of_45, tg_45_8, dX7_of_48, dX7_of_49, dX7_of_50, dX7_of_53, jX7_of_0_107, jX7_of_1_63, jX7_of_0_116, jX7_of_0_119, st_aload_n, st_getfield, st_goto, st_i2l, st_iaload, st_iconst, st_ifCond, st_if_icmp, st_iload_n, st_invokestatic, st_invokevirtual, st_ireturn, st_lconst, st_ldc2_w]
    exact h
  · have y1 := Classical.not_not.mp y1
    rw [if_pos c, if_neg y0, if_pos y1] at h
    refine ⟨x, lab, (a, ad), (sc, ar, it), rfl, hM, trivial, ?_⟩
    simp only [kset_row p6 x 4 (Nat.le_refl _)]
    refine yvc_ok (uX7_of Γ) (S := []) 40 _ _ _ _ ?_
    simp only [yvc_s, s1i, s2i, s1l, s2l, sil, s1r, sir, siir, slir, srir, svr, sd1, sd2, lg, lput, ldel, isL_i, isL_r, isL_l, jmp, obj, obj1, fI, fR, arI, arL, arR, hput, f4_0, f4_1, f4_2, f4_3, lc_0, lc_1, rok_i, rok_b, rok_y, strF, fput_1, fput_2, csum_nil, csum_i, csum_l, csum_r, va_up_self, bx_uu, Int.reduceAdd, List.elem_nil, List.elem_cons, List.take_succ_cons, List.take_zero, List.drop_succ_cons, List.drop_zero, List.take_nil, List.drop_nil, List.reverse_cons, List.reverse_nil, List.nil_append, List.cons_append, List.append_nil, Option.toList_some, Option.toList_none, List.getElem?_cons_zero, List.getElem?_cons_succ, List.set_cons_zero, List.set_cons_succ, List.length_cons, List.length_nil, reduceIte, reduceCtorEq, and_true, true_and, and_self, or_true, true_or, false_and, and_false, not_true_eq_false, not_false_eq_true, true_implies, false_implies, implies_true, Nat.reduceAdd, Nat.reduceLT, Nat.reduceEqDiff, Nat.reduceLeDiff, Nat.reduceBEq, Nat.zero_add, Nat.lt_add_one, Bool.false_eq_true, Bool.or_false, Bool.or_true, Bool.or_self, Nat.zero_ne_one, Nat.one_ne_zero, ite_true, ite_false, ne_eq, Nat.reduceSub, Nat.succ_eq_add_one, Nat.zero_lt_succ, Nat.add_one_ne_zero, false_or, or_false, mX7_of_c, mX7_of_n, mX7_of_r, mX7_of_l, dX7_of_0, dX7_of_1, dX7_of_2, dX7_of_5, tg_5_15, cnd1_eq, dX7_of_8, dX7_of_9, dX7_of_10, dX7_of_11, cl_7_114, dX7_of_14, dX7_of_17, tg_17_5, cnd1_ne, dX7_of_20, ic_m1, dX7_of_21, dX7_of_22, dX7_of_23, tg_23_12, dX7_of_26, dX7_of_27, fl_7_13_7, dX7_of_30, dX7_of_31, dX7_of_32, tg_32_21, dX7_of_35, dX7_of_36, ic_1, dX7_of_37, tg_37_11, cnd2_ne, dX7_of_40, dX7_of_41, dX7_of_42, dX7_of_45, tg_45_8, dX7_of_48, dX7_of_49, dX7_of_50, dX7_of_53, jX7_of_0_107, jX7_of_1_63, jX7_of_0_116, jX7_of_0_119, st_aload_n, st_getfield, st_goto, st_i2l, st_iaload, st_iconst, st_ifCond, st_if_icmp, st_iload_n, st_invokestatic, st_invokevirtual, st_ireturn, st_lconst, st_ldc2_w]
    exact h
  · have y0 := Classical.not_not.mp y0
    rw [if_pos c, if_pos y0] at h
    obtain ⟨q, hq, rfl⟩ := has_n hP c
    obtain ⟨i1, i2⟩ := in5q (show q < 5 by omega)
    rw [i2] at h ⊢
    rw [p5 q hq]
    exact ⟨i1, h⟩
  · have n0 : ¬ y = 0 := fun z => d (z ▸ yes_0)
    have n1 : ¬ y = 1 := fun z => d (z ▸ yes_1)
    have n2 : ¬ y = 2 := fun z => d (z ▸ yes_2)
    rw [if_pos c, if_neg n0, if_neg n1, if_neg n2] at h
    exact h
def sp_X7_at (Γ : Cx) : YSp := fun av σ K => ∃ (x : Int32) (y : Int32), mo Γ [.int x, .int y] (fn (x_at x y)) av σ K
theorem rv_X7_at {Γ : Cx} : Recv (sp_X7_at Γ) 2 7 := by
  intro av σ K h
  obtain ⟨x, y, h⟩ := h
  obtain ⟨q, fs, h1, h2, h3⟩ := rv_mo h
  exact ⟨q, _, fs, h1, rfl, h2, h3⟩
theorem bw_835 : Cond.code yX7_aside cX7_aside 2 none ∈ BW := bw_i 835 (by decide +kernel) (by decide +kernel)
theorem no_X7_aside : NameOK yX7_aside 0 := by unfold NameOK; decide +kernel
theorem bw_832 : Cond.methodLink RX7 122 yX7_aside ∈ BW := bw_i 832 (by decide +kernel) (by decide +kernel)
theorem bw_834 : Cond.instanceMethod yX7_aside ∈ BW := bw_i 834 (by decide +kernel) (by decide +kernel)
theorem bw_17 : Cond.selects RX7 yX7_aside yX7_aside ∈ BW := bw_i 17 (by decide +kernel) (by decide +kernel)
theorem tg_4_15 : tgo 4 15 = some 19 := by decide
theorem tg_36_7 : tgo 36 7 = some 43 := by decide
theorem tg_40_32 : tgo 40 32 = some 72 := by decide
theorem tg_45_22 : tgo 45 22 = some 67 := by decide
theorem tg_55_17 : tgo 55 17 = some 72 := by decide
theorem tg_64_8 : tgo 64 8 = some 72 := by decide
def mX7_at : Mt := (⟨2, 0, 0, 48⟩, RX7, cX7_at, 4, some .int, (0, 0), none)
theorem mX7_at_c : mX7_at.2.2.1 = cX7_at := rfl
theorem mX7_at_n : mX7_at.2.2.2.1 = 4 := rfl
theorem mX7_at_r : mX7_at.2.2.2.2.1 = some .int := rfl
theorem mX7_at_l : mX7_at.2.2.2.2.2.2 = none := rfl
def jX7_at (Γ : Cx) : List ((Nat × Nat) × Nat × Bool × YSp) := [((1, 111), 1, true, sp_X7_isDoor Γ), ((1, 63), 3, true, sp_X7_lies Γ), ((0, 122), 1, false, sp_X7_aside Γ), ((0, 85), 3, false, sp_X7_more Γ), ((0, 82), 2, false, sp_X7_leastOf Γ)]
theorem jX7_at_1_111 (Γ : Cx) : kT (jX7_at Γ) 1 111 = some (1, true, sp_X7_isDoor Γ) := rfl
theorem jX7_at_1_63 (Γ : Cx) : kT (jX7_at Γ) 1 63 = some (3, true, sp_X7_lies Γ) := rfl
theorem jX7_at_0_122 (Γ : Cx) : kT (jX7_at Γ) 0 122 = some (1, false, sp_X7_aside Γ) := rfl
theorem jX7_at_0_85 (Γ : Cx) : kT (jX7_at Γ) 0 85 = some (3, false, sp_X7_more Γ) := rfl
theorem jX7_at_0_82 (Γ : Cx) : kT (jX7_at Γ) 0 82 = some (2, false, sp_X7_leastOf Γ) := rfl
theorem uX7_at (Γ : Cx) : TbOK Γ mX7_at (fT fX7, cT kX7, kT (jX7_at Γ)) := tb_ok fX7_ok kX7_ok (all_cons ⟨call_S (n := 1) (ok_X7_isDoor Γ) (rv_X7_isDoor (Γ := Γ)) bw_813 bw_811 bw_812 bw_49 no_X7_isDoor ⟨⟨rfl, rfl⟩, ⟨by decide, by decide⟩, ⟨by decide, by decide⟩⟩, fun _ => mono_X7_isDoor (Γ := Γ)⟩ (all_cons ⟨call_S (n := 3) (ok_X7_lies Γ) (rv_X7_lies (Γ := Γ)) bw_797 bw_795 bw_796 bw_49 no_X7_lies ⟨⟨rfl, rfl⟩, ⟨by decide, by decide⟩, ⟨by decide, by decide⟩⟩, fun _ => mono_X7_lies (Γ := Γ)⟩ (all_cons ⟨call_V (n := 0) (T := TX7) (N := 26) (ok_X7_aside Γ) (rv_X7_aside (Γ := Γ)) rfl bw_835 bw_832 bw_834 bw_17 bw_49 no_X7_aside ⟨⟨rfl, rfl⟩, ⟨by decide, by decide⟩, ⟨by decide, by decide⟩⟩, fun z => by cases z⟩ (all_cons ⟨call_V (n := 2) (T := TX7) (N := 26) (ok_X7_more Γ) (rv_X7_more (Γ := Γ)) rfl bw_839 bw_836 bw_838 bw_18 bw_49 no_X7_more ⟨⟨rfl, rfl⟩, ⟨by decide, by decide⟩, ⟨by decide, by decide⟩⟩, fun z => by cases z⟩ (all_cons ⟨call_V (n := 1) (T := TX7) (N := 26) (ok_X7_leastOf Γ) (rv_X7_leastOf (Γ := Γ)) rfl bw_851 bw_848 bw_850 bw_21 bw_49 no_X7_leastOf ⟨⟨rfl, rfl⟩, ⟨by decide, by decide⟩, ⟨by decide, by decide⟩⟩, fun z => by cases z⟩ (all_nil))))))
set_option maxRecDepth 20000 in
theorem ok_X7_at (Γ : Cx) : Ok Γ yX7_at mX7_at (sp_X7_at Γ) := by
  refine ok_intro (by decide +kernel) rfl rfl ?_
  intro av σ K h
  obtain ⟨x, y, h⟩ := h
  obtain ⟨lab, ⟨a, ad⟩, ⟨sc, ar, it⟩, ψ, ψ', r, rfl, hM, hR, hrel, h⟩ := h
  try simp only at h
  obtain ⟨⟨m1, -⟩, e1, -⟩ := id hM
  obtain ⟨⟨p1, p2, p3, p4, pI, p5, p6, p7⟩, hImg, h16, hT, hSh⟩ := id hR
  have hP := pI.P5
  simp only at p1 p2 p3 p4 p5 p6 p7 hImg h16 hT hSh
  simp only [ME] at m1 e1
  obtain ⟨hq1, hq2⟩ := fn_r hrel
  rw [hq1, hq2] at h
  clear hq1 hq2 hrel ψ' r
  unfold x_at at h
  simp only at h
  refine ⟨Nat.le_of_ble_eq_true rfl, yvc_ok (uX7_at Γ) (S := []) 40 _ _ _ _ ?_⟩
  simp only [lv_args, Value.category, sp_X7_isDoor, sp_X6_isDoor, sp_X7_lies, inL_02, bI_eq0, Bool.not_eq_false, yvc_s, s1i, s2i, s1l, s2l, sil, s1r, sir, siir, slir, srir, svr, sd1, sd2, lg, lput, ldel, isL_i, isL_r, isL_l, jmp, obj, obj1, fI, fR, arI, arL, arR, hput, f4_0, f4_1, f4_2, f4_3, lc_0, lc_1, rok_i, rok_b, rok_y, strF, fput_1, fput_2, csum_nil, csum_i, csum_l, csum_r, va_up_self, bx_uu, Int.reduceAdd, List.elem_nil, List.elem_cons, List.take_succ_cons, List.take_zero, List.drop_succ_cons, List.drop_zero, List.take_nil, List.drop_nil, List.reverse_cons, List.reverse_nil, List.nil_append, List.cons_append, List.append_nil, Option.toList_some, Option.toList_none, List.getElem?_cons_zero, List.getElem?_cons_succ, List.set_cons_zero, List.set_cons_succ, List.length_cons, List.length_nil, reduceIte, reduceCtorEq, and_true, true_and, and_self, or_true, true_or, false_and, and_false, not_true_eq_false, not_false_eq_true, true_implies, false_implies, implies_true, Nat.reduceAdd, Nat.reduceLT, Nat.reduceEqDiff, Nat.reduceLeDiff, Nat.reduceBEq, Nat.zero_add, Nat.lt_add_one, Bool.false_eq_true, Bool.or_false, Bool.or_true, Bool.or_self, Nat.zero_ne_one, Nat.one_ne_zero, ite_true, ite_false, ne_eq, Nat.reduceSub, Nat.succ_eq_add_one, Nat.zero_lt_succ, Nat.add_one_ne_zero, false_or, or_false, mX7_at_c, mX7_at_n, mX7_at_r, mX7_at_l, dX7_at_0, dX7_at_1, dX7_at_4, tg_4_15, cnd1_eq, dX7_at_7, dX7_at_8, dX7_at_9, dX7_at_10, cl_7_114, dX7_at_13, dX7_at_16, tg_16_5, cnd1_ne, dX7_at_19, ic_m1, dX7_at_20, dX7_at_21, dX7_at_22, dX7_at_25, dX7_at_26, fl_7_17_7, dX7_at_29, bc_20, dX7_at_31, dX7_at_32, dX7_at_33, dX7_at_34, dX7_at_35, dX7_at_36, tg_36_7, dX7_at_39, dX7_at_40, tg_40_32, dX7_at_43, dX7_at_44, ic_1, dX7_at_45, tg_45_22, cnd2_ne, dX7_at_48, dX7_at_49, bc_m4, dX7_at_51, tg_51_7, dX7_at_54, ic_0, dX7_at_55, tg_55_17, dX7_at_58, dX7_at_59, dX7_at_60, dX7_at_61, dX7_at_64, tg_64_8, dX7_at_67, dX7_at_68, dX7_at_69, dX7_at_72, jX7_at_1_111, jX7_at_1_63, jX7_at_0_122, jX7_at_0_85, jX7_at_0_82, st_aload_n, st_bipush, st_getfield, st_goto, st_i2l, st_iadd, st_iaload, st_iconst, st_ifCond, st_if_icmp, st_iload_n, st_invokestatic, st_invokevirtual, st_ireturn, st_istore_n, st_lconst, st_ldc2_w]
  refine ⟨fun c => ?_, fun c => ⟨fun d => ?_, fun d => ?_⟩⟩
  · rw [if_neg (fun z => by rw [z] at c; cases c)] at h
    exact h _ _ hR frm.rf hM
  · refine ⟨lab, (a, ad), (sc, ar, it), rfl, hM, trivial, ?_⟩
    rintro σ1 s1 r ⟨rfl, rfl⟩ hf1 hM1
    have h := h σ1 _ hR.asd hf1 hM1
    obtain ⟨q, hq, rfl⟩ := door_n c
    obtain ⟨i1, i2⟩ := ix20 hq
    obtain ⟨-, j1, j2⟩ := lt4 hq
    obtain ⟨⟨m1, -⟩, e1, -⟩ := id hM1
    obtain ⟨m3, e3⟩ := hM1.arr 3 rfl
    have hS := hR.sd Like.rf
    obtain ⟨D, hD, hJ⟩ := pI
    simp only [asd, ME, iA, lenM, updA_ne (show (3 : Nat) ≠ 4 by decide)] at m1 e1 m3 e3
    have hkp : ar 3 (20 + q) = ψ.1.2.1 q := p6.2.1 q hq
    rw [if_pos c, j2] at h
    refine yvc_ok (uX7_at Γ) (S := []) 40 _ _ _ _ ?_
    simp only [m1, e1, m3, e3, i1, i2, hkp, yvc_s, s1i, s2i, s1l, s2l, sil, s1r, sir, siir, slir, srir, svr, sd1, sd2, lg, lput, ldel, isL_i, isL_r, isL_l, jmp, obj, obj1, fI, fR, arI, arL, arR, hput, f4_0, f4_1, f4_2, f4_3, lc_0, lc_1, rok_i, rok_b, rok_y, strF, fput_1, fput_2, csum_nil, csum_i, csum_l, csum_r, va_up_self, bx_uu, Int.reduceAdd, List.elem_nil, List.elem_cons, List.take_succ_cons, List.take_zero, List.drop_succ_cons, List.drop_zero, List.take_nil, List.drop_nil, List.reverse_cons, List.reverse_nil, List.nil_append, List.cons_append, List.append_nil, Option.toList_some, Option.toList_none, List.getElem?_cons_zero, List.getElem?_cons_succ, List.set_cons_zero, List.set_cons_succ, List.length_cons, List.length_nil, reduceIte, reduceCtorEq, and_true, true_and, and_self, or_true, true_or, false_and, and_false, not_true_eq_false, not_false_eq_true, true_implies, false_implies, implies_true, Nat.reduceAdd, Nat.reduceLT, Nat.reduceEqDiff, Nat.reduceLeDiff, Nat.reduceBEq, Nat.zero_add, Nat.lt_add_one, Bool.false_eq_true, Bool.or_false, Bool.or_true, Bool.or_self, Nat.zero_ne_one, Nat.one_ne_zero, ite_true, ite_false, ne_eq, Nat.reduceSub, Nat.succ_eq_add_one, Nat.zero_lt_succ, Nat.add_one_ne_zero, false_or, or_false, mX7_at_c, mX7_at_n, mX7_at_r, mX7_at_l, dX7_at_0, dX7_at_1, dX7_at_4, tg_4_15, cnd1_eq, dX7_at_7, dX7_at_8, dX7_at_9, dX7_at_10, cl_7_114, dX7_at_13, dX7_at_16, tg_16_5, cnd1_ne, dX7_at_19, ic_m1, dX7_at_20, dX7_at_21, dX7_at_22, dX7_at_25, dX7_at_26, fl_7_17_7, dX7_at_29, bc_20, dX7_at_31, dX7_at_32, dX7_at_33, dX7_at_34, dX7_at_35, dX7_at_36, tg_36_7, dX7_at_39, dX7_at_40, tg_40_32, dX7_at_43, dX7_at_44, ic_1, dX7_at_45, tg_45_22, cnd2_ne, dX7_at_48, dX7_at_49, bc_m4, dX7_at_51, tg_51_7, dX7_at_54, ic_0, dX7_at_55, tg_55_17, dX7_at_58, dX7_at_59, dX7_at_60, dX7_at_61, dX7_at_64, tg_64_8, dX7_at_67, dX7_at_68, dX7_at_69, dX7_at_72, jX7_at_1_111, jX7_at_1_63, jX7_at_0_122, jX7_at_0_85, jX7_at_0_82, st_aload_n, st_bipush, st_getfield, st_goto, st_i2l, st_iadd, st_iaload, st_iconst, st_ifCond, st_if_icmp, st_iload_n, st_invokestatic, st_invokevirtual, st_ireturn, st_istore_n, st_lconst, st_ldc2_w]
    refine ⟨fun y0 => ⟨fun y1 => ?_, fun y1 => ⟨fun z => ?_, fun z => ?_⟩⟩, fun y0 => ?_⟩
    · have y2 := no_cases d y0 y1
      rw [if_neg y0, if_neg y1, if_pos y2] at h
      refine ⟨q, ψ.1, lab, (a, ad), _, rfl, hM1, ⟨hS, hJ.1, hJ.2.1, hq⟩, ?_⟩
      refine yvc_ok (uX7_at Γ) (S := []) 40 _ _ _ _ ?_
      simp only [yvc_s, s1i, s2i, s1l, s2l, sil, s1r, sir, siir, slir, srir, svr, sd1, sd2, lg, lput, ldel, isL_i, isL_r, isL_l, jmp, obj, obj1, fI, fR, arI, arL, arR, hput, f4_0, f4_1, f4_2, f4_3, lc_0, lc_1, rok_i, rok_b, rok_y, strF, fput_1, fput_2, csum_nil, csum_i, csum_l, csum_r, va_up_self, bx_uu, Int.reduceAdd, List.elem_nil, List.elem_cons, List.take_succ_cons, List.take_zero, List.drop_succ_cons, List.drop_zero, List.take_nil, List.drop_nil, List.reverse_cons, List.reverse_nil, List.nil_append, List.cons_append, List.append_nil, Option.toList_some, Option.toList_none, List.getElem?_cons_zero, List.getElem?_cons_succ, List.set_cons_zero, List.set_cons_succ, List.length_cons, List.length_nil, reduceIte, reduceCtorEq, and_true, true_and, and_self, or_true, true_or, false_and, and_false, not_true_eq_false, not_false_eq_true, true_implies, false_implies, implies_true, Nat.reduceAdd, Nat.reduceLT, Nat.reduceEqDiff, Nat.reduceLeDiff, Nat.reduceBEq, Nat.zero_add, Nat.lt_add_one, Bool.false_eq_true, Bool.or_false, Bool.or_true, Bool.or_self, Nat.zero_ne_one, Nat.one_ne_zero, ite_true, ite_false, ne_eq, Nat.reduceSub, Nat.succ_eq_add_one, Nat.zero_lt_succ, Nat.add_one_ne_zero, false_or, or_false, mX7_at_c, mX7_at_n, mX7_at_r, mX7_at_l, dX7_at_0, dX7_at_1, dX7_at_4, tg_4_15, cnd1_eq, dX7_at_7, dX7_at_8, dX7_at_9, dX7_at_10, cl_7_114, dX7_at_13, dX7_at_16, tg_16_5, cnd1_ne, dX7_at_19, ic_m1, dX7_at_20, dX7_at_21, dX7_at_22, dX7_at_25, dX7_at_26, fl_7_17_7, dX7_at_29, bc_20, dX7_at_31, dX7_at_32, dX7_at_33, dX7_at_34, dX7_at_35, dX7_at_36, tg_36_7, dX7_at_39, dX7_at_40, tg_40_32, dX7_at_43, dX7_at_44, ic_1, dX7_at_45, tg_45_22, cnd2_ne, dX7_at_48, dX7_at_49, bc_m4, dX7_at_51, tg_51_7, dX7_at_54, ic_0, dX7_at_55, tg_55_17, dX7_at_58, dX7_at_59, dX7_at_60, dX7_at_61, dX7_at_64, tg_64_8, dX7_at_67, dX7_at_68, dX7_at_69, dX7_at_72, jX7_at_1_111, jX7_at_1_63, jX7_at_0_122, jX7_at_0_85, jX7_at_0_82, st_aload_n, st_bipush, st_getfield, st_goto, st_i2l, st_iadd, st_iaload, st_iconst, st_ifCond, st_if_icmp, st_iload_n, st_invokestatic, st_invokevirtual, st_ireturn, st_istore_n, st_lconst, st_ldc2_w]
      exact h
    · rw [if_neg y0, if_pos (Classical.not_not.mp y1)] at h
      obtain ⟨p, hp, hk⟩ := (hJ.1.2 q hq).resolve_left z
      rw [hk]
      refine ⟨p, q, D, ψ.1, lab, (a, ad), _, rfl, hM1, ⟨hS, hJ, by omega, hq, hp, hk⟩, ?_⟩
      refine yvc_ok (uX7_at Γ) (S := []) 40 _ _ _ _ ?_
      simp only [yvc_s, s1i, s2i, s1l, s2l, sil, s1r, sir, siir, slir, srir, svr, sd1, sd2, lg, lput, ldel, isL_i, isL_r, isL_l, jmp, obj, obj1, fI, fR, arI, arL, arR, hput, f4_0, f4_1, f4_2, f4_3, lc_0, lc_1, rok_i, rok_b, rok_y, strF, fput_1, fput_2, csum_nil, csum_i, csum_l, csum_r, va_up_self, bx_uu, Int.reduceAdd, List.elem_nil, List.elem_cons, List.take_succ_cons, List.take_zero, List.drop_succ_cons, List.drop_zero, List.take_nil, List.drop_nil, List.reverse_cons, List.reverse_nil, List.nil_append, List.cons_append, List.append_nil, Option.toList_some, Option.toList_none, List.getElem?_cons_zero, List.getElem?_cons_succ, List.set_cons_zero, List.set_cons_succ, List.length_cons, List.length_nil, reduceIte, reduceCtorEq, and_true, true_and, and_self, or_true, true_or, false_and, and_false, not_true_eq_false, not_false_eq_true, true_implies, false_implies, implies_true, Nat.reduceAdd, Nat.reduceLT, Nat.reduceEqDiff, Nat.reduceLeDiff, Nat.reduceBEq, Nat.zero_add, Nat.lt_add_one, Bool.false_eq_true, Bool.or_false, Bool.or_true, Bool.or_self, Nat.zero_ne_one, Nat.one_ne_zero, ite_true, ite_false, ne_eq, Nat.reduceSub, Nat.succ_eq_add_one, Nat.zero_lt_succ, Nat.add_one_ne_zero, false_or, or_false, mX7_at_c, mX7_at_n, mX7_at_r, mX7_at_l, dX7_at_0, dX7_at_1, dX7_at_4, tg_4_15, cnd1_eq, dX7_at_7, dX7_at_8, dX7_at_9, dX7_at_10, cl_7_114, dX7_at_13, dX7_at_16, tg_16_5, cnd1_ne, dX7_at_19, ic_m1, dX7_at_20, dX7_at_21, dX7_at_22, dX7_at_25, dX7_at_26, fl_7_17_7, dX7_at_29, bc_20, dX7_at_31, dX7_at_32, dX7_at_33, dX7_at_34, dX7_at_35, dX7_at_36, tg_36_7, dX7_at_39, dX7_at_40, tg_40_32, dX7_at_43, dX7_at_44, ic_1, dX7_at_45, tg_45_22, cnd2_ne, dX7_at_48, dX7_at_49, bc_m4, dX7_at_51, tg_51_7, dX7_at_54, ic_0, dX7_at_55, tg_55_17, dX7_at_58, dX7_at_59, dX7_at_60, dX7_at_61, dX7_at_64, tg_64_8, dX7_at_67, dX7_at_68, dX7_at_69, dX7_at_72, jX7_at_1_111, jX7_at_1_63, jX7_at_0_122, jX7_at_0_85, jX7_at_0_82, st_aload_n, st_bipush, st_getfield, st_goto, st_i2l, st_iadd, st_iaload, st_iconst, st_ifCond, st_if_icmp, st_iload_n, st_invokestatic, st_invokevirtual, st_ireturn, st_istore_n, st_lconst, st_ldc2_w]
      exact h
    · rw [if_neg y0, if_pos (Classical.not_not.mp y1), show growth ψ.1 q = 0 from by unfold growth; rw [if_pos (Classical.not_not.mp z)]] at h
      exact h
    · rw [if_pos (Classical.not_not.mp y0)] at h
      exact h
  · have n0 : ¬ y = 0 := fun z => d (z ▸ yes_0)
    have n1 : ¬ y = 1 := fun z => d (z ▸ yes_1)
    have n2 : ¬ y = 2 := fun z => d (z ▸ yes_2)
    rw [if_pos c, if_neg n0, if_neg n1, if_neg n2] at h
    exact h _ _ hR frm.rf hM
/-- the tape changes -/
theorem R.upT {ψ : XS} {s : MS} {t : (Nat → Int32) × Nat} {v : Int32} {f : Nat → Int32} (h : R ψ s) (hn : RT t v f) : R (ψ.1, ψ.2.1, ψ.2.2.1, ψ.2.2.2.1, ψ.2.2.2.2.1, t, ψ.2.2.2.2.2.2) (upd s.1 14 v, updA s.2.1 15 f, s.2.2) := ⟨h.1, h.2.1, h.2.2.1, hn, h.2.2.2.2⟩
def sp_X7_type (Γ : Cx) : YSp := fun av σ K => ∃ (x : Int32), mo Γ [.int x] (fn (x_type x)) av σ K
theorem rv_X7_type {Γ : Cx} : Recv (sp_X7_type Γ) 1 7 := by
  intro av σ K h
  obtain ⟨x, h⟩ := h
  obtain ⟨q, fs, h1, h2, h3⟩ := rv_mo h
  exact ⟨q, _, fs, h1, rfl, h2, h3⟩
def mX7_type : Mt := (⟨1, 0, 0, 25⟩, RX7, cX7_type, 2, some .int, (0, 0), none)
theorem mX7_type_c : mX7_type.2.2.1 = cX7_type := rfl
theorem mX7_type_n : mX7_type.2.2.2.1 = 2 := rfl
theorem mX7_type_r : mX7_type.2.2.2.2.1 = some .int := rfl
theorem mX7_type_l : mX7_type.2.2.2.2.2.2 = none := rfl
def jX7_type (Γ : Cx) : List ((Nat × Nat) × Nat × Bool × YSp) := [((1, 63), 3, true, sp_X7_lies Γ)]
theorem jX7_type_1_63 (Γ : Cx) : kT (jX7_type Γ) 1 63 = some (3, true, sp_X7_lies Γ) := rfl
theorem uX7_type (Γ : Cx) : TbOK Γ mX7_type (fT fX7, cT kX7, kT (jX7_type Γ)) := tb_ok fX7_ok kX7_ok (all_cons ⟨call_S (n := 3) (ok_X7_lies Γ) (rv_X7_lies (Γ := Γ)) bw_797 bw_795 bw_796 bw_49 no_X7_lies ⟨⟨rfl, rfl⟩, ⟨by decide, by decide⟩, ⟨by decide, by decide⟩⟩, fun _ => mono_X7_lies (Γ := Γ)⟩ (all_nil))
theorem n50 {n : Nat} (h : n ≤ 50) : nI n = 50 ↔ n = 50 := nI_eq (b := 50) (by omega) (by decide)
set_option maxRecDepth 20000 in
theorem ok_X7_type (Γ : Cx) : Ok Γ yX7_type mX7_type (sp_X7_type Γ) := by
  refine ok_intro (by decide +kernel) rfl rfl ?_
  intro av σ K h
  obtain ⟨x, h⟩ := h
  obtain ⟨lab, ⟨a, ad⟩, ⟨sc, ar, it⟩, ψ, ψ', r, rfl, hM, hR, hrel, h⟩ := h
  try simp only at h
  obtain ⟨⟨m1, -⟩, e1, -⟩ := id hM
  obtain ⟨⟨p1, p2, p3, p4, pI, p5, p6, p7⟩, hImg, h16, hT, hSh⟩ := id hR
  have hP := pI.P5
  simp only at p1 p2 p3 p4 p5 p6 p7 hImg h16 hT hSh
  simp only [ME] at m1 e1
  obtain ⟨hq1, hq2⟩ := fn_r hrel
  rw [hq1, hq2] at h
  clear hq1 hq2 hrel ψ' r
  unfold x_type at h
  obtain ⟨t1, t2, t3⟩ := id hT
  rw [t1] at e1
  obtain ⟨m15, e15⟩ := hM.arr 15 rfl
  simp only [iA, lenM] at m15 e15
  have n1 := fun f y => hM.neA (k := 15) rfl f y
  simp only at n1
  refine ⟨Nat.le_of_ble_eq_true rfl, yvc_ok (uX7_type Γ) (S := [28]) 40 _ _ _ _ ?_⟩
  simp only [lv_args, Value.category, m1, e1, sp_X7_lies, inL_32, n50 t2, bI_eq0, Bool.not_eq_false, yvc_s, s1i, s2i, s1l, s2l, sil, s1r, sir, siir, slir, srir, svr, sd1, sd2, lg, lput, ldel, isL_i, isL_r, isL_l, jmp, obj, obj1, fI, fR, arI, arL, arR, hput, f4_0, f4_1, f4_2, f4_3, lc_0, lc_1, rok_i, rok_b, rok_y, strF, fput_1, fput_2, csum_nil, csum_i, csum_l, csum_r, va_up_self, bx_uu, Int.reduceAdd, List.elem_nil, List.elem_cons, List.take_succ_cons, List.take_zero, List.drop_succ_cons, List.drop_zero, List.take_nil, List.drop_nil, List.reverse_cons, List.reverse_nil, List.nil_append, List.cons_append, List.append_nil, Option.toList_some, Option.toList_none, List.getElem?_cons_zero, List.getElem?_cons_succ, List.set_cons_zero, List.set_cons_succ, List.length_cons, List.length_nil, reduceIte, reduceCtorEq, and_true, true_and, and_self, or_true, true_or, false_and, and_false, not_true_eq_false, not_false_eq_true, true_implies, false_implies, implies_true, Nat.reduceAdd, Nat.reduceLT, Nat.reduceEqDiff, Nat.reduceLeDiff, Nat.reduceBEq, Nat.zero_add, Nat.lt_add_one, Bool.false_eq_true, Bool.or_false, Bool.or_true, Bool.or_self, Nat.zero_ne_one, Nat.one_ne_zero, ite_true, ite_false, ne_eq, Nat.reduceSub, Nat.succ_eq_add_one, Nat.zero_lt_succ, Nat.add_one_ne_zero, false_or, or_false, mX7_type_c, mX7_type_n, mX7_type_r, mX7_type_l, dX7_type_0, dX7_type_1, dX7_type_2, cl_7_125, dX7_type_5, cl_7_127, dX7_type_8, dX7_type_11, tg_11_5, cnd1_ne, dX7_type_14, ic_m1, dX7_type_15, dX7_type_16, dX7_type_17, fl_7_129_7, dX7_type_20, bc_50, dX7_type_22, tg_22_6, cnd2_ne, dX7_type_25, bc_m3, dX7_type_27, dX7_type_28, dX7_type_29, fl_7_45_7, dX7_type_32, dX7_type_33, dX7_type_36, dX7_type_37, dX7_type_38, dX7_type_39, dX7_type_40, dX7_type_43, ic_1, dX7_type_44, dX7_type_45, dX7_type_48, dX7_type_49, dX7_type_52, jX7_type_1_63, st_aload_n, st_bipush, st_dup, st_getfield, st_i2l, st_iadd, st_iastore, st_iconst, st_ifCond, st_if_icmp, st_iload_n, st_invokestatic, st_ireturn, st_ldc2_w, st_putfield]
  refine ⟨fun c => ⟨fun d => ?_, fun d => ?_⟩, fun c => ?_⟩
  · have hl : ψ.2.2.2.2.2.1.2 < 50 := by omega
    rw [if_pos c, if_pos hl] at h
    have hM2 := (hM.putA (k := 15) rfl (upd (ar 15) ψ.2.2.2.2.2.1.2 x)).putO (upd sc 14 (nI (ψ.2.2.2.2.2.1.2 + 1)))
    have hk := h _ _ (hR.upT (t := (upd ψ.2.2.2.2.2.1.1 ψ.2.2.2.2.2.1.2 x, ψ.2.2.2.2.2.1.2 + 1)) ⟨rfl, hl, fun k hk => by
      show upd (ar 15) _ x k = upd _ _ x k ∧ inr (upd _ _ x k) 32 126 = true
      by_cases e : k = ψ.2.2.2.2.2.1.2
      · subst e; rw [pk_us, pk_us]; exact ⟨rfl, c⟩
      · rw [pk_un e, pk_un e]; exact t3 k (by simp only at hk; omega)⟩) ((hM.frA (k := 15) rfl).tr (hM.putA (k := 15) rfl _).frO) hM2
    simp only [ME, hput, iA, lenM] at hk
    refine yvc1_ok (uX7_type Γ) (S := [28]) 60 ?_
    simp only [yvc1, m1, e1, m15, e15, n1, in50 (Nat.le_refl 50) hl, cl50 (show ψ.2.2.2.2.2.1.2 < 100 by omega), nI_1, yvc_s, s1i, s2i, s1l, s2l, sil, s1r, sir, siir, slir, srir, svr, sd1, sd2, lg, lput, ldel, isL_i, isL_r, isL_l, jmp, obj, obj1, fI, fR, arI, arL, arR, hput, f4_0, f4_1, f4_2, f4_3, lc_0, lc_1, rok_i, rok_b, rok_y, strF, fput_1, fput_2, csum_nil, csum_i, csum_l, csum_r, va_up_self, bx_uu, Int.reduceAdd, List.elem_nil, List.elem_cons, List.take_succ_cons, List.take_zero, List.drop_succ_cons, List.drop_zero, List.take_nil, List.drop_nil, List.reverse_cons, List.reverse_nil, List.nil_append, List.cons_append, List.append_nil, Option.toList_some, Option.toList_none, List.getElem?_cons_zero, List.getElem?_cons_succ, List.set_cons_zero, List.set_cons_succ, List.length_cons, List.length_nil, reduceIte, reduceCtorEq, and_true, true_and, and_self, or_true, true_or, false_and, and_false, not_true_eq_false, not_false_eq_true, true_implies, false_implies, implies_true, Nat.reduceAdd, Nat.reduceLT, Nat.reduceEqDiff, Nat.reduceLeDiff, Nat.reduceBEq, Nat.zero_add, Nat.lt_add_one, Bool.false_eq_true, Bool.or_false, Bool.or_true, Bool.or_self, Nat.zero_ne_one, Nat.one_ne_zero, ite_true, ite_false, ne_eq, Nat.reduceSub, Nat.succ_eq_add_one, Nat.zero_lt_succ, Nat.add_one_ne_zero, false_or, or_false, mX7_type_c, mX7_type_n, mX7_type_r, mX7_type_l, dX7_type_0, dX7_type_1, dX7_type_2, cl_7_125, dX7_type_5, cl_7_127, dX7_type_8, dX7_type_11, tg_11_5, cnd1_ne, dX7_type_14, ic_m1, dX7_type_15, dX7_type_16, dX7_type_17, fl_7_129_7, dX7_type_20, bc_50, dX7_type_22, tg_22_6, cnd2_ne, dX7_type_25, bc_m3, dX7_type_27, dX7_type_28, dX7_type_29, fl_7_45_7, dX7_type_32, dX7_type_33, dX7_type_36, dX7_type_37, dX7_type_38, dX7_type_39, dX7_type_40, dX7_type_43, ic_1, dX7_type_44, dX7_type_45, dX7_type_48, dX7_type_49, dX7_type_52, jX7_type_1_63, st_aload_n, st_bipush, st_dup, st_getfield, st_i2l, st_iadd, st_iastore, st_iconst, st_ifCond, st_if_icmp, st_iload_n, st_invokestatic, st_ireturn, st_ldc2_w, st_putfield]
    exact hk
  · have d := Classical.not_not.mp d
    rw [if_pos c, if_neg (by omega)] at h
    exact h _ _ hR frm.rf hM
  · rw [if_neg c] at h
    exact h _ _ hR frm.rf hM
