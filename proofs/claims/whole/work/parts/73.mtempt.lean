/-! ===== YawnKeysModel: tempt, strict, yawn ===== -/
def fgB (d : Int32) : Nat → CS → Bool
  | 0, _ => false
  | m + 1, s => gbit (dayC s).2.2.2.2.2.2.2.2 d || fgB d m (dayC s)
theorem fgC_B {d : Int32} : ∀ (m i : Nat) (s : CS), i + m < 2 ^ 31 → ((fgC d m i s).1 = -4 ↔ fgB d m s = false)
  | 0, i, s, _ => by rw [fgC, fgB]; simp
  | m + 1, i, s, h => by
    rw [fgC, fgB]
    generalize dayC s = s'
    by_cases c : gbit s'.2.2.2.2.2.2.2.2 d = true
    · rw [if_pos c, c]
      simp only [Bool.true_or, Bool.true_eq_false, iff_false]
      exact nI_m4 (by omega)
    · rw [if_neg c, fgC_B m (i + 1) s' (by omega)]
      rw [Bool.not_eq_true] at c
      rw [c, Bool.false_or]
theorem lt21 {j : Nat} (h : j < 21) : ¬ (21 : Int32) ≤ nI j := nI_ge h (by decide)
theorem ge21 : (21 : Int32) ≤ nI 21 := by decide
theorem bI_tt : (1 : Int32) = bI true := rfl
theorem bI_ff : (0 : Int32) = bI false := rfl
def sp_X7_tempt (Γ : Cx) : YSp := fun av σ K => ∃ (x : Int32) (y : Int32), mo Γ [.int x, .int y] (x_tempt x y) av σ K
theorem rv_X7_tempt {Γ : Cx} : Recv (sp_X7_tempt Γ) 2 7 := by
  intro av σ K h
  obtain ⟨x, y, h⟩ := h
  obtain ⟨q, fs, h1, h2, h3⟩ := rv_mo h
  exact ⟨q, _, fs, h1, rfl, h2, h3⟩
theorem tg_26_95 : tgo 26 95 = some 121 := by decide
theorem tg_40_81 : tgo 40 81 = some 121 := by decide
theorem tg_71_37 : tgo 71 37 = some 108 := by decide
theorem tg_80_15 : tgo 80 15 = some 95 := by decide
theorem tg_92_7 : tgo 92 7 = some 99 := by decide
theorem tg_96_4 : tgo 96 4 = some 100 := by decide
theorem tg_105_m37 : tgo 105 (-37) = some 68 := by decide
theorem tg_110_5 : tgo 110 5 = some 115 := by decide
theorem tg_118_m95 : tgo 118 (-95) = some 23 := by decide
def mX7_tempt : Mt := (⟨3, 0, 0, 69⟩, RX7, cX7_tempt, 6, some .int, (0, 0), none)
theorem mX7_tempt_c : mX7_tempt.2.2.1 = cX7_tempt := rfl
theorem mX7_tempt_n : mX7_tempt.2.2.2.1 = 6 := rfl
theorem mX7_tempt_r : mX7_tempt.2.2.2.2.1 = some .int := rfl
theorem mX7_tempt_l : mX7_tempt.2.2.2.2.2.2 = none := rfl
def jX7_tempt (Γ : Cx) : List ((Nat × Nat) × Nat × Bool × YSp) := [((1, 111), 1, true, sp_X7_isDoor Γ), ((1, 63), 3, true, sp_X7_lies Γ), ((0, 122), 1, false, sp_X7_aside Γ), ((0, 89), 4, false, sp_X7_talkTo Γ), ((0, 97), 1, false, sp_X7_goDay Γ)]
theorem jX7_tempt_1_111 (Γ : Cx) : kT (jX7_tempt Γ) 1 111 = some (1, true, sp_X7_isDoor Γ) := rfl
theorem jX7_tempt_1_63 (Γ : Cx) : kT (jX7_tempt Γ) 1 63 = some (3, true, sp_X7_lies Γ) := rfl
theorem jX7_tempt_0_122 (Γ : Cx) : kT (jX7_tempt Γ) 0 122 = some (1, false, sp_X7_aside Γ) := rfl
theorem jX7_tempt_0_89 (Γ : Cx) : kT (jX7_tempt Γ) 0 89 = some (4, false, sp_X7_talkTo Γ) := rfl
theorem jX7_tempt_0_97 (Γ : Cx) : kT (jX7_tempt Γ) 0 97 = some (1, false, sp_X7_goDay Γ) := rfl
theorem uX7_tempt (Γ : Cx) : TbOK Γ mX7_tempt (fT fX7, cT kX7, kT (jX7_tempt Γ)) := tb_ok fX7_ok kX7_ok (all_cons ⟨call_S (n := 1) (ok_X7_isDoor Γ) (rv_X7_isDoor (Γ := Γ)) bw_813 bw_811 bw_812 bw_49 no_X7_isDoor ⟨⟨rfl, rfl⟩, ⟨by decide, by decide⟩, ⟨by decide, by decide⟩⟩, fun _ => mono_X7_isDoor (Γ := Γ)⟩ (all_cons ⟨call_S (n := 3) (ok_X7_lies Γ) (rv_X7_lies (Γ := Γ)) bw_797 bw_795 bw_796 bw_49 no_X7_lies ⟨⟨rfl, rfl⟩, ⟨by decide, by decide⟩, ⟨by decide, by decide⟩⟩, fun _ => mono_X7_lies (Γ := Γ)⟩ (all_cons ⟨call_V (n := 0) (T := TX7) (N := 26) (ok_X7_aside Γ) (rv_X7_aside (Γ := Γ)) rfl bw_835 bw_832 bw_834 bw_17 bw_49 no_X7_aside ⟨⟨rfl, rfl⟩, ⟨by decide, by decide⟩, ⟨by decide, by decide⟩⟩, fun z => by cases z⟩ (all_cons ⟨call_V (n := 3) (T := TX7) (N := 26) (ok_X7_talkTo Γ) (rv_X7_talkTo (Γ := Γ)) rfl bw_920 bw_917 bw_919 bw_31 bw_49 no_X7_talkTo ⟨⟨rfl, rfl⟩, ⟨by decide, by decide⟩, ⟨by decide, by decide⟩⟩, fun z => by cases z⟩ (all_cons ⟨call_V (n := 0) (T := TX7) (N := 26) (ok_X7_goDay Γ) (rv_X7_goDay (Γ := Γ)) rfl bw_916 bw_913 bw_915 bw_30 bw_49 no_X7_goDay ⟨⟨rfl, rfl⟩, ⟨by decide, by decide⟩, ⟨by decide, by decide⟩⟩, fun z => by cases z⟩ (all_nil))))))
set_option maxRecDepth 20000 in
theorem ok_X7_tempt (Γ : Cx) : Ok Γ yX7_tempt mX7_tempt (sp_X7_tempt Γ) := by
  refine ok_intro (by decide +kernel) rfl rfl ?_
  intro av σ K h
  obtain ⟨x, y, h⟩ := h
  obtain ⟨lab, ⟨a, ad⟩, ⟨sc, ar, it⟩, ψ, ψ', r, rfl, hM, hR, hrel, h⟩ := h
  try simp only at h
  obtain ⟨⟨m1, -⟩, e1, -⟩ := id hM
  obtain ⟨⟨p1, p2, p3, p4, pI, p5, p6, p7⟩, hImg, h16, hT, hSh⟩ := id hR
  have hP := pI.P5
  simp only at p1 p2 p3 p4 p5 p6 p7 hImg h16 hT hSh
  simp only [ME] at m1 e1
  obtain ⟨hψ, hrel⟩ := hrel
  rw [hψ] at h
  have no : ¬ (inr x 0 3 = true ∧ inr y 1 30 = true) → K (some (.int (-1))) σ := fun z => by
    obtain ⟨-, hr⟩ := hrel.resolve_right (fun w => z w.1)
    rw [hr] at h
    exact h _ _ hR frm.rf hM
  refine ⟨Nat.le_of_ble_eq_true rfl, yvc_ok (uX7_tempt Γ) (S := [23]) 60 _ _ _ _ ?_⟩
  simp only [lv_args, Value.category, sp_X7_isDoor, sp_X6_isDoor, sp_X7_lies, inL_130, bI_eq0, Bool.not_eq_false, yvc_s, s1i, s2i, s1l, s2l, sil, s1r, sir, siir, slir, srir, svr, sd1, sd2, lg, lput, ldel, isL_i, isL_r, isL_l, jmp, obj, obj1, fI, fR, arI, arL, arR, hput, f4_0, f4_1, f4_2, f4_3, lc_0, lc_1, rok_i, rok_b, rok_y, strF, fput_1, fput_2, csum_nil, csum_i, csum_l, csum_r, va_up_self, bx_uu, Int.reduceAdd, List.elem_nil, List.elem_cons, List.take_succ_cons, List.take_zero, List.drop_succ_cons, List.drop_zero, List.take_nil, List.drop_nil, List.reverse_cons, List.reverse_nil, List.nil_append, List.cons_append, List.append_nil, Option.toList_some, Option.toList_none, List.getElem?_cons_zero, List.getElem?_cons_succ, List.set_cons_zero, List.set_cons_succ, List.length_cons, List.length_nil, reduceIte, reduceCtorEq, and_true, true_and, and_self, or_true, true_or, false_and, and_false, not_true_eq_false, not_false_eq_true, true_implies, false_implies, implies_true, Nat.reduceAdd, Nat.reduceLT, Nat.reduceEqDiff, Nat.reduceLeDiff, Nat.reduceBEq, Nat.zero_add, Nat.lt_add_one, Bool.false_eq_true, Bool.or_false, Bool.or_true, Bool.or_self, Nat.zero_ne_one, Nat.one_ne_zero, ite_true, ite_false, ne_eq, Nat.reduceSub, Nat.succ_eq_add_one, Nat.zero_lt_succ, Nat.add_one_ne_zero, false_or, or_false, mX7_tempt_c, mX7_tempt_n, mX7_tempt_r, mX7_tempt_l, dX7_tempt_0, dX7_tempt_1, dX7_tempt_4, tg_4_15, cnd1_eq, dX7_tempt_7, dX7_tempt_8, dX7_tempt_9, dX7_tempt_10, cl_7_201, dX7_tempt_13, dX7_tempt_16, tg_16_5, cnd1_ne, dX7_tempt_19, ic_m1, dX7_tempt_20, dX7_tempt_21, ic_0, dX7_tempt_22, dX7_tempt_23, dX7_tempt_24, bc_21, dX7_tempt_26, tg_26_95, cnd2_ge, dX7_tempt_29, dX7_tempt_30, fl_7_17_7, dX7_tempt_33, bc_20, dX7_tempt_35, dX7_tempt_36, dX7_tempt_37, dX7_tempt_38, bc_m4, dX7_tempt_40, tg_40_81, cnd2_eq, dX7_tempt_43, dX7_tempt_44, dX7_tempt_47, dX7_tempt_48, dX7_tempt_49, dX7_tempt_52, dX7_tempt_54, dX7_tempt_55, dX7_tempt_56, dX7_tempt_57, dX7_tempt_58, dX7_tempt_59, dX7_tempt_62, dX7_tempt_63, dX7_tempt_65, dX7_tempt_66, dX7_tempt_68, dX7_tempt_70, dX7_tempt_71, tg_71_37, dX7_tempt_74, dX7_tempt_75, dX7_tempt_78, dX7_tempt_80, tg_80_15, dX7_tempt_83, dX7_tempt_84, fl_7_79_7, dX7_tempt_87, dX7_tempt_88, dX7_tempt_89, ic_1, dX7_tempt_90, dX7_tempt_91, dX7_tempt_92, tg_92_7, cnd2_ne, dX7_tempt_95, dX7_tempt_96, tg_96_4, dX7_tempt_99, dX7_tempt_100, dX7_tempt_102, dX7_tempt_105, tg_105_m37, dX7_tempt_108, dX7_tempt_110, tg_110_5, dX7_tempt_113, dX7_tempt_114, dX7_tempt_115, dX7_tempt_118, tg_118_m95, dX7_tempt_121, dX7_tempt_123, jX7_tempt_1_111, jX7_tempt_1_63, jX7_tempt_0_122, jX7_tempt_0_89, jX7_tempt_0_97, st_aload_n, st_bipush, st_getfield, st_goto, st_i2l, st_iadd, st_iaload, st_iand, st_iconst, st_ifCond, st_if_icmp, st_iinc, st_iload, st_iload_n, st_invokestatic, st_invokevirtual, st_ireturn, st_ishr, st_istore, st_istore_n, st_lconst, st_ldc2_w]
  refine ⟨fun c => no (fun z => by rw [z.1] at c; cases c), fun c => ⟨fun d => ?_, fun d => no (fun z => d z.2)⟩⟩
  obtain ⟨-, hrel⟩ := hrel.resolve_left (fun w => w.1 ⟨c, d⟩)
  obtain ⟨q, hq, rfl⟩ := door_n c
  obtain ⟨N, hN0, hN, rfl⟩ := in1_n (B := 30) (by decide) d
  obtain ⟨j1, j2⟩ := ix20 hq
  have q2 : (nI q).toNatClampNeg = q := nI_clamp (by omega)
  rw [q2, nI_clamp (show N < 2 ^ 31 by omega)] at hrel
  rcases hrel with ⟨k4, hr⟩ | ⟨k4, hT⟩
  · rw [hr] at h
    have hk := h _ _ hR frm.rf hM
    have hkp : ar 3 (20 + q) = -4 := (p6.2.1 q hq).trans k4
    obtain ⟨m3, e3⟩ := hM.arr 3 rfl
    simp only [iA, lenM] at m3 e3
    refine yvc1_ok (uX7_tempt Γ) (S := [23]) 60 ?_
    have c1 : ¬ (21 : Int32) ≤ 0 := by decide
    simp only [yvc1, c1, m1, e1, m3, e3, j1, j2, hkp, yvc_s, s1i, s2i, s1l, s2l, sil, s1r, sir, siir, slir, srir, svr, sd1, sd2, lg, lput, ldel, isL_i, isL_r, isL_l, jmp, obj, obj1, fI, fR, arI, arL, arR, hput, f4_0, f4_1, f4_2, f4_3, lc_0, lc_1, rok_i, rok_b, rok_y, strF, fput_1, fput_2, csum_nil, csum_i, csum_l, csum_r, va_up_self, bx_uu, Int.reduceAdd, List.elem_nil, List.elem_cons, List.take_succ_cons, List.take_zero, List.drop_succ_cons, List.drop_zero, List.take_nil, List.drop_nil, List.reverse_cons, List.reverse_nil, List.nil_append, List.cons_append, List.append_nil, Option.toList_some, Option.toList_none, List.getElem?_cons_zero, List.getElem?_cons_succ, List.set_cons_zero, List.set_cons_succ, List.length_cons, List.length_nil, reduceIte, reduceCtorEq, and_true, true_and, and_self, or_true, true_or, false_and, and_false, not_true_eq_false, not_false_eq_true, true_implies, false_implies, implies_true, Nat.reduceAdd, Nat.reduceLT, Nat.reduceEqDiff, Nat.reduceLeDiff, Nat.reduceBEq, Nat.zero_add, Nat.lt_add_one, Bool.false_eq_true, Bool.or_false, Bool.or_true, Bool.or_self, Nat.zero_ne_one, Nat.one_ne_zero, ite_true, ite_false, ne_eq, Nat.reduceSub, Nat.succ_eq_add_one, Nat.zero_lt_succ, Nat.add_one_ne_zero, false_or, or_false, mX7_tempt_c, mX7_tempt_n, mX7_tempt_r, mX7_tempt_l, dX7_tempt_0, dX7_tempt_1, dX7_tempt_4, tg_4_15, cnd1_eq, dX7_tempt_7, dX7_tempt_8, dX7_tempt_9, dX7_tempt_10, cl_7_201, dX7_tempt_13, dX7_tempt_16, tg_16_5, cnd1_ne, dX7_tempt_19, ic_m1, dX7_tempt_20, dX7_tempt_21, ic_0, dX7_tempt_22, dX7_tempt_23, dX7_tempt_24, bc_21, dX7_tempt_26, tg_26_95, cnd2_ge, dX7_tempt_29, dX7_tempt_30, fl_7_17_7, dX7_tempt_33, bc_20, dX7_tempt_35, dX7_tempt_36, dX7_tempt_37, dX7_tempt_38, bc_m4, dX7_tempt_40, tg_40_81, cnd2_eq, dX7_tempt_43, dX7_tempt_44, dX7_tempt_47, dX7_tempt_48, dX7_tempt_49, dX7_tempt_52, dX7_tempt_54, dX7_tempt_55, dX7_tempt_56, dX7_tempt_57, dX7_tempt_58, dX7_tempt_59, dX7_tempt_62, dX7_tempt_63, dX7_tempt_65, dX7_tempt_66, dX7_tempt_68, dX7_tempt_70, dX7_tempt_71, tg_71_37, dX7_tempt_74, dX7_tempt_75, dX7_tempt_78, dX7_tempt_80, tg_80_15, dX7_tempt_83, dX7_tempt_84, fl_7_79_7, dX7_tempt_87, dX7_tempt_88, dX7_tempt_89, ic_1, dX7_tempt_90, dX7_tempt_91, dX7_tempt_92, tg_92_7, cnd2_ne, dX7_tempt_95, dX7_tempt_96, tg_96_4, dX7_tempt_99, dX7_tempt_100, dX7_tempt_102, dX7_tempt_105, tg_105_m37, dX7_tempt_108, dX7_tempt_110, tg_110_5, dX7_tempt_113, dX7_tempt_114, dX7_tempt_115, dX7_tempt_118, tg_118_m95, dX7_tempt_121, dX7_tempt_123, jX7_tempt_1_111, jX7_tempt_1_63, jX7_tempt_0_122, jX7_tempt_0_89, jX7_tempt_0_97, st_aload_n, st_bipush, st_getfield, st_goto, st_i2l, st_iadd, st_iaload, st_iand, st_iconst, st_ifCond, st_if_icmp, st_iinc, st_iload, st_iload_n, st_invokestatic, st_invokevirtual, st_ireturn, st_ishr, st_istore, st_istore_n, st_lconst, st_ldc2_w]
    exact hk
  · obtain ⟨p, hp, hk⟩ := (pI.wf.2 q hq).resolve_left k4
    have outer : ∀ m j : Nat, j + m = 21 → TmR ψ (nI q) N m j r → ∀ (s1 : MS) (σ1 : Hp), frm (fL lab 30) σ σ1 → Mod Γ lab (a, ad) s1 σ1 → R ψ s1 → YG Γ mX7_tempt K 23 [(0, .ref a), (1, .int (nI q)), (2, .int (nI N)), (3, .int (nI j))] [] σ1 := by
      intro m
      induction m with
      | zero =>
        intro j hj hT s1 σ1 hf1 hM1 hR1
        obtain rfl : j = 21 := by omega
        have hk := h σ1 s1 hR1 hf1 hM1
        rw [show r = -4 from hT] at hk
        refine yvc1_ok (uX7_tempt Γ) (S := [23]) 40 ?_
        simp only [yvc1, ge21, yvc_s, s1i, s2i, s1l, s2l, sil, s1r, sir, siir, slir, srir, svr, sd1, sd2, lg, lput, ldel, isL_i, isL_r, isL_l, jmp, obj, obj1, fI, fR, arI, arL, arR, hput, f4_0, f4_1, f4_2, f4_3, lc_0, lc_1, rok_i, rok_b, rok_y, strF, fput_1, fput_2, csum_nil, csum_i, csum_l, csum_r, va_up_self, bx_uu, Int.reduceAdd, List.elem_nil, List.elem_cons, List.take_succ_cons, List.take_zero, List.drop_succ_cons, List.drop_zero, List.take_nil, List.drop_nil, List.reverse_cons, List.reverse_nil, List.nil_append, List.cons_append, List.append_nil, Option.toList_some, Option.toList_none, List.getElem?_cons_zero, List.getElem?_cons_succ, List.set_cons_zero, List.set_cons_succ, List.length_cons, List.length_nil, reduceIte, reduceCtorEq, and_true, true_and, and_self, or_true, true_or, false_and, and_false, not_true_eq_false, not_false_eq_true, true_implies, false_implies, implies_true, Nat.reduceAdd, Nat.reduceLT, Nat.reduceEqDiff, Nat.reduceLeDiff, Nat.reduceBEq, Nat.zero_add, Nat.lt_add_one, Bool.false_eq_true, Bool.or_false, Bool.or_true, Bool.or_self, Nat.zero_ne_one, Nat.one_ne_zero, ite_true, ite_false, ne_eq, Nat.reduceSub, Nat.succ_eq_add_one, Nat.zero_lt_succ, Nat.add_one_ne_zero, false_or, or_false, mX7_tempt_c, mX7_tempt_n, mX7_tempt_r, mX7_tempt_l, dX7_tempt_0, dX7_tempt_1, dX7_tempt_4, tg_4_15, cnd1_eq, dX7_tempt_7, dX7_tempt_8, dX7_tempt_9, dX7_tempt_10, cl_7_201, dX7_tempt_13, dX7_tempt_16, tg_16_5, cnd1_ne, dX7_tempt_19, ic_m1, dX7_tempt_20, dX7_tempt_21, ic_0, dX7_tempt_22, dX7_tempt_23, dX7_tempt_24, bc_21, dX7_tempt_26, tg_26_95, cnd2_ge, dX7_tempt_29, dX7_tempt_30, fl_7_17_7, dX7_tempt_33, bc_20, dX7_tempt_35, dX7_tempt_36, dX7_tempt_37, dX7_tempt_38, bc_m4, dX7_tempt_40, tg_40_81, cnd2_eq, dX7_tempt_43, dX7_tempt_44, dX7_tempt_47, dX7_tempt_48, dX7_tempt_49, dX7_tempt_52, dX7_tempt_54, dX7_tempt_55, dX7_tempt_56, dX7_tempt_57, dX7_tempt_58, dX7_tempt_59, dX7_tempt_62, dX7_tempt_63, dX7_tempt_65, dX7_tempt_66, dX7_tempt_68, dX7_tempt_70, dX7_tempt_71, tg_71_37, dX7_tempt_74, dX7_tempt_75, dX7_tempt_78, dX7_tempt_80, tg_80_15, dX7_tempt_83, dX7_tempt_84, fl_7_79_7, dX7_tempt_87, dX7_tempt_88, dX7_tempt_89, ic_1, dX7_tempt_90, dX7_tempt_91, dX7_tempt_92, tg_92_7, cnd2_ne, dX7_tempt_95, dX7_tempt_96, tg_96_4, dX7_tempt_99, dX7_tempt_100, dX7_tempt_102, dX7_tempt_105, tg_105_m37, dX7_tempt_108, dX7_tempt_110, tg_110_5, dX7_tempt_113, dX7_tempt_114, dX7_tempt_115, dX7_tempt_118, tg_118_m95, dX7_tempt_121, dX7_tempt_123, jX7_tempt_1_111, jX7_tempt_1_63, jX7_tempt_0_122, jX7_tempt_0_89, jX7_tempt_0_97, st_aload_n, st_bipush, st_getfield, st_goto, st_i2l, st_iadd, st_iaload, st_iand, st_iconst, st_ifCond, st_if_icmp, st_iinc, st_iload, st_iload_n, st_invokestatic, st_invokevirtual, st_ireturn, st_ishr, st_istore, st_istore_n, st_lconst, st_ldc2_w]
        exact hk
      | succ m ih =>
        intro j hj hT s1 σ1 hf1 hM1 hR1
        obtain ⟨t, hT⟩ := hT
        have c1 := lt21 (show j < 21 by omega)
        have hkp : s1.2.1 3 (20 + q) = nI p := (hR1.1.2.2.2.2.2.2.1.2.1 q hq).trans hk
        have hL := like_bec (t := t) hP
        have hS2 : SD (asd s1) (bec t ψ.1) := hR1.sd hL
        obtain ⟨D, hD, hJ⟩ := hL.ci pI
        have hJ3 : CJ D (tmS t ψ (nI q) j) := by
          unfold tmS
          rw [q2, hk]
          exact ⟨hJ.1, hJ.2.1.more hp hP hq ⟨j, by omega, rfl⟩, hJ.2.2⟩
        have hB := fgC_B (d := nI q) N 1 (tmS t ψ (nI q) j) (by omega)
        -- the days of one try
        have inner : ∀ (n k : Nat) (b : Bool) (s : CS) (s2 : MS) (σ2 : Hp), k + n = N → (∃ E, E ≤ 9999 + k ∧ CJ E s) → frm (fL lab 30) σ σ2 → Mod Γ lab (a, ad) s2 σ2 → R ψ s2 → SD s2 s → (b || fgB (nI q) n s) = fgB (nI q) N (tmS t ψ (nI q) j) → YG Γ mX7_tempt K 68 [(0, .ref a), (1, .int (nI q)), (2, .int (nI N)), (3, .int (nI j)), (4, .int (bI b)), (5, .int (nI k))] [] σ2 := by
          intro n
          induction n with
          | zero =>
            intro k b s s2 σ2 hkn hE hf2 hM2 hR2 hS2 hb
            obtain rfl : k = N := by omega
            rw [fgB, Bool.or_false] at hb
            have hk := h σ2 s2 hR2 hf2 hM2
            have hy := ih (j + 1) (by omega)
            refine yvc1_ok (uX7_tempt Γ) (S := [68, 23]) 40 ?_
            simp only [yvc1, geP, bI_eq0, Bool.not_eq_false, nI_1, yvc_s, s1i, s2i, s1l, s2l, sil, s1r, sir, siir, slir, srir, svr, sd1, sd2, lg, lput, ldel, isL_i, isL_r, isL_l, jmp, obj, obj1, fI, fR, arI, arL, arR, hput, f4_0, f4_1, f4_2, f4_3, lc_0, lc_1, rok_i, rok_b, rok_y, strF, fput_1, fput_2, csum_nil, csum_i, csum_l, csum_r, va_up_self, bx_uu, Int.reduceAdd, List.elem_nil, List.elem_cons, List.take_succ_cons, List.take_zero, List.drop_succ_cons, List.drop_zero, List.take_nil, List.drop_nil, List.reverse_cons, List.reverse_nil, List.nil_append, List.cons_append, List.append_nil, Option.toList_some, Option.toList_none, List.getElem?_cons_zero, List.getElem?_cons_succ, List.set_cons_zero, List.set_cons_succ, List.length_cons, List.length_nil, reduceIte, reduceCtorEq, and_true, true_and, and_self, or_true, true_or, false_and, and_false, not_true_eq_false, not_false_eq_true, true_implies, false_implies, implies_true, Nat.reduceAdd, Nat.reduceLT, Nat.reduceEqDiff, Nat.reduceLeDiff, Nat.reduceBEq, Nat.zero_add, Nat.lt_add_one, Bool.false_eq_true, Bool.or_false, Bool.or_true, Bool.or_self, Nat.zero_ne_one, Nat.one_ne_zero, ite_true, ite_false, ne_eq, Nat.reduceSub, Nat.succ_eq_add_one, Nat.zero_lt_succ, Nat.add_one_ne_zero, false_or, or_false, mX7_tempt_c, mX7_tempt_n, mX7_tempt_r, mX7_tempt_l, dX7_tempt_0, dX7_tempt_1, dX7_tempt_4, tg_4_15, cnd1_eq, dX7_tempt_7, dX7_tempt_8, dX7_tempt_9, dX7_tempt_10, cl_7_201, dX7_tempt_13, dX7_tempt_16, tg_16_5, cnd1_ne, dX7_tempt_19, ic_m1, dX7_tempt_20, dX7_tempt_21, ic_0, dX7_tempt_22, dX7_tempt_23, dX7_tempt_24, bc_21, dX7_tempt_26, tg_26_95, cnd2_ge, dX7_tempt_29, dX7_tempt_30, fl_7_17_7, dX7_tempt_33, bc_20, dX7_tempt_35, dX7_tempt_36, dX7_tempt_37, dX7_tempt_38, bc_m4, dX7_tempt_40, tg_40_81, cnd2_eq, dX7_tempt_43, dX7_tempt_44, dX7_tempt_47, dX7_tempt_48, dX7_tempt_49, dX7_tempt_52, dX7_tempt_54, dX7_tempt_55, dX7_tempt_56, dX7_tempt_57, dX7_tempt_58, dX7_tempt_59, dX7_tempt_62, dX7_tempt_63, dX7_tempt_65, dX7_tempt_66, dX7_tempt_68, dX7_tempt_70, dX7_tempt_71, tg_71_37, dX7_tempt_74, dX7_tempt_75, dX7_tempt_78, dX7_tempt_80, tg_80_15, dX7_tempt_83, dX7_tempt_84, fl_7_79_7, dX7_tempt_87, dX7_tempt_88, dX7_tempt_89, ic_1, dX7_tempt_90, dX7_tempt_91, dX7_tempt_92, tg_92_7, cnd2_ne, dX7_tempt_95, dX7_tempt_96, tg_96_4, dX7_tempt_99, dX7_tempt_100, dX7_tempt_102, dX7_tempt_105, tg_105_m37, dX7_tempt_108, dX7_tempt_110, tg_110_5, dX7_tempt_113, dX7_tempt_114, dX7_tempt_115, dX7_tempt_118, tg_118_m95, dX7_tempt_121, dX7_tempt_123, jX7_tempt_1_111, jX7_tempt_1_63, jX7_tempt_0_122, jX7_tempt_0_89, jX7_tempt_0_97, st_aload_n, st_bipush, st_getfield, st_goto, st_i2l, st_iadd, st_iaload, st_iand, st_iconst, st_ifCond, st_if_icmp, st_iinc, st_iload, st_iload_n, st_invokestatic, st_invokevirtual, st_ireturn, st_ishr, st_istore, st_istore_n, st_lconst, st_ldc2_w]
            refine ⟨fun z => ?_, fun z => ?_⟩
            · rw [z] at hb
              have h4 := hB.mpr hb.symm
              rcases hT with w | w
              · exact absurd h4 w.1
              · exact (hy w.2 s2 σ2 hf2 hM2 hR2).ext [(4, _), (5, _)]
            · rw [z] at hb
              rcases hT with w | w
              · rw [w.2] at hk; exact hk
              · rw [← hb] at hB
                exact absurd (hB.mp w.1) (by decide)
          | succ n ih2 =>
            intro k b s s2 σ2 hkn hE hf2 hM2 hR2 hS2 hb
            have c1 := ltN (show k < N by omega) (by omega)
            refine yvc1_ok (uX7_tempt Γ) (S := [68, 23]) 40 ?_
            simp only [yvc1, c1, yvc_s, s1i, s2i, s1l, s2l, sil, s1r, sir, siir, slir, srir, svr, sd1, sd2, lg, lput, ldel, isL_i, isL_r, isL_l, jmp, obj, obj1, fI, fR, arI, arL, arR, hput, f4_0, f4_1, f4_2, f4_3, lc_0, lc_1, rok_i, rok_b, rok_y, strF, fput_1, fput_2, csum_nil, csum_i, csum_l, csum_r, va_up_self, bx_uu, Int.reduceAdd, List.elem_nil, List.elem_cons, List.take_succ_cons, List.take_zero, List.drop_succ_cons, List.drop_zero, List.take_nil, List.drop_nil, List.reverse_cons, List.reverse_nil, List.nil_append, List.cons_append, List.append_nil, Option.toList_some, Option.toList_none, List.getElem?_cons_zero, List.getElem?_cons_succ, List.set_cons_zero, List.set_cons_succ, List.length_cons, List.length_nil, reduceIte, reduceCtorEq, and_true, true_and, and_self, or_true, true_or, false_and, and_false, not_true_eq_false, not_false_eq_true, true_implies, false_implies, implies_true, Nat.reduceAdd, Nat.reduceLT, Nat.reduceEqDiff, Nat.reduceLeDiff, Nat.reduceBEq, Nat.zero_add, Nat.lt_add_one, Bool.false_eq_true, Bool.or_false, Bool.or_true, Bool.or_self, Nat.zero_ne_one, Nat.one_ne_zero, ite_true, ite_false, ne_eq, Nat.reduceSub, Nat.succ_eq_add_one, Nat.zero_lt_succ, Nat.add_one_ne_zero, false_or, or_false, mX7_tempt_c, mX7_tempt_n, mX7_tempt_r, mX7_tempt_l, dX7_tempt_0, dX7_tempt_1, dX7_tempt_4, tg_4_15, cnd1_eq, dX7_tempt_7, dX7_tempt_8, dX7_tempt_9, dX7_tempt_10, cl_7_201, dX7_tempt_13, dX7_tempt_16, tg_16_5, cnd1_ne, dX7_tempt_19, ic_m1, dX7_tempt_20, dX7_tempt_21, ic_0, dX7_tempt_22, dX7_tempt_23, dX7_tempt_24, bc_21, dX7_tempt_26, tg_26_95, cnd2_ge, dX7_tempt_29, dX7_tempt_30, fl_7_17_7, dX7_tempt_33, bc_20, dX7_tempt_35, dX7_tempt_36, dX7_tempt_37, dX7_tempt_38, bc_m4, dX7_tempt_40, tg_40_81, cnd2_eq, dX7_tempt_43, dX7_tempt_44, dX7_tempt_47, dX7_tempt_48, dX7_tempt_49, dX7_tempt_52, dX7_tempt_54, dX7_tempt_55, dX7_tempt_56, dX7_tempt_57, dX7_tempt_58, dX7_tempt_59, dX7_tempt_62, dX7_tempt_63, dX7_tempt_65, dX7_tempt_66, dX7_tempt_68, dX7_tempt_70, dX7_tempt_71, tg_71_37, dX7_tempt_74, dX7_tempt_75, dX7_tempt_78, dX7_tempt_80, tg_80_15, dX7_tempt_83, dX7_tempt_84, fl_7_79_7, dX7_tempt_87, dX7_tempt_88, dX7_tempt_89, ic_1, dX7_tempt_90, dX7_tempt_91, dX7_tempt_92, tg_92_7, cnd2_ne, dX7_tempt_95, dX7_tempt_96, tg_96_4, dX7_tempt_99, dX7_tempt_100, dX7_tempt_102, dX7_tempt_105, tg_105_m37, dX7_tempt_108, dX7_tempt_110, tg_110_5, dX7_tempt_113, dX7_tempt_114, dX7_tempt_115, dX7_tempt_118, tg_118_m95, dX7_tempt_121, dX7_tempt_123, jX7_tempt_1_111, jX7_tempt_1_63, jX7_tempt_0_122, jX7_tempt_0_89, jX7_tempt_0_97, st_aload_n, st_bipush, st_getfield, st_goto, st_i2l, st_iadd, st_iaload, st_iand, st_iconst, st_ifCond, st_if_icmp, st_iinc, st_iload, st_iload_n, st_invokestatic, st_invokevirtual, st_ireturn, st_ishr, st_istore, st_istore_n, st_lconst, st_ldc2_w]
            obtain ⟨E, hE, hJ1⟩ := hE
            refine ⟨s, lab, (a, ad), s2, rfl, hM2, ⟨hS2, E, hJ1, by omega⟩, ?_⟩
            rintro σ3 ⟨sc3, ar3, it3⟩ r3 ⟨hF3, hS3, hg3, rfl⟩ hf3 hM3
            have hJ4 := hJ1.step
            rw [fgB] at hb
            generalize dayC s = s' at hS3 hg3 hJ4 hb
            simp only at hg3
            have hy := fun b' => ih2 (k + 1) b' s' _ σ3 (by omega) ⟨E + 1, by omega, hJ4⟩ (hf2.tr hf3) hM3 (hR2.fr hF3) hS3
            obtain ⟨⟨m1, -⟩, e1, -⟩ := id hM3
            simp only [ME] at m1 e1
            rw [hg3] at e1
            refine yvc_ok (uX7_tempt Γ) (S := [68, 23]) 60 _ _ _ _ ?_
            simp only [m1, e1, gbit_1, bI_eq0, Bool.not_eq_false, nI_1, yvc_s, s1i, s2i, s1l, s2l, sil, s1r, sir, siir, slir, srir, svr, sd1, sd2, lg, lput, ldel, isL_i, isL_r, isL_l, jmp, obj, obj1, fI, fR, arI, arL, arR, hput, f4_0, f4_1, f4_2, f4_3, lc_0, lc_1, rok_i, rok_b, rok_y, strF, fput_1, fput_2, csum_nil, csum_i, csum_l, csum_r, va_up_self, bx_uu, Int.reduceAdd, List.elem_nil, List.elem_cons, List.take_succ_cons, List.take_zero, List.drop_succ_cons, List.drop_zero, List.take_nil, List.drop_nil, List.reverse_cons, List.reverse_nil, List.nil_append, List.cons_append, List.append_nil, Option.toList_some, Option.toList_none, List.getElem?_cons_zero, List.getElem?_cons_succ, List.set_cons_zero, List.set_cons_succ, List.length_cons, List.length_nil, reduceIte, reduceCtorEq, and_true, true_and, and_self, or_true, true_or, false_and, and_false, not_true_eq_false, not_false_eq_true, true_implies, false_implies, implies_true, Nat.reduceAdd, Nat.reduceLT, Nat.reduceEqDiff, Nat.reduceLeDiff, Nat.reduceBEq, Nat.zero_add, Nat.lt_add_one, Bool.false_eq_true, Bool.or_false, Bool.or_true, Bool.or_self, Nat.zero_ne_one, Nat.one_ne_zero, ite_true, ite_false, ne_eq, Nat.reduceSub, Nat.succ_eq_add_one, Nat.zero_lt_succ, Nat.add_one_ne_zero, false_or, or_false, mX7_tempt_c, mX7_tempt_n, mX7_tempt_r, mX7_tempt_l, dX7_tempt_0, dX7_tempt_1, dX7_tempt_4, tg_4_15, cnd1_eq, dX7_tempt_7, dX7_tempt_8, dX7_tempt_9, dX7_tempt_10, cl_7_201, dX7_tempt_13, dX7_tempt_16, tg_16_5, cnd1_ne, dX7_tempt_19, ic_m1, dX7_tempt_20, dX7_tempt_21, ic_0, dX7_tempt_22, dX7_tempt_23, dX7_tempt_24, bc_21, dX7_tempt_26, tg_26_95, cnd2_ge, dX7_tempt_29, dX7_tempt_30, fl_7_17_7, dX7_tempt_33, bc_20, dX7_tempt_35, dX7_tempt_36, dX7_tempt_37, dX7_tempt_38, bc_m4, dX7_tempt_40, tg_40_81, cnd2_eq, dX7_tempt_43, dX7_tempt_44, dX7_tempt_47, dX7_tempt_48, dX7_tempt_49, dX7_tempt_52, dX7_tempt_54, dX7_tempt_55, dX7_tempt_56, dX7_tempt_57, dX7_tempt_58, dX7_tempt_59, dX7_tempt_62, dX7_tempt_63, dX7_tempt_65, dX7_tempt_66, dX7_tempt_68, dX7_tempt_70, dX7_tempt_71, tg_71_37, dX7_tempt_74, dX7_tempt_75, dX7_tempt_78, dX7_tempt_80, tg_80_15, dX7_tempt_83, dX7_tempt_84, fl_7_79_7, dX7_tempt_87, dX7_tempt_88, dX7_tempt_89, ic_1, dX7_tempt_90, dX7_tempt_91, dX7_tempt_92, tg_92_7, cnd2_ne, dX7_tempt_95, dX7_tempt_96, tg_96_4, dX7_tempt_99, dX7_tempt_100, dX7_tempt_102, dX7_tempt_105, tg_105_m37, dX7_tempt_108, dX7_tempt_110, tg_110_5, dX7_tempt_113, dX7_tempt_114, dX7_tempt_115, dX7_tempt_118, tg_118_m95, dX7_tempt_121, dX7_tempt_123, jX7_tempt_1_111, jX7_tempt_1_63, jX7_tempt_0_122, jX7_tempt_0_89, jX7_tempt_0_97, st_aload_n, st_bipush, st_getfield, st_goto, st_i2l, st_iadd, st_iaload, st_iand, st_iconst, st_ifCond, st_if_icmp, st_iinc, st_iload, st_iload_n, st_invokestatic, st_invokevirtual, st_ireturn, st_ishr, st_istore, st_istore_n, st_lconst, st_ldc2_w]
            refine ⟨fun z => ?_, fun z => ⟨fun w => ?_, fun w => ?_⟩⟩
            · refine hy true ?_
              rw [z, Bool.true_or] at hb
              rw [Bool.true_or]; exact hb
            · refine hy false ?_
              rw [Bool.not_eq_true] at w z
              rw [z, w] at hb
              exact hb
            · refine hy true ?_
              rw [Classical.not_not.mp w, Bool.true_or, Bool.or_true] at hb
              rw [Bool.true_or]; exact hb
        obtain ⟨sc1, ar1, it1⟩ := s1
        simp only at hkp
        obtain ⟨⟨m1, -⟩, e1, -⟩ := id hM1
        obtain ⟨m3, e3⟩ := hM1.arr 3 rfl
        simp only [ME, iA, lenM] at m1 e1 m3 e3
        refine yvc1_ok (uX7_tempt Γ) (S := [23]) 60 ?_
        simp only [yvc1, c1, m1, e1, m3, e3, j1, j2, hkp, nI_m4 (show p < 2 ^ 31 by omega), yvc_s, s1i, s2i, s1l, s2l, sil, s1r, sir, siir, slir, srir, svr, sd1, sd2, lg, lput, ldel, isL_i, isL_r, isL_l, jmp, obj, obj1, fI, fR, arI, arL, arR, hput, f4_0, f4_1, f4_2, f4_3, lc_0, lc_1, rok_i, rok_b, rok_y, strF, fput_1, fput_2, csum_nil, csum_i, csum_l, csum_r, va_up_self, bx_uu, Int.reduceAdd, List.elem_nil, List.elem_cons, List.take_succ_cons, List.take_zero, List.drop_succ_cons, List.drop_zero, List.take_nil, List.drop_nil, List.reverse_cons, List.reverse_nil, List.nil_append, List.cons_append, List.append_nil, Option.toList_some, Option.toList_none, List.getElem?_cons_zero, List.getElem?_cons_succ, List.set_cons_zero, List.set_cons_succ, List.length_cons, List.length_nil, reduceIte, reduceCtorEq, and_true, true_and, and_self, or_true, true_or, false_and, and_false, not_true_eq_false, not_false_eq_true, true_implies, false_implies, implies_true, Nat.reduceAdd, Nat.reduceLT, Nat.reduceEqDiff, Nat.reduceLeDiff, Nat.reduceBEq, Nat.zero_add, Nat.lt_add_one, Bool.false_eq_true, Bool.or_false, Bool.or_true, Bool.or_self, Nat.zero_ne_one, Nat.one_ne_zero, ite_true, ite_false, ne_eq, Nat.reduceSub, Nat.succ_eq_add_one, Nat.zero_lt_succ, Nat.add_one_ne_zero, false_or, or_false, mX7_tempt_c, mX7_tempt_n, mX7_tempt_r, mX7_tempt_l, dX7_tempt_0, dX7_tempt_1, dX7_tempt_4, tg_4_15, cnd1_eq, dX7_tempt_7, dX7_tempt_8, dX7_tempt_9, dX7_tempt_10, cl_7_201, dX7_tempt_13, dX7_tempt_16, tg_16_5, cnd1_ne, dX7_tempt_19, ic_m1, dX7_tempt_20, dX7_tempt_21, ic_0, dX7_tempt_22, dX7_tempt_23, dX7_tempt_24, bc_21, dX7_tempt_26, tg_26_95, cnd2_ge, dX7_tempt_29, dX7_tempt_30, fl_7_17_7, dX7_tempt_33, bc_20, dX7_tempt_35, dX7_tempt_36, dX7_tempt_37, dX7_tempt_38, bc_m4, dX7_tempt_40, tg_40_81, cnd2_eq, dX7_tempt_43, dX7_tempt_44, dX7_tempt_47, dX7_tempt_48, dX7_tempt_49, dX7_tempt_52, dX7_tempt_54, dX7_tempt_55, dX7_tempt_56, dX7_tempt_57, dX7_tempt_58, dX7_tempt_59, dX7_tempt_62, dX7_tempt_63, dX7_tempt_65, dX7_tempt_66, dX7_tempt_68, dX7_tempt_70, dX7_tempt_71, tg_71_37, dX7_tempt_74, dX7_tempt_75, dX7_tempt_78, dX7_tempt_80, tg_80_15, dX7_tempt_83, dX7_tempt_84, fl_7_79_7, dX7_tempt_87, dX7_tempt_88, dX7_tempt_89, ic_1, dX7_tempt_90, dX7_tempt_91, dX7_tempt_92, tg_92_7, cnd2_ne, dX7_tempt_95, dX7_tempt_96, tg_96_4, dX7_tempt_99, dX7_tempt_100, dX7_tempt_102, dX7_tempt_105, tg_105_m37, dX7_tempt_108, dX7_tempt_110, tg_110_5, dX7_tempt_113, dX7_tempt_114, dX7_tempt_115, dX7_tempt_118, tg_118_m95, dX7_tempt_121, dX7_tempt_123, jX7_tempt_1_111, jX7_tempt_1_63, jX7_tempt_0_122, jX7_tempt_0_89, jX7_tempt_0_97, st_aload_n, st_bipush, st_getfield, st_goto, st_i2l, st_iadd, st_iaload, st_iand, st_iconst, st_ifCond, st_if_icmp, st_iinc, st_iload, st_iload_n, st_invokestatic, st_invokevirtual, st_ireturn, st_ishr, st_istore, st_istore_n, st_lconst, st_ldc2_w]
        refine ⟨lab, (a, ad), _, rfl, hM1, trivial, ?_⟩
        rintro σ2 s2 r2 ⟨hs2, rfl⟩ hf2 hM2
        rw [← hs2] at hS2
        have hR2 := hR1.asd
        rw [← hs2] at hR2
        have hkp2 : s2.2.1 3 (20 + q) = nI p := by
          rw [hs2]
          simp only [asd, updA_ne (show (3 : Nat) ≠ 4 by decide)]
          exact hkp
        obtain ⟨sc2, ar2, it2⟩ := s2
        simp only at hkp2
        obtain ⟨⟨m1, -⟩, e1, -⟩ := id hM2
        obtain ⟨m3, e3⟩ := hM2.arr 3 rfl
        simp only [ME, iA, lenM] at m1 e1 m3 e3
        refine yvc_ok (uX7_tempt Γ) (S := [68]) 60 _ _ _ _ ?_
        simp only [m1, e1, m3, e3, j1, j2, hkp2, yvc_s, s1i, s2i, s1l, s2l, sil, s1r, sir, siir, slir, srir, svr, sd1, sd2, lg, lput, ldel, isL_i, isL_r, isL_l, jmp, obj, obj1, fI, fR, arI, arL, arR, hput, f4_0, f4_1, f4_2, f4_3, lc_0, lc_1, rok_i, rok_b, rok_y, strF, fput_1, fput_2, csum_nil, csum_i, csum_l, csum_r, va_up_self, bx_uu, Int.reduceAdd, List.elem_nil, List.elem_cons, List.take_succ_cons, List.take_zero, List.drop_succ_cons, List.drop_zero, List.take_nil, List.drop_nil, List.reverse_cons, List.reverse_nil, List.nil_append, List.cons_append, List.append_nil, Option.toList_some, Option.toList_none, List.getElem?_cons_zero, List.getElem?_cons_succ, List.set_cons_zero, List.set_cons_succ, List.length_cons, List.length_nil, reduceIte, reduceCtorEq, and_true, true_and, and_self, or_true, true_or, false_and, and_false, not_true_eq_false, not_false_eq_true, true_implies, false_implies, implies_true, Nat.reduceAdd, Nat.reduceLT, Nat.reduceEqDiff, Nat.reduceLeDiff, Nat.reduceBEq, Nat.zero_add, Nat.lt_add_one, Bool.false_eq_true, Bool.or_false, Bool.or_true, Bool.or_self, Nat.zero_ne_one, Nat.one_ne_zero, ite_true, ite_false, ne_eq, Nat.reduceSub, Nat.succ_eq_add_one, Nat.zero_lt_succ, Nat.add_one_ne_zero, false_or, or_false, mX7_tempt_c, mX7_tempt_n, mX7_tempt_r, mX7_tempt_l, dX7_tempt_0, dX7_tempt_1, dX7_tempt_4, tg_4_15, cnd1_eq, dX7_tempt_7, dX7_tempt_8, dX7_tempt_9, dX7_tempt_10, cl_7_201, dX7_tempt_13, dX7_tempt_16, tg_16_5, cnd1_ne, dX7_tempt_19, ic_m1, dX7_tempt_20, dX7_tempt_21, ic_0, dX7_tempt_22, dX7_tempt_23, dX7_tempt_24, bc_21, dX7_tempt_26, tg_26_95, cnd2_ge, dX7_tempt_29, dX7_tempt_30, fl_7_17_7, dX7_tempt_33, bc_20, dX7_tempt_35, dX7_tempt_36, dX7_tempt_37, dX7_tempt_38, bc_m4, dX7_tempt_40, tg_40_81, cnd2_eq, dX7_tempt_43, dX7_tempt_44, dX7_tempt_47, dX7_tempt_48, dX7_tempt_49, dX7_tempt_52, dX7_tempt_54, dX7_tempt_55, dX7_tempt_56, dX7_tempt_57, dX7_tempt_58, dX7_tempt_59, dX7_tempt_62, dX7_tempt_63, dX7_tempt_65, dX7_tempt_66, dX7_tempt_68, dX7_tempt_70, dX7_tempt_71, tg_71_37, dX7_tempt_74, dX7_tempt_75, dX7_tempt_78, dX7_tempt_80, tg_80_15, dX7_tempt_83, dX7_tempt_84, fl_7_79_7, dX7_tempt_87, dX7_tempt_88, dX7_tempt_89, ic_1, dX7_tempt_90, dX7_tempt_91, dX7_tempt_92, tg_92_7, cnd2_ne, dX7_tempt_95, dX7_tempt_96, tg_96_4, dX7_tempt_99, dX7_tempt_100, dX7_tempt_102, dX7_tempt_105, tg_105_m37, dX7_tempt_108, dX7_tempt_110, tg_110_5, dX7_tempt_113, dX7_tempt_114, dX7_tempt_115, dX7_tempt_118, tg_118_m95, dX7_tempt_121, dX7_tempt_123, jX7_tempt_1_111, jX7_tempt_1_63, jX7_tempt_0_122, jX7_tempt_0_89, jX7_tempt_0_97, st_aload_n, st_bipush, st_getfield, st_goto, st_i2l, st_iadd, st_iaload, st_iand, st_iconst, st_ifCond, st_if_icmp, st_iinc, st_iload, st_iload_n, st_invokestatic, st_invokevirtual, st_ireturn, st_ishr, st_istore, st_istore_n, st_lconst, st_ldc2_w]
        refine ⟨p, q, nI j, lab, (a, ad), _, rfl, hM2, ⟨by omega, hq⟩, ?_⟩
        rintro σ3 s3 r3 ⟨hs3, rfl⟩ hf3 hM3
        have hF3 : SFr (sc2, ar2, it2) s3 := by rw [hs3]; exact SFr.side
        have hS3 : SD s3 (tmS t ψ (nI q) j) := hS2.fr hF3 rfl rfl rfl (by
          have hrw := hS2.2.w hP (show 4 * p + q < 4 * ψ.1.2.2.2.2.2.2.1 by omega) (cap20 ((bec t ψ.1).1 (4 * p + q) + nI j))
          have hv : ar2 4 (4 * p + q) = (bec t ψ.1).1 (4 * p + q) := hS2.2.1 _ (by show 4 * p + q < 4 * ψ.1.2.2.2.2.2.2.1; omega)
          rw [hs3]
          unfold tmS tlk wmore
          rw [q2, hk, ix_n (show p < 5 by omega) hq]
          simp only [updA_at]
          rw [hv]
          exact hrw)
        have hl := inner N 0 false _ s3 σ3 (by omega) ⟨D, by omega, hJ3⟩ ((hf1.tr hf2).tr hf3) hM3 (hR2.fr hF3) hS3 (by rw [Bool.false_or])
        refine yvc_ok (uX7_tempt Γ) (S := [68]) 60 _ _ _ _ ?_
        simp only [yvc_s, s1i, s2i, s1l, s2l, sil, s1r, sir, siir, slir, srir, svr, sd1, sd2, lg, lput, ldel, isL_i, isL_r, isL_l, jmp, obj, obj1, fI, fR, arI, arL, arR, hput, f4_0, f4_1, f4_2, f4_3, lc_0, lc_1, rok_i, rok_b, rok_y, strF, fput_1, fput_2, csum_nil, csum_i, csum_l, csum_r, va_up_self, bx_uu, Int.reduceAdd, List.elem_nil, List.elem_cons, List.take_succ_cons, List.take_zero, List.drop_succ_cons, List.drop_zero, List.take_nil, List.drop_nil, List.reverse_cons, List.reverse_nil, List.nil_append, List.cons_append, List.append_nil, Option.toList_some, Option.toList_none, List.getElem?_cons_zero, List.getElem?_cons_succ, List.set_cons_zero, List.set_cons_succ, List.length_cons, List.length_nil, reduceIte, reduceCtorEq, and_true, true_and, and_self, or_true, true_or, false_and, and_false, not_true_eq_false, not_false_eq_true, true_implies, false_implies, implies_true, Nat.reduceAdd, Nat.reduceLT, Nat.reduceEqDiff, Nat.reduceLeDiff, Nat.reduceBEq, Nat.zero_add, Nat.lt_add_one, Bool.false_eq_true, Bool.or_false, Bool.or_true, Bool.or_self, Nat.zero_ne_one, Nat.one_ne_zero, ite_true, ite_false, ne_eq, Nat.reduceSub, Nat.succ_eq_add_one, Nat.zero_lt_succ, Nat.add_one_ne_zero, false_or, or_false, mX7_tempt_c, mX7_tempt_n, mX7_tempt_r, mX7_tempt_l, dX7_tempt_0, dX7_tempt_1, dX7_tempt_4, tg_4_15, cnd1_eq, dX7_tempt_7, dX7_tempt_8, dX7_tempt_9, dX7_tempt_10, cl_7_201, dX7_tempt_13, dX7_tempt_16, tg_16_5, cnd1_ne, dX7_tempt_19, ic_m1, dX7_tempt_20, dX7_tempt_21, ic_0, dX7_tempt_22, dX7_tempt_23, dX7_tempt_24, bc_21, dX7_tempt_26, tg_26_95, cnd2_ge, dX7_tempt_29, dX7_tempt_30, fl_7_17_7, dX7_tempt_33, bc_20, dX7_tempt_35, dX7_tempt_36, dX7_tempt_37, dX7_tempt_38, bc_m4, dX7_tempt_40, tg_40_81, cnd2_eq, dX7_tempt_43, dX7_tempt_44, dX7_tempt_47, dX7_tempt_48, dX7_tempt_49, dX7_tempt_52, dX7_tempt_54, dX7_tempt_55, dX7_tempt_56, dX7_tempt_57, dX7_tempt_58, dX7_tempt_59, dX7_tempt_62, dX7_tempt_63, dX7_tempt_65, dX7_tempt_66, dX7_tempt_68, dX7_tempt_70, dX7_tempt_71, tg_71_37, dX7_tempt_74, dX7_tempt_75, dX7_tempt_78, dX7_tempt_80, tg_80_15, dX7_tempt_83, dX7_tempt_84, fl_7_79_7, dX7_tempt_87, dX7_tempt_88, dX7_tempt_89, ic_1, dX7_tempt_90, dX7_tempt_91, dX7_tempt_92, tg_92_7, cnd2_ne, dX7_tempt_95, dX7_tempt_96, tg_96_4, dX7_tempt_99, dX7_tempt_100, dX7_tempt_102, dX7_tempt_105, tg_105_m37, dX7_tempt_108, dX7_tempt_110, tg_110_5, dX7_tempt_113, dX7_tempt_114, dX7_tempt_115, dX7_tempt_118, tg_118_m95, dX7_tempt_121, dX7_tempt_123, jX7_tempt_1_111, jX7_tempt_1_63, jX7_tempt_0_122, jX7_tempt_0_89, jX7_tempt_0_97, st_aload_n, st_bipush, st_getfield, st_goto, st_i2l, st_iadd, st_iaload, st_iand, st_iconst, st_ifCond, st_if_icmp, st_iinc, st_iload, st_iload_n, st_invokestatic, st_invokevirtual, st_ireturn, st_ishr, st_istore, st_istore_n, st_lconst, st_ldc2_w]
        exact hl
    exact outer 21 0 rfl hT _ σ frm.rf hM hR
