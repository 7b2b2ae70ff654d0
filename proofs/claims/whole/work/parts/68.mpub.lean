/-! ===== YawnKeysModel: count, seed, person, note ===== -/
def sp_X7_count (Γ : Cx) : YSp := fun av σ K => ∃ (x : Int32), mo Γ [.int x] (fn (x_count x)) av σ K
theorem rv_X7_count {Γ : Cx} : Recv (sp_X7_count Γ) 1 7 := by
  intro av σ K h
  obtain ⟨x, h⟩ := h
  obtain ⟨q, fs, h1, h2, h3⟩ := rv_mo h
  exact ⟨q, _, fs, h1, rfl, h2, h3⟩
theorem bw_899 : Cond.code yX7_nails cX7_nails 3 (some .int) ∈ BW := bw_i 899 (by decide +kernel) (by decide +kernel)
theorem no_X7_nails : NameOK yX7_nails 0 := by unfold NameOK; decide +kernel
theorem bw_896 : Cond.methodLink RX7 175 yX7_nails ∈ BW := bw_i 896 (by decide +kernel) (by decide +kernel)
theorem bw_898 : Cond.instanceMethod yX7_nails ∈ BW := bw_i 898 (by decide +kernel) (by decide +kernel)
theorem bw_27 : Cond.selects RX7 yX7_nails yX7_nails ∈ BW := bw_i 27 (by decide +kernel) (by decide +kernel)
theorem bw_903 : Cond.code yX7_keepers cX7_keepers 3 (some .int) ∈ BW := bw_i 903 (by decide +kernel) (by decide +kernel)
theorem no_X7_keepers : NameOK yX7_keepers 0 := by unfold NameOK; decide +kernel
theorem bw_900 : Cond.methodLink RX7 178 yX7_keepers ∈ BW := bw_i 900 (by decide +kernel) (by decide +kernel)
theorem bw_902 : Cond.instanceMethod yX7_keepers ∈ BW := bw_i 902 (by decide +kernel) (by decide +kernel)
theorem bw_28 : Cond.selects RX7 yX7_keepers yX7_keepers ∈ BW := bw_i 28 (by decide +kernel) (by decide +kernel)
theorem tg_1_116 : tgo 1 116 = some 117 := by decide
theorem tg_1_52 : tgo 1 52 = some 53 := by decide
theorem tg_1_60 : tgo 1 60 = some 61 := by decide
theorem tg_1_65 : tgo 1 65 = some 66 := by decide
theorem tg_1_73 : tgo 1 73 = some 74 := by decide
theorem tg_1_78 : tgo 1 78 = some 79 := by decide
theorem tg_1_106 : tgo 1 106 = some 107 := by decide
theorem tg_88_17 : tgo 88 17 = some 105 := by decide
theorem tg_102_m19 : tgo 102 (-19) = some 83 := by decide
def mX7_count : Mt := (⟨1, 0, 0, 22⟩, RX7, cX7_count, 4, some .int, (0, 0), none)
theorem mX7_count_c : mX7_count.2.2.1 = cX7_count := rfl
theorem mX7_count_n : mX7_count.2.2.2.1 = 4 := rfl
theorem mX7_count_r : mX7_count.2.2.2.2.1 = some .int := rfl
theorem mX7_count_l : mX7_count.2.2.2.2.2.2 = none := rfl
def jX7_count (Γ : Cx) : List ((Nat × Nat) × Nat × Bool × YSp) := [((0, 175), 1, false, sp_X7_nails Γ), ((0, 119), 2, false, sp_X7_sumOf Γ), ((0, 178), 1, false, sp_X7_keepers Γ)]
theorem jX7_count_0_175 (Γ : Cx) : kT (jX7_count Γ) 0 175 = some (1, false, sp_X7_nails Γ) := rfl
theorem jX7_count_0_119 (Γ : Cx) : kT (jX7_count Γ) 0 119 = some (2, false, sp_X7_sumOf Γ) := rfl
theorem jX7_count_0_178 (Γ : Cx) : kT (jX7_count Γ) 0 178 = some (1, false, sp_X7_keepers Γ) := rfl
theorem uX7_count (Γ : Cx) : TbOK Γ mX7_count (fT fX7, cT kX7, kT (jX7_count Γ)) := tb_ok fX7_ok kX7_ok (all_cons ⟨call_V (n := 0) (T := TX7) (N := 26) (ok_X7_nails Γ) (rv_X7_nails (Γ := Γ)) rfl bw_899 bw_896 bw_898 bw_27 bw_49 no_X7_nails ⟨⟨rfl, rfl⟩, ⟨by decide, by decide⟩, ⟨by decide, by decide⟩⟩, fun z => by cases z⟩ (all_cons ⟨call_V (n := 1) (T := TX7) (N := 26) (ok_X7_sumOf Γ) (rv_X7_sumOf (Γ := Γ)) rfl bw_827 bw_824 bw_826 bw_16 bw_49 no_X7_sumOf ⟨⟨rfl, rfl⟩, ⟨by decide, by decide⟩, ⟨by decide, by decide⟩⟩, fun z => by cases z⟩ (all_cons ⟨call_V (n := 0) (T := TX7) (N := 26) (ok_X7_keepers Γ) (rv_X7_keepers (Γ := Γ)) rfl bw_903 bw_900 bw_902 bw_28 bw_49 no_X7_keepers ⟨⟨rfl, rfl⟩, ⟨by decide, by decide⟩, ⟨by decide, by decide⟩⟩, fun z => by cases z⟩ (all_nil))))
set_option maxRecDepth 20000 in
theorem ok_X7_count (Γ : Cx) : Ok Γ yX7_count mX7_count (sp_X7_count Γ) := by
  refine ok_intro (by decide +kernel) rfl rfl ?_
  intro av σ K h
  obtain ⟨x, h⟩ := h
  obtain ⟨lab, ⟨a, ad⟩, ⟨sc, ar, it⟩, ψ, ψ', r, rfl, hM, hR, hrel, h⟩ := h
  try simp only at h
  obtain ⟨⟨m1, -⟩, e1, -⟩ := id hM
  obtain ⟨⟨p1, p2, p3, p4, pI, p5, p6, p7⟩, hImg, h16, hT, hSh⟩ := id hR
  have hP := pI.P5
  simp only at p1 p2 p3 p4 p5 p6 p7 hImg h16 hT hSh
  simp only [ME] at m1 e1
  obtain ⟨hq1, hq2⟩ := fn_r hrel
  rw [hq1, hq2] at h
  clear hq1 hq2 hrel ψ' r
  have hk := h σ (sc, ar, it) hR frm.rf hM
  clear h
  unfold x_count at hk
  simp only at hk
  obtain ⟨m3, e3⟩ := hM.arr 3 rfl
  simp only [iA, lenM] at m3 e3
  have h24 : ar 3 24 = ψ.1.2.2.2.1 := p6.2.2.1
  have h25 : ar 3 25 = ψ.1.2.2.2.2.1 := p6.2.2.2.1
  rw [p1, p2, p3] at e1
  refine ⟨Nat.le_of_ble_eq_true rfl, yvc_ok (uX7_count Γ) (S := [83]) 60 _ _ _ _ ?_⟩
  simp only [lv_args, Value.category, m1, e1, m3, e3, in24_27, n24, in25_27, n25, h24, h25, yvc_s, s1i, s2i, s1l, s2l, sil, s1r, sir, siir, slir, srir, svr, sd1, sd2, lg, lput, ldel, isL_i, isL_r, isL_l, jmp, obj, obj1, fI, fR, arI, arL, arR, hput, f4_0, f4_1, f4_2, f4_3, lc_0, lc_1, rok_i, rok_b, rok_y, strF, fput_1, fput_2, csum_nil, csum_i, csum_l, csum_r, va_up_self, bx_uu, Int.reduceAdd, List.elem_nil, List.elem_cons, List.take_succ_cons, List.take_zero, List.drop_succ_cons, List.drop_zero, List.take_nil, List.drop_nil, List.reverse_cons, List.reverse_nil, List.nil_append, List.cons_append, List.append_nil, Option.toList_some, Option.toList_none, List.getElem?_cons_zero, List.getElem?_cons_succ, List.set_cons_zero, List.set_cons_succ, List.length_cons, List.length_nil, reduceIte, reduceCtorEq, and_true, true_and, and_self, or_true, true_or, false_and, and_false, not_true_eq_false, not_false_eq_true, true_implies, false_implies, implies_true, Nat.reduceAdd, Nat.reduceLT, Nat.reduceEqDiff, Nat.reduceLeDiff, Nat.reduceBEq, Nat.zero_add, Nat.lt_add_one, Bool.false_eq_true, Bool.or_false, Bool.or_true, Bool.or_self, Nat.zero_ne_one, Nat.one_ne_zero, ite_true, ite_false, ne_eq, Nat.reduceSub, Nat.succ_eq_add_one, Nat.zero_lt_succ, Nat.add_one_ne_zero, false_or, or_false, mX7_count_c, mX7_count_n, mX7_count_r, mX7_count_l, dX7_count_0, dX7_count_1, tg_1_116, tg_1_47, tg_1_52, tg_1_60, tg_1_65, tg_1_73, tg_1_78, tg_1_106, tg_1_111, swl, ic_0, ic_1, ic_2, ic_3, ic_4, ic_5, ic_6, ic_7, dX7_count_48, dX7_count_49, fl_7_60_7, dX7_count_52, dX7_count_53, dX7_count_54, fl_7_17_7, dX7_count_57, bc_24, dX7_count_59, dX7_count_60, dX7_count_61, dX7_count_62, fl_7_7_7, dX7_count_65, dX7_count_66, dX7_count_67, dX7_count_70, bc_25, dX7_count_72, dX7_count_73, dX7_count_74, dX7_count_75, dX7_count_78, dX7_count_79, dX7_count_80, dX7_count_81, dX7_count_82, dX7_count_83, dX7_count_84, dX7_count_85, dX7_count_88, tg_88_17, cnd2_ge, dX7_count_91, dX7_count_92, dX7_count_93, dX7_count_94, dX7_count_97, dX7_count_98, dX7_count_99, dX7_count_102, tg_102_m19, dX7_count_105, dX7_count_106, dX7_count_107, dX7_count_108, dX7_count_111, dX7_count_112, dX7_count_113, fl_7_104_7, dX7_count_116, dX7_count_117, ic_m1, dX7_count_118, jX7_count_0_175, jX7_count_0_119, jX7_count_0_178, st_aload_n, st_bipush, st_getfield, st_goto, st_iadd, st_iaload, st_iconst, st_if_icmp, st_iinc, st_iload_n, st_invokevirtual, st_ireturn, st_istore_n, st_tableswitch]
  refine ⟨rfl, ⟨fun d => ?_, fun d => ?_, fun d => ?_, fun d => ?_, fun d => ?_, fun d => ?_, fun d => ?_, fun d => ?_⟩, fun d => ?_⟩
  · subst d
    exact hk
  · subst d
    exact hk
  · subst d
    exact hk
  · subst d
    exact hk
  · subst d
    refine ⟨lab, (a, ad), (sc, ar, it), rfl, hM, trivial, ?_⟩
    simp only [kset_row p6 (-4) 4 (Nat.le_refl _)]
    refine yvc_ok (uX7_count Γ) (S := []) 60 _ _ _ _ ?_
    simp only [yvc_s, s1i, s2i, s1l, s2l, sil, s1r, sir, siir, slir, srir, svr, sd1, sd2, lg, lput, ldel, isL_i, isL_r, isL_l, jmp, obj, obj1, fI, fR, arI, arL, arR, hput, f4_0, f4_1, f4_2, f4_3, lc_0, lc_1, rok_i, rok_b, rok_y, strF, fput_1, fput_2, csum_nil, csum_i, csum_l, csum_r, va_up_self, bx_uu, Int.reduceAdd, List.elem_nil, List.elem_cons, List.take_succ_cons, List.take_zero, List.drop_succ_cons, List.drop_zero, List.take_nil, List.drop_nil, List.reverse_cons, List.reverse_nil, List.nil_append, List.cons_append, List.append_nil, Option.toList_some, Option.toList_none, List.getElem?_cons_zero, List.getElem?_cons_succ, List.set_cons_zero, List.set_cons_succ, List.length_cons, List.length_nil, reduceIte, reduceCtorEq, and_true, true_and, and_self, or_true, true_or, false_and, and_false, not_true_eq_false, not_false_eq_true, true_implies, false_implies, implies_true, Nat.reduceAdd, Nat.reduceLT, Nat.reduceEqDiff, Nat.reduceLeDiff, Nat.reduceBEq, Nat.zero_add, Nat.lt_add_one, Bool.false_eq_true, Bool.or_false, Bool.or_true, Bool.or_self, Nat.zero_ne_one, Nat.one_ne_zero, ite_true, ite_false, ne_eq, Nat.reduceSub, Nat.succ_eq_add_one, Nat.zero_lt_succ, Nat.add_one_ne_zero, false_or, or_false, mX7_count_c, mX7_count_n, mX7_count_r, mX7_count_l, dX7_count_0, dX7_count_1, tg_1_116, tg_1_47, tg_1_52, tg_1_60, tg_1_65, tg_1_73, tg_1_78, tg_1_106, tg_1_111, swl, ic_0, ic_1, ic_2, ic_3, ic_4, ic_5, ic_6, ic_7, dX7_count_48, dX7_count_49, fl_7_60_7, dX7_count_52, dX7_count_53, dX7_count_54, fl_7_17_7, dX7_count_57, bc_24, dX7_count_59, dX7_count_60, dX7_count_61, dX7_count_62, fl_7_7_7, dX7_count_65, dX7_count_66, dX7_count_67, dX7_count_70, bc_25, dX7_count_72, dX7_count_73, dX7_count_74, dX7_count_75, dX7_count_78, dX7_count_79, dX7_count_80, dX7_count_81, dX7_count_82, dX7_count_83, dX7_count_84, dX7_count_85, dX7_count_88, tg_88_17, cnd2_ge, dX7_count_91, dX7_count_92, dX7_count_93, dX7_count_94, dX7_count_97, dX7_count_98, dX7_count_99, dX7_count_102, tg_102_m19, dX7_count_105, dX7_count_106, dX7_count_107, dX7_count_108, dX7_count_111, dX7_count_112, dX7_count_113, fl_7_104_7, dX7_count_116, dX7_count_117, ic_m1, dX7_count_118, jX7_count_0_175, jX7_count_0_119, jX7_count_0_178, st_aload_n, st_bipush, st_getfield, st_goto, st_iadd, st_iaload, st_iconst, st_if_icmp, st_iinc, st_iload_n, st_invokevirtual, st_ireturn, st_istore_n, st_tableswitch]
    exact hk
  · subst d
    have loop : ∀ n j : Nat, j + n = ψ.1.2.2.2.2.2.2.1 → YG Γ mX7_count K 83 [(0, .ref a), (1, .int 5), (2, .int (wall ψ.1.1 j)), (3, .int (nI j))] [] σ := by
      intro n
      induction n with
      | zero =>
        intro j hj
        obtain rfl : j = ψ.1.2.2.2.2.2.2.1 := by omega
        refine yvc1_ok (uX7_count Γ) (S := [83]) 40 ?_
        simp only [yvc1, geP, m1, e1, yvc_s, s1i, s2i, s1l, s2l, sil, s1r, sir, siir, slir, srir, svr, sd1, sd2, lg, lput, ldel, isL_i, isL_r, isL_l, jmp, obj, obj1, fI, fR, arI, arL, arR, hput, f4_0, f4_1, f4_2, f4_3, lc_0, lc_1, rok_i, rok_b, rok_y, strF, fput_1, fput_2, csum_nil, csum_i, csum_l, csum_r, va_up_self, bx_uu, Int.reduceAdd, List.elem_nil, List.elem_cons, List.take_succ_cons, List.take_zero, List.drop_succ_cons, List.drop_zero, List.take_nil, List.drop_nil, List.reverse_cons, List.reverse_nil, List.nil_append, List.cons_append, List.append_nil, Option.toList_some, Option.toList_none, List.getElem?_cons_zero, List.getElem?_cons_succ, List.set_cons_zero, List.set_cons_succ, List.length_cons, List.length_nil, reduceIte, reduceCtorEq, and_true, true_and, and_self, or_true, true_or, false_and, and_false, not_true_eq_false, not_false_eq_true, true_implies, false_implies, implies_true, Nat.reduceAdd, Nat.reduceLT, Nat.reduceEqDiff, Nat.reduceLeDiff, Nat.reduceBEq, Nat.zero_add, Nat.lt_add_one, Bool.false_eq_true, Bool.or_false, Bool.or_true, Bool.or_self, Nat.zero_ne_one, Nat.one_ne_zero, ite_true, ite_false, ne_eq, Nat.reduceSub, Nat.succ_eq_add_one, Nat.zero_lt_succ, Nat.add_one_ne_zero, false_or, or_false, mX7_count_c, mX7_count_n, mX7_count_r, mX7_count_l, dX7_count_0, dX7_count_1, tg_1_116, tg_1_47, tg_1_52, tg_1_60, tg_1_65, tg_1_73, tg_1_78, tg_1_106, tg_1_111, swl, ic_0, ic_1, ic_2, ic_3, ic_4, ic_5, ic_6, ic_7, dX7_count_48, dX7_count_49, fl_7_60_7, dX7_count_52, dX7_count_53, dX7_count_54, fl_7_17_7, dX7_count_57, bc_24, dX7_count_59, dX7_count_60, dX7_count_61, dX7_count_62, fl_7_7_7, dX7_count_65, dX7_count_66, dX7_count_67, dX7_count_70, bc_25, dX7_count_72, dX7_count_73, dX7_count_74, dX7_count_75, dX7_count_78, dX7_count_79, dX7_count_80, dX7_count_81, dX7_count_82, dX7_count_83, dX7_count_84, dX7_count_85, dX7_count_88, tg_88_17, cnd2_ge, dX7_count_91, dX7_count_92, dX7_count_93, dX7_count_94, dX7_count_97, dX7_count_98, dX7_count_99, dX7_count_102, tg_102_m19, dX7_count_105, dX7_count_106, dX7_count_107, dX7_count_108, dX7_count_111, dX7_count_112, dX7_count_113, fl_7_104_7, dX7_count_116, dX7_count_117, ic_m1, dX7_count_118, jX7_count_0_175, jX7_count_0_119, jX7_count_0_178, st_aload_n, st_bipush, st_getfield, st_goto, st_iadd, st_iaload, st_iconst, st_if_icmp, st_iinc, st_iload_n, st_invokevirtual, st_ireturn, st_istore_n, st_tableswitch]
        exact hk
      | succ n ih =>
        intro j hj
        have c1 := ltP (show j < ψ.1.2.2.2.2.2.2.1 by omega) hP
        have hj1 := ih (j + 1) (by omega)
        refine yvc1_ok (uX7_count Γ) (S := [83]) 40 ?_
        simp only [yvc1, c1, m1, e1, yvc_s, s1i, s2i, s1l, s2l, sil, s1r, sir, siir, slir, srir, svr, sd1, sd2, lg, lput, ldel, isL_i, isL_r, isL_l, jmp, obj, obj1, fI, fR, arI, arL, arR, hput, f4_0, f4_1, f4_2, f4_3, lc_0, lc_1, rok_i, rok_b, rok_y, strF, fput_1, fput_2, csum_nil, csum_i, csum_l, csum_r, va_up_self, bx_uu, Int.reduceAdd, List.elem_nil, List.elem_cons, List.take_succ_cons, List.take_zero, List.drop_succ_cons, List.drop_zero, List.take_nil, List.drop_nil, List.reverse_cons, List.reverse_nil, List.nil_append, List.cons_append, List.append_nil, Option.toList_some, Option.toList_none, List.getElem?_cons_zero, List.getElem?_cons_succ, List.set_cons_zero, List.set_cons_succ, List.length_cons, List.length_nil, reduceIte, reduceCtorEq, and_true, true_and, and_self, or_true, true_or, false_and, and_false, not_true_eq_false, not_false_eq_true, true_implies, false_implies, implies_true, Nat.reduceAdd, Nat.reduceLT, Nat.reduceEqDiff, Nat.reduceLeDiff, Nat.reduceBEq, Nat.zero_add, Nat.lt_add_one, Bool.false_eq_true, Bool.or_false, Bool.or_true, Bool.or_self, Nat.zero_ne_one, Nat.one_ne_zero, ite_true, ite_false, ne_eq, Nat.reduceSub, Nat.succ_eq_add_one, Nat.zero_lt_succ, Nat.add_one_ne_zero, false_or, or_false, mX7_count_c, mX7_count_n, mX7_count_r, mX7_count_l, dX7_count_0, dX7_count_1, tg_1_116, tg_1_47, tg_1_52, tg_1_60, tg_1_65, tg_1_73, tg_1_78, tg_1_106, tg_1_111, swl, ic_0, ic_1, ic_2, ic_3, ic_4, ic_5, ic_6, ic_7, dX7_count_48, dX7_count_49, fl_7_60_7, dX7_count_52, dX7_count_53, dX7_count_54, fl_7_17_7, dX7_count_57, bc_24, dX7_count_59, dX7_count_60, dX7_count_61, dX7_count_62, fl_7_7_7, dX7_count_65, dX7_count_66, dX7_count_67, dX7_count_70, bc_25, dX7_count_72, dX7_count_73, dX7_count_74, dX7_count_75, dX7_count_78, dX7_count_79, dX7_count_80, dX7_count_81, dX7_count_82, dX7_count_83, dX7_count_84, dX7_count_85, dX7_count_88, tg_88_17, cnd2_ge, dX7_count_91, dX7_count_92, dX7_count_93, dX7_count_94, dX7_count_97, dX7_count_98, dX7_count_99, dX7_count_102, tg_102_m19, dX7_count_105, dX7_count_106, dX7_count_107, dX7_count_108, dX7_count_111, dX7_count_112, dX7_count_113, fl_7_104_7, dX7_count_116, dX7_count_117, ic_m1, dX7_count_118, jX7_count_0_175, jX7_count_0_119, jX7_count_0_178, st_aload_n, st_bipush, st_getfield, st_goto, st_iadd, st_iaload, st_iconst, st_if_icmp, st_iinc, st_iload_n, st_invokevirtual, st_ireturn, st_istore_n, st_tableswitch]
        refine ⟨j, ψ, lab, (a, ad), (sc, ar, it), rfl, hM, ⟨hR, by omega⟩, ?_⟩
        refine yvc_ok (uX7_count Γ) (S := [83]) 40 _ _ _ _ ?_
        simp only [nI_1, yvc_s, s1i, s2i, s1l, s2l, sil, s1r, sir, siir, slir, srir, svr, sd1, sd2, lg, lput, ldel, isL_i, isL_r, isL_l, jmp, obj, obj1, fI, fR, arI, arL, arR, hput, f4_0, f4_1, f4_2, f4_3, lc_0, lc_1, rok_i, rok_b, rok_y, strF, fput_1, fput_2, csum_nil, csum_i, csum_l, csum_r, va_up_self, bx_uu, Int.reduceAdd, List.elem_nil, List.elem_cons, List.take_succ_cons, List.take_zero, List.drop_succ_cons, List.drop_zero, List.take_nil, List.drop_nil, List.reverse_cons, List.reverse_nil, List.nil_append, List.cons_append, List.append_nil, Option.toList_some, Option.toList_none, List.getElem?_cons_zero, List.getElem?_cons_succ, List.set_cons_zero, List.set_cons_succ, List.length_cons, List.length_nil, reduceIte, reduceCtorEq, and_true, true_and, and_self, or_true, true_or, false_and, and_false, not_true_eq_false, not_false_eq_true, true_implies, false_implies, implies_true, Nat.reduceAdd, Nat.reduceLT, Nat.reduceEqDiff, Nat.reduceLeDiff, Nat.reduceBEq, Nat.zero_add, Nat.lt_add_one, Bool.false_eq_true, Bool.or_false, Bool.or_true, Bool.or_self, Nat.zero_ne_one, Nat.one_ne_zero, ite_true, ite_false, ne_eq, Nat.reduceSub, Nat.succ_eq_add_one, Nat.zero_lt_succ, Nat.add_one_ne_zero, false_or, or_false, mX7_count_c, mX7_count_n, mX7_count_r, mX7_count_l, dX7_count_0, dX7_count_1, tg_1_116, tg_1_47, tg_1_52, tg_1_60, tg_1_65, tg_1_73, tg_1_78, tg_1_106, tg_1_111, swl, ic_0, ic_1, ic_2, ic_3, ic_4, ic_5, ic_6, ic_7, dX7_count_48, dX7_count_49, fl_7_60_7, dX7_count_52, dX7_count_53, dX7_count_54, fl_7_17_7, dX7_count_57, bc_24, dX7_count_59, dX7_count_60, dX7_count_61, dX7_count_62, fl_7_7_7, dX7_count_65, dX7_count_66, dX7_count_67, dX7_count_70, bc_25, dX7_count_72, dX7_count_73, dX7_count_74, dX7_count_75, dX7_count_78, dX7_count_79, dX7_count_80, dX7_count_81, dX7_count_82, dX7_count_83, dX7_count_84, dX7_count_85, dX7_count_88, tg_88_17, cnd2_ge, dX7_count_91, dX7_count_92, dX7_count_93, dX7_count_94, dX7_count_97, dX7_count_98, dX7_count_99, dX7_count_102, tg_102_m19, dX7_count_105, dX7_count_106, dX7_count_107, dX7_count_108, dX7_count_111, dX7_count_112, dX7_count_113, fl_7_104_7, dX7_count_116, dX7_count_117, ic_m1, dX7_count_118, jX7_count_0_175, jX7_count_0_119, jX7_count_0_178, st_aload_n, st_bipush, st_getfield, st_goto, st_iadd, st_iaload, st_iconst, st_if_icmp, st_iinc, st_iload_n, st_invokevirtual, st_ireturn, st_istore_n, st_tableswitch]
        exact hj1
    exact loop _ 0 (Nat.zero_add _)
  · subst d
    refine ⟨lab, (a, ad), (sc, ar, it), rfl, hM, trivial, ?_⟩
    simp only [kany_row p6 4 (Nat.le_refl _)]
    refine yvc_ok (uX7_count Γ) (S := []) 60 _ _ _ _ ?_
    simp only [yvc_s, s1i, s2i, s1l, s2l, sil, s1r, sir, siir, slir, srir, svr, sd1, sd2, lg, lput, ldel, isL_i, isL_r, isL_l, jmp, obj, obj1, fI, fR, arI, arL, arR, hput, f4_0, f4_1, f4_2, f4_3, lc_0, lc_1, rok_i, rok_b, rok_y, strF, fput_1, fput_2, csum_nil, csum_i, csum_l, csum_r, va_up_self, bx_uu, Int.reduceAdd, List.elem_nil, List.elem_cons, List.take_succ_cons, List.take_zero, List.drop_succ_cons, List.drop_zero, List.take_nil, List.drop_nil, List.reverse_cons, List.reverse_nil, List.nil_append, List.cons_append, List.append_nil, Option.toList_some, Option.toList_none, List.getElem?_cons_zero, List.getElem?_cons_succ, List.set_cons_zero, List.set_cons_succ, List.length_cons, List.length_nil, reduceIte, reduceCtorEq, and_true, true_and, and_self, or_true, true_or, false_and, and_false, not_true_eq_false, not_false_eq_true, true_implies, false_implies, implies_true, Nat.reduceAdd, Nat.reduceLT, Nat.reduceEqDiff, Nat.reduceLeDiff, Nat.reduceBEq, Nat.zero_add, Nat.lt_add_one, Bool.false_eq_true, Bool.or_false, Bool.or_true, Bool.or_self, Nat.zero_ne_one, Nat.one_ne_zero, ite_true, ite_false, ne_eq, Nat.reduceSub, Nat.succ_eq_add_one, Nat.zero_lt_succ, Nat.add_one_ne_zero, false_or, or_false, mX7_count_c, mX7_count_n, mX7_count_r, mX7_count_l, dX7_count_0, dX7_count_1, tg_1_116, tg_1_47, tg_1_52, tg_1_60, tg_1_65, tg_1_73, tg_1_78, tg_1_106, tg_1_111, swl, ic_0, ic_1, ic_2, ic_3, ic_4, ic_5, ic_6, ic_7, dX7_count_48, dX7_count_49, fl_7_60_7, dX7_count_52, dX7_count_53, dX7_count_54, fl_7_17_7, dX7_count_57, bc_24, dX7_count_59, dX7_count_60, dX7_count_61, dX7_count_62, fl_7_7_7, dX7_count_65, dX7_count_66, dX7_count_67, dX7_count_70, bc_25, dX7_count_72, dX7_count_73, dX7_count_74, dX7_count_75, dX7_count_78, dX7_count_79, dX7_count_80, dX7_count_81, dX7_count_82, dX7_count_83, dX7_count_84, dX7_count_85, dX7_count_88, tg_88_17, cnd2_ge, dX7_count_91, dX7_count_92, dX7_count_93, dX7_count_94, dX7_count_97, dX7_count_98, dX7_count_99, dX7_count_102, tg_102_m19, dX7_count_105, dX7_count_106, dX7_count_107, dX7_count_108, dX7_count_111, dX7_count_112, dX7_count_113, fl_7_104_7, dX7_count_116, dX7_count_117, ic_m1, dX7_count_118, jX7_count_0_175, jX7_count_0_119, jX7_count_0_178, st_aload_n, st_bipush, st_getfield, st_goto, st_iadd, st_iaload, st_iconst, st_if_icmp, st_iinc, st_iload_n, st_invokevirtual, st_ireturn, st_istore_n, st_tableswitch]
    exact hk
  · subst d
    exact hk
  · have q : ∀ y : Int32, ¬ y.toInt < 0 → ¬ 7 < y.toInt → ¬ x = y := fun y h1 h2 => d.elim (fun z => toInt_lo z h1) (fun z => toInt_hi z h2)
    rw [if_neg (q 0 (by decide) (by decide)), if_neg (q 1 (by decide) (by decide)), if_neg (q 2 (by decide) (by decide)), if_neg (q 3 (by decide) (by decide)), if_neg (q 4 (by decide) (by decide)), if_neg (q 5 (by decide) (by decide)), if_neg (q 6 (by decide) (by decide)), if_neg (q 7 (by decide) (by decide))] at hk
    exact hk
/-- now changes, nothing else -/
theorem R.upR {ψ : XS} {s : MS} {c : CS} {f : Nat → Int32} (h : R ψ s) (hc : CI c) (hr : RowM c.2.2.2.2.2.2.1 f (mom c)) (h1 : ∀ p, p < ψ.1.2.2.2.2.2.2.1 → c.2.2.1 p = ψ.1.2.2.1 p) (h2 : c.2.2.2.2.2.2.1 = ψ.1.2.2.2.2.2.2.1) (h3 : c.2.2.2.2.2.2.2.1 = ψ.1.2.2.2.2.2.2.2.1) : R (c, ψ.2) (s.1, updA s.2.1 3 f, s.2.2) := by
  refine h.upN (c := c) (pa := ψ.2.2.1) rfl rfl rfl rfl rfl rfl rfl rfl rfl rfl ?_
  obtain ⟨⟨p1, p2, p3, p4, pI, p5, p6, p7⟩, -⟩ := h
  refine ⟨?_, ?_, p3, p4, hc, ?_, ?_, ?_⟩
  · rw [h2]; exact p1
  · rw [h3]; exact p2
  · intro q hq
    rw [h2] at hq
    rw [h1 q hq]
    exact p5 q hq
  · simp only [updA_at]
    exact hr
  · rw [h2]; exact p7
def sp_X7_seed (Γ : Cx) : YSp := fun av σ K => ∃ (x : Int32), mo Γ [.int x] (fn (x_seed x)) av σ K
theorem rv_X7_seed {Γ : Cx} : Recv (sp_X7_seed Γ) 1 7 := by
  intro av σ K h
  obtain ⟨x, h⟩ := h
  obtain ⟨q, fs, h1, h2, h3⟩ := rv_mo h
  exact ⟨q, _, fs, h1, rfl, h2, h3⟩
theorem bc_26 : (Int8.ofInt 26).toInt32 = 26 := by decide
def mX7_seed : Mt := (⟨0, 0, 0, 0⟩, RX7, cX7_seed, 3, some .int, (0, 0), none)
theorem mX7_seed_c : mX7_seed.2.2.1 = cX7_seed := rfl
theorem mX7_seed_n : mX7_seed.2.2.2.1 = 3 := rfl
theorem mX7_seed_r : mX7_seed.2.2.2.2.1 = some .int := rfl
theorem mX7_seed_l : mX7_seed.2.2.2.2.2.2 = none := rfl
def jX7_seed (Γ : Cx) : List ((Nat × Nat) × Nat × Bool × YSp) := []
theorem uX7_seed (Γ : Cx) : TbOK Γ mX7_seed (fT fX7, cT kX7, kT (jX7_seed Γ)) := tb_ok fX7_ok kX7_ok (all_nil)
set_option maxRecDepth 20000 in
theorem ok_X7_seed (Γ : Cx) : Ok Γ yX7_seed mX7_seed (sp_X7_seed Γ) := by
  refine ok_intro (by decide +kernel) rfl rfl ?_
  intro av σ K h
  obtain ⟨x, h⟩ := h
  obtain ⟨lab, ⟨a, ad⟩, ⟨sc, ar, it⟩, ψ, ψ', r, rfl, hM, hR, hrel, h⟩ := h
  try simp only at h
  obtain ⟨⟨m1, -⟩, e1, -⟩ := id hM
  obtain ⟨⟨p1, p2, p3, p4, pI, p5, p6, p7⟩, hImg, h16, hT, hSh⟩ := id hR
  have hP := pI.P5
  simp only at p1 p2 p3 p4 p5 p6 p7 hImg h16 hT hSh
  simp only [ME] at m1 e1
  obtain ⟨hq1, hq2⟩ := fn_r hrel
  rw [hq1, hq2] at h
  clear hq1 hq2 hrel ψ' r
  unfold x_seed at h
  obtain ⟨m3, e3⟩ := hM.arr 3 rfl
  simp only [iA, lenM] at m3 e3
  have h26 : ar 3 26 = ψ.1.2.2.2.2.2.1 := p6.2.2.2.2
  refine ⟨Nat.le_of_ble_eq_true rfl, yvc_ok (uX7_seed Γ) (S := []) 60 _ _ _ _ ?_⟩
  simp only [lv_args, Value.category, m1, e1, m3, e3, in26_27, n26, h26, yvc_s, s1i, s2i, s1l, s2l, sil, s1r, sir, siir, slir, srir, svr, sd1, sd2, lg, lput, ldel, isL_i, isL_r, isL_l, jmp, obj, obj1, fI, fR, arI, arL, arR, hput, f4_0, f4_1, f4_2, f4_3, lc_0, lc_1, rok_i, rok_b, rok_y, strF, fput_1, fput_2, csum_nil, csum_i, csum_l, csum_r, va_up_self, bx_uu, Int.reduceAdd, List.elem_nil, List.elem_cons, List.take_succ_cons, List.take_zero, List.drop_succ_cons, List.drop_zero, List.take_nil, List.drop_nil, List.reverse_cons, List.reverse_nil, List.nil_append, List.cons_append, List.append_nil, Option.toList_some, Option.toList_none, List.getElem?_cons_zero, List.getElem?_cons_succ, List.set_cons_zero, List.set_cons_succ, List.length_cons, List.length_nil, reduceIte, reduceCtorEq, and_true, true_and, and_self, or_true, true_or, false_and, and_false, not_true_eq_false, not_false_eq_true, true_implies, false_implies, implies_true, Nat.reduceAdd, Nat.reduceLT, Nat.reduceEqDiff, Nat.reduceLeDiff, Nat.reduceBEq, Nat.zero_add, Nat.lt_add_one, Bool.false_eq_true, Bool.or_false, Bool.or_true, Bool.or_self, Nat.zero_ne_one, Nat.one_ne_zero, ite_true, ite_false, ne_eq, Nat.reduceSub, Nat.succ_eq_add_one, Nat.zero_lt_succ, Nat.add_one_ne_zero, false_or, or_false, mX7_seed_c, mX7_seed_n, mX7_seed_r, mX7_seed_l, dX7_seed_0, dX7_seed_1, tg_1_5, cnd1_ge, dX7_seed_4, ic_m1, dX7_seed_5, dX7_seed_6, dX7_seed_7, fl_7_17_7, dX7_seed_10, bc_26, dX7_seed_12, dX7_seed_13, dX7_seed_14, dX7_seed_15, dX7_seed_18, dX7_seed_20, dX7_seed_21, dX7_seed_22, dX7_seed_23, st_aload_n, st_bipush, st_getfield, st_iaload, st_iastore, st_iconst, st_ifCond, st_iload_n, st_ireturn, st_istore_n]
  refine ⟨fun c => ?_, fun c => ?_⟩
  · rw [if_pos c] at h
    have hk := h _ _ (hR.upR (c := setD ψ.1 x) (f := upd (ar 3) 26 x) pI (p6.draw hP x) (fun _ _ => rfl) rfl rfl) (hM.frA (k := 3) rfl) (hM.putA (k := 3) rfl (upd (ar 3) 26 x))
    simp only [hput, iA, lenM] at hk
    exact hk
  · rw [if_neg c] at h
    exact h _ _ hR frm.rf hM
/-- one's four wants are set, in a row -/
def jm (row : Nat → Int32) (P : Nat) (v : Int32) : Nat → Nat → Int32
  | 0 => row
  | n + 1 => upd (jm row P v n) (4 * P + n) v
theorem jm_at {row : Nat → Int32} {P : Nat} {v : Int32} : ∀ n k : Nat, jm row P v n k = if 4 * P ≤ k ∧ k < 4 * P + n then v else row k
  | 0, k => by rw [jm, if_neg (by omega)]
  | n + 1, k => by
    rw [jm]
    by_cases e : k = 4 * P + n
    · subst e; rw [pk_us, if_pos (by omega)]
    · rw [pk_un e, jm_at n k]
      by_cases c : 4 * P ≤ k ∧ k < 4 * P + n
      · rw [if_pos c, if_pos (by omega)]
      · rw [if_neg c, if_neg (by omega)]
theorem jw_jm {w : Nat → Int32} {P : Nat} {v : Int32} (hP : P < 5) : ∀ n : Nat, n ≤ 4 → jw w P v n = jm w P v n
  | 0, _ => rfl
  | n + 1, h => by rw [jw_s, jm, jw_jm hP n (by omega), ix_n hP (by omega)]
def sp_X7_person (Γ : Cx) : YSp := fun av σ K => ∃ (x : Int32) (y : Int32), mo Γ [.int x, .int y] (fn (x_person x y)) av σ K
theorem rv_X7_person {Γ : Cx} : Recv (sp_X7_person Γ) 2 7 := by
  intro av σ K h
  obtain ⟨x, y, h⟩ := h
  obtain ⟨q, fs, h1, h2, h3⟩ := rv_mo h
  exact ⟨q, _, fs, h1, rfl, h2, h3⟩
theorem tg_9_15 : tgo 9 15 = some 24 := by decide
theorem tg_31_6 : tgo 31 6 = some 37 := by decide
theorem tg_51_23 : tgo 51 23 = some 74 := by decide
theorem tg_71_m22 : tgo 71 (-22) = some 49 := by decide
def mX7_person : Mt := (⟨1, 0, 0, 25⟩, RX7, cX7_person, 4, some .int, (0, 0), none)
theorem mX7_person_c : mX7_person.2.2.1 = cX7_person := rfl
theorem mX7_person_n : mX7_person.2.2.2.1 = 4 := rfl
theorem mX7_person_r : mX7_person.2.2.2.2.1 = some .int := rfl
theorem mX7_person_l : mX7_person.2.2.2.2.2.2 = none := rfl
def jX7_person (Γ : Cx) : List ((Nat × Nat) × Nat × Bool × YSp) := [((1, 63), 3, true, sp_X7_lies Γ)]
theorem jX7_person_1_63 (Γ : Cx) : kT (jX7_person Γ) 1 63 = some (3, true, sp_X7_lies Γ) := rfl
theorem uX7_person (Γ : Cx) : TbOK Γ mX7_person (fT fX7, cT kX7, kT (jX7_person Γ)) := tb_ok fX7_ok kX7_ok (all_cons ⟨call_S (n := 3) (ok_X7_lies Γ) (rv_X7_lies (Γ := Γ)) bw_797 bw_795 bw_796 bw_49 no_X7_lies ⟨⟨rfl, rfl⟩, ⟨by decide, by decide⟩, ⟨by decide, by decide⟩⟩, fun _ => mono_X7_lies (Γ := Γ)⟩ (all_nil))
theorem n5P {n : Nat} (h : n ≤ 5) : nI n = 5 ↔ n = 5 := nI_eq (b := 5) (by omega) (by decide)
set_option maxRecDepth 20000 in
theorem ok_X7_person (Γ : Cx) : Ok Γ yX7_person mX7_person (sp_X7_person Γ) := by
  refine ok_intro (by decide +kernel) rfl rfl ?_
  intro av σ K h
  obtain ⟨x, y, h⟩ := h
  obtain ⟨lab, ⟨a, ad⟩, ⟨sc, ar, it⟩, ψ, ψ', r, rfl, hM, hR, hrel, h⟩ := h
  try simp only at h
  obtain ⟨⟨m1, -⟩, e1, -⟩ := id hM
  obtain ⟨⟨p1, p2, p3, p4, pI, p5, p6, p7⟩, hImg, h16, hT, hSh⟩ := id hR
  have hP := pI.P5
  simp only at p1 p2 p3 p4 p5 p6 p7 hImg h16 hT hSh
  simp only [ME] at m1 e1
  obtain ⟨hq1, hq2⟩ := fn_r hrel
  rw [hq1, hq2] at h
  clear hq1 hq2 hrel ψ' r
  unfold x_person at h
  rw [p1] at e1
  obtain ⟨m2, e2⟩ := hM.arr 2 rfl
  simp only [iA, lenM] at m2 e2
  refine ⟨Nat.le_of_ble_eq_true rfl, yvc_ok (uX7_person Γ) (S := [37]) 60 _ _ _ _ ?_⟩
  simp only [lv_args, Value.category, m1, e1, sp_X7_lies, inL_04, inL_020, bI_eq0, Bool.not_eq_false, n5P hP, yvc_s, s1i, s2i, s1l, s2l, sil, s1r, sir, siir, slir, srir, svr, sd1, sd2, lg, lput, ldel, isL_i, isL_r, isL_l, jmp, obj, obj1, fI, fR, arI, arL, arR, hput, f4_0, f4_1, f4_2, f4_3, lc_0, lc_1, rok_i, rok_b, rok_y, strF, fput_1, fput_2, csum_nil, csum_i, csum_l, csum_r, va_up_self, bx_uu, Int.reduceAdd, List.elem_nil, List.elem_cons, List.take_succ_cons, List.take_zero, List.drop_succ_cons, List.drop_zero, List.take_nil, List.drop_nil, List.reverse_cons, List.reverse_nil, List.nil_append, List.cons_append, List.append_nil, Option.toList_some, Option.toList_none, List.getElem?_cons_zero, List.getElem?_cons_succ, List.set_cons_zero, List.set_cons_succ, List.length_cons, List.length_nil, reduceIte, reduceCtorEq, and_true, true_and, and_self, or_true, true_or, false_and, and_false, not_true_eq_false, not_false_eq_true, true_implies, false_implies, implies_true, Nat.reduceAdd, Nat.reduceLT, Nat.reduceEqDiff, Nat.reduceLeDiff, Nat.reduceBEq, Nat.zero_add, Nat.lt_add_one, Bool.false_eq_true, Bool.or_false, Bool.or_true, Bool.or_self, Nat.zero_ne_one, Nat.one_ne_zero, ite_true, ite_false, ne_eq, Nat.reduceSub, Nat.succ_eq_add_one, Nat.zero_lt_succ, Nat.add_one_ne_zero, false_or, or_false, mX7_person_c, mX7_person_n, mX7_person_r, mX7_person_l, dX7_person_0, dX7_person_1, dX7_person_2, dX7_person_3, cl_7_100, dX7_person_6, dX7_person_9, tg_9_15, cnd1_eq, dX7_person_12, dX7_person_13, dX7_person_14, dX7_person_15, cl_7_102, dX7_person_18, dX7_person_21, tg_21_5, cnd1_ne, dX7_person_24, ic_m1, dX7_person_25, dX7_person_26, dX7_person_27, fl_7_60_7, dX7_person_30, ic_5, dX7_person_31, tg_31_6, cnd2_ne, dX7_person_34, bc_m3, dX7_person_36, dX7_person_37, dX7_person_38, fl_7_13_7, dX7_person_41, dX7_person_42, dX7_person_45, dX7_person_46, dX7_person_47, ic_0, dX7_person_48, dX7_person_49, dX7_person_50, ic_4, dX7_person_51, tg_51_23, cnd2_ge, dX7_person_54, dX7_person_55, fl_7_17_7, dX7_person_58, dX7_person_59, dX7_person_60, dX7_person_63, dX7_person_64, dX7_person_65, dX7_person_66, dX7_person_67, dX7_person_68, ic_1, dX7_person_71, tg_71_m22, dX7_person_74, dX7_person_75, dX7_person_76, dX7_person_79, dX7_person_80, dX7_person_81, dX7_person_84, dX7_person_85, dX7_person_86, fl_7_104_7, dX7_person_89, dX7_person_90, dX7_person_93, dX7_person_94, dX7_person_95, jX7_person_1_63, st_aload_n, st_bipush, st_dup, st_getfield, st_goto, st_i2l, st_iadd, st_iastore, st_iconst, st_ifCond, st_if_icmp, st_iinc, st_iload_n, st_imul, st_invokestatic, st_ireturn, st_istore_n, st_isub, st_lconst, st_ldc2_w, st_putfield]
  refine ⟨fun c => ?_, fun c => ⟨fun d => ⟨fun z => ?_, fun z => ?_⟩, fun d => ?_⟩⟩
  · rw [if_neg (fun z => by rw [z.1] at c; cases c)] at h
    exact h _ _ hR frm.rf hM
  · have hlt : ψ.1.2.2.2.2.2.2.1 < 5 := by omega
    rw [if_pos ⟨c, d⟩, if_pos hlt] at h
    obtain ⟨i1, i2⟩ := in5q hlt
    have hwn := in_n (B := 20) (by decide) d
    -- the end
    have fin : ∀ σ1, frm (fL lab 30) σ σ1 → Mod Γ lab (a, ad) (sc, updA (updA ar 2 (upd (ar 2) ψ.1.2.2.2.2.2.2.1 x)) 3 (jm (ar 3) ψ.1.2.2.2.2.2.2.1 y 4), it) σ1 → YG Γ mX7_person K 49 [(0, .ref a), (1, .int x), (2, .int y), (3, .int (nI 4))] [] σ1 := by
      intro σ1 hf1 hM1
      have hM2 := hM1.putO (upd (upd sc 0 (nI (ψ.1.2.2.2.2.2.2.1 + 1))) 6 0)
      obtain ⟨⟨m1, -⟩, e1, -⟩ := id hM1
      have hk := h _ _ (hR.upN (s' := (upd (upd sc 0 (nI (ψ.1.2.2.2.2.2.2.1 + 1))) 6 0, updA (updA ar 2 (upd (ar 2) ψ.1.2.2.2.2.2.2.1 x)) 3 (jm (ar 3) ψ.1.2.2.2.2.2.2.1 y 4), it)) (c := joinC ψ.1 x y) (pa := (ψ.2.2.1.1, 0)) rfl rfl rfl rfl rfl rfl rfl rfl rfl rfl (by
        refine ⟨rfl, p2, rfl, Nat.zero_le _, ?_, ?_, ?_, fun i hi => absurd hi (by simp only; omega)⟩
        · obtain ⟨D, hD, hw, hr, hd2⟩ := pI
          refine ⟨D, hD, ⟨?_, fun d hd => ?_⟩, ?_, hd2⟩
          · show ψ.1.2.2.2.2.2.2.1 + 1 ≤ 5
            omega
          · rcases hw.2 d hd with z | ⟨q, hq, z⟩
            · exact Or.inl z
            · exact Or.inr ⟨q, Nat.lt_succ_of_lt hq, z⟩
          · intro k hk
            show ∃ n, n ≤ 20 ∧ jw ψ.1.1 ψ.1.2.2.2.2.2.2.1 y 4 k = nI n
            rw [jw_jm hlt 4 (Nat.le_refl _), jm_at]
            have hk : k < 4 * (ψ.1.2.2.2.2.2.2.1 + 1) := hk
            split
            · exact hwn
            · exact hr k (by omega)
        · intro q hq
          show upd (ar 2) _ x q = upd _ _ x q
          by_cases e : q = ψ.1.2.2.2.2.2.2.1
          · subst e; rw [pk_us, pk_us]
          · rw [pk_un e, pk_un e]
            have hq : q < ψ.1.2.2.2.2.2.2.1 + 1 := hq
            exact p5 q (by omega)
        · have hrow := p6
          obtain ⟨a1, a2, a3, a4, a5⟩ := hrow
          simp only [updA_at]
          refine ⟨fun k hk => ?_, fun d hd => ?_, ?_, ?_, ?_⟩
          · show _ = jw ψ.1.1 ψ.1.2.2.2.2.2.2.1 y 4 k
            have hk : k < 4 * (ψ.1.2.2.2.2.2.2.1 + 1) := hk
            rw [jw_jm hlt 4 (Nat.le_refl _), jm_at, jm_at]
            split
            · rfl
            · exact a1 k (by omega)
          · rw [jm_at, if_neg (by omega)]; exact a2 d hd
          · rw [jm_at, if_neg (by omega)]; exact a3
          · rw [jm_at, if_neg (by omega)]; exact a4
          · rw [jm_at, if_neg (by omega)]; exact a5)) (hf1.tr hM1.frO) hM2
      simp only [ME, hput] at m1 e1 hk
      rw [p1] at e1
      refine yvc1_ok (uX7_person Γ) (S := [49]) 60 ?_
      simp only [yvc1, ge4, m1, e1, nI_1, nI_pred, yvc_s, s1i, s2i, s1l, s2l, sil, s1r, sir, siir, slir, srir, svr, sd1, sd2, lg, lput, ldel, isL_i, isL_r, isL_l, jmp, obj, obj1, fI, fR, arI, arL, arR, hput, f4_0, f4_1, f4_2, f4_3, lc_0, lc_1, rok_i, rok_b, rok_y, strF, fput_1, fput_2, csum_nil, csum_i, csum_l, csum_r, va_up_self, bx_uu, Int.reduceAdd, List.elem_nil, List.elem_cons, List.take_succ_cons, List.take_zero, List.drop_succ_cons, List.drop_zero, List.take_nil, List.drop_nil, List.reverse_cons, List.reverse_nil, List.nil_append, List.cons_append, List.append_nil, Option.toList_some, Option.toList_none, List.getElem?_cons_zero, List.getElem?_cons_succ, List.set_cons_zero, List.set_cons_succ, List.length_cons, List.length_nil, reduceIte, reduceCtorEq, and_true, true_and, and_self, or_true, true_or, false_and, and_false, not_true_eq_false, not_false_eq_true, true_implies, false_implies, implies_true, Nat.reduceAdd, Nat.reduceLT, Nat.reduceEqDiff, Nat.reduceLeDiff, Nat.reduceBEq, Nat.zero_add, Nat.lt_add_one, Bool.false_eq_true, Bool.or_false, Bool.or_true, Bool.or_self, Nat.zero_ne_one, Nat.one_ne_zero, ite_true, ite_false, ne_eq, Nat.reduceSub, Nat.succ_eq_add_one, Nat.zero_lt_succ, Nat.add_one_ne_zero, false_or, or_false, mX7_person_c, mX7_person_n, mX7_person_r, mX7_person_l, dX7_person_0, dX7_person_1, dX7_person_2, dX7_person_3, cl_7_100, dX7_person_6, dX7_person_9, tg_9_15, cnd1_eq, dX7_person_12, dX7_person_13, dX7_person_14, dX7_person_15, cl_7_102, dX7_person_18, dX7_person_21, tg_21_5, cnd1_ne, dX7_person_24, ic_m1, dX7_person_25, dX7_person_26, dX7_person_27, fl_7_60_7, dX7_person_30, ic_5, dX7_person_31, tg_31_6, cnd2_ne, dX7_person_34, bc_m3, dX7_person_36, dX7_person_37, dX7_person_38, fl_7_13_7, dX7_person_41, dX7_person_42, dX7_person_45, dX7_person_46, dX7_person_47, ic_0, dX7_person_48, dX7_person_49, dX7_person_50, ic_4, dX7_person_51, tg_51_23, cnd2_ge, dX7_person_54, dX7_person_55, fl_7_17_7, dX7_person_58, dX7_person_59, dX7_person_60, dX7_person_63, dX7_person_64, dX7_person_65, dX7_person_66, dX7_person_67, dX7_person_68, ic_1, dX7_person_71, tg_71_m22, dX7_person_74, dX7_person_75, dX7_person_76, dX7_person_79, dX7_person_80, dX7_person_81, dX7_person_84, dX7_person_85, dX7_person_86, fl_7_104_7, dX7_person_89, dX7_person_90, dX7_person_93, dX7_person_94, dX7_person_95, jX7_person_1_63, st_aload_n, st_bipush, st_dup, st_getfield, st_goto, st_i2l, st_iadd, st_iastore, st_iconst, st_ifCond, st_if_icmp, st_iinc, st_iload_n, st_imul, st_invokestatic, st_ireturn, st_istore_n, st_isub, st_lconst, st_ldc2_w, st_putfield]
      exact hk
    have loop : ∀ n j : Nat, j + n = 4 → ∀ σ1, frm (fL lab 30) σ σ1 → Mod Γ lab (a, ad) (sc, updA (updA ar 2 (upd (ar 2) ψ.1.2.2.2.2.2.2.1 x)) 3 (jm (ar 3) ψ.1.2.2.2.2.2.2.1 y j), it) σ1 → YG Γ mX7_person K 49 [(0, .ref a), (1, .int x), (2, .int y), (3, .int (nI j))] [] σ1 := by
      intro n
      induction n with
      | zero =>
        intro j hj σ1 hf1 hM1
        obtain rfl : j = 4 := by omega
        exact fin σ1 hf1 hM1
      | succ n ih =>
        intro j hj σ1 hf1 hM1
        obtain ⟨c1, -, -⟩ := lt4 (show j < 4 by omega)
        obtain ⟨k1, k2⟩ := ix4 hlt (show j < 4 by omega)
        have hM2 := hM1.putA (k := 3) rfl (jm (ar 3) ψ.1.2.2.2.2.2.2.1 y (j + 1))
        simp only [updA_updA] at hM2
        have hj1 := ih (j + 1) (by omega) _ (hf1.tr (hM1.frA (k := 3) rfl)) hM2
        obtain ⟨⟨m1, -⟩, e1, -⟩ := id hM1
        obtain ⟨m3, e3⟩ := hM1.arr 3 rfl
        simp only [ME, hput, iA, lenM, updA_at, jm] at m1 e1 m3 e3 hj1
        rw [p1] at e1
        refine yvc1_ok (uX7_person Γ) (S := [49]) 60 ?_
        simp only [yvc1, c1, k1, k2, m1, e1, m3, e3, nI_1, yvc_s, s1i, s2i, s1l, s2l, sil, s1r, sir, siir, slir, srir, svr, sd1, sd2, lg, lput, ldel, isL_i, isL_r, isL_l, jmp, obj, obj1, fI, fR, arI, arL, arR, hput, f4_0, f4_1, f4_2, f4_3, lc_0, lc_1, rok_i, rok_b, rok_y, strF, fput_1, fput_2, csum_nil, csum_i, csum_l, csum_r, va_up_self, bx_uu, Int.reduceAdd, List.elem_nil, List.elem_cons, List.take_succ_cons, List.take_zero, List.drop_succ_cons, List.drop_zero, List.take_nil, List.drop_nil, List.reverse_cons, List.reverse_nil, List.nil_append, List.cons_append, List.append_nil, Option.toList_some, Option.toList_none, List.getElem?_cons_zero, List.getElem?_cons_succ, List.set_cons_zero, List.set_cons_succ, List.length_cons, List.length_nil, reduceIte, reduceCtorEq, and_true, true_and, and_self, or_true, true_or, false_and, and_false, not_true_eq_false, not_false_eq_true, true_implies, false_implies, implies_true, Nat.reduceAdd, Nat.reduceLT, Nat.reduceEqDiff, Nat.reduceLeDiff, Nat.reduceBEq, Nat.zero_add, Nat.lt_add_one, Bool.false_eq_true, Bool.or_false, Bool.or_true, Bool.or_self, Nat.zero_ne_one, Nat.one_ne_zero, ite_true, ite_false, ne_eq, Nat.reduceSub, Nat.succ_eq_add_one, Nat.zero_lt_succ, Nat.add_one_ne_zero, false_or, or_false, mX7_person_c, mX7_person_n, mX7_person_r, mX7_person_l, dX7_person_0, dX7_person_1, dX7_person_2, dX7_person_3, cl_7_100, dX7_person_6, dX7_person_9, tg_9_15, cnd1_eq, dX7_person_12, dX7_person_13, dX7_person_14, dX7_person_15, cl_7_102, dX7_person_18, dX7_person_21, tg_21_5, cnd1_ne, dX7_person_24, ic_m1, dX7_person_25, dX7_person_26, dX7_person_27, fl_7_60_7, dX7_person_30, ic_5, dX7_person_31, tg_31_6, cnd2_ne, dX7_person_34, bc_m3, dX7_person_36, dX7_person_37, dX7_person_38, fl_7_13_7, dX7_person_41, dX7_person_42, dX7_person_45, dX7_person_46, dX7_person_47, ic_0, dX7_person_48, dX7_person_49, dX7_person_50, ic_4, dX7_person_51, tg_51_23, cnd2_ge, dX7_person_54, dX7_person_55, fl_7_17_7, dX7_person_58, dX7_person_59, dX7_person_60, dX7_person_63, dX7_person_64, dX7_person_65, dX7_person_66, dX7_person_67, dX7_person_68, ic_1, dX7_person_71, tg_71_m22, dX7_person_74, dX7_person_75, dX7_person_76, dX7_person_79, dX7_person_80, dX7_person_81, dX7_person_84, dX7_person_85, dX7_person_86, fl_7_104_7, dX7_person_89, dX7_person_90, dX7_person_93, dX7_person_94, dX7_person_95, jX7_person_1_63, st_aload_n, st_bipush, st_dup, st_getfield, st_goto, st_i2l, st_iadd, st_iastore, st_iconst, st_ifCond, st_if_icmp, st_iinc, st_iload_n, st_imul, st_invokestatic, st_ireturn, st_istore_n, st_isub, st_lconst, st_ldc2_w, st_putfield]
        exact hj1
    have hM2 := hM.putA (k := 2) rfl (upd (ar 2) ψ.1.2.2.2.2.2.2.1 x)
    have hl := loop 4 0 rfl _ (hM.frA (k := 2) rfl) (by
      show Mod Γ lab (a, ad) (sc, updA (updA ar 2 (upd (ar 2) ψ.1.2.2.2.2.2.2.1 x)) 3 (ar 3), it) _
      have e : updA (updA ar 2 (upd (ar 2) ψ.1.2.2.2.2.2.2.1 x)) 3 (ar 3) = updA ar 2 (upd (ar 2) ψ.1.2.2.2.2.2.2.1 x) := by
        have := updA_self (ar := updA ar 2 (upd (ar 2) ψ.1.2.2.2.2.2.2.1 x)) (k := 3)
        rw [updA_ne (by decide)] at this
        exact this
      rw [e]
      exact hM2)
    simp only [iA, lenM, hput] at hl
    refine yvc1_ok (uX7_person Γ) (S := [37, 49]) 60 ?_
    simp only [yvc1, m1, e1, m2, e2, i1, i2, yvc_s, s1i, s2i, s1l, s2l, sil, s1r, sir, siir, slir, srir, svr, sd1, sd2, lg, lput, ldel, isL_i, isL_r, isL_l, jmp, obj, obj1, fI, fR, arI, arL, arR, hput, f4_0, f4_1, f4_2, f4_3, lc_0, lc_1, rok_i, rok_b, rok_y, strF, fput_1, fput_2, csum_nil, csum_i, csum_l, csum_r, va_up_self, bx_uu, Int.reduceAdd, List.elem_nil, List.elem_cons, List.take_succ_cons, List.take_zero, List.drop_succ_cons, List.drop_zero, List.take_nil, List.drop_nil, List.reverse_cons, List.reverse_nil, List.nil_append, List.cons_append, List.append_nil, Option.toList_some, Option.toList_none, List.getElem?_cons_zero, List.getElem?_cons_succ, List.set_cons_zero, List.set_cons_succ, List.length_cons, List.length_nil, reduceIte, reduceCtorEq, and_true, true_and, and_self, or_true, true_or, false_and, and_false, not_true_eq_false, not_false_eq_true, true_implies, false_implies, implies_true, Nat.reduceAdd, Nat.reduceLT, Nat.reduceEqDiff, Nat.reduceLeDiff, Nat.reduceBEq, Nat.zero_add, Nat.lt_add_one, Bool.false_eq_true, Bool.or_false, Bool.or_true, Bool.or_self, Nat.zero_ne_one, Nat.one_ne_zero, ite_true, ite_false, ne_eq, Nat.reduceSub, Nat.succ_eq_add_one, Nat.zero_lt_succ, Nat.add_one_ne_zero, false_or, or_false, mX7_person_c, mX7_person_n, mX7_person_r, mX7_person_l, dX7_person_0, dX7_person_1, dX7_person_2, dX7_person_3, cl_7_100, dX7_person_6, dX7_person_9, tg_9_15, cnd1_eq, dX7_person_12, dX7_person_13, dX7_person_14, dX7_person_15, cl_7_102, dX7_person_18, dX7_person_21, tg_21_5, cnd1_ne, dX7_person_24, ic_m1, dX7_person_25, dX7_person_26, dX7_person_27, fl_7_60_7, dX7_person_30, ic_5, dX7_person_31, tg_31_6, cnd2_ne, dX7_person_34, bc_m3, dX7_person_36, dX7_person_37, dX7_person_38, fl_7_13_7, dX7_person_41, dX7_person_42, dX7_person_45, dX7_person_46, dX7_person_47, ic_0, dX7_person_48, dX7_person_49, dX7_person_50, ic_4, dX7_person_51, tg_51_23, cnd2_ge, dX7_person_54, dX7_person_55, fl_7_17_7, dX7_person_58, dX7_person_59, dX7_person_60, dX7_person_63, dX7_person_64, dX7_person_65, dX7_person_66, dX7_person_67, dX7_person_68, ic_1, dX7_person_71, tg_71_m22, dX7_person_74, dX7_person_75, dX7_person_76, dX7_person_79, dX7_person_80, dX7_person_81, dX7_person_84, dX7_person_85, dX7_person_86, fl_7_104_7, dX7_person_89, dX7_person_90, dX7_person_93, dX7_person_94, dX7_person_95, jX7_person_1_63, st_aload_n, st_bipush, st_dup, st_getfield, st_goto, st_i2l, st_iadd, st_iastore, st_iconst, st_ifCond, st_if_icmp, st_iinc, st_iload_n, st_imul, st_invokestatic, st_ireturn, st_istore_n, st_isub, st_lconst, st_ldc2_w, st_putfield]
    exact hl
  · have z := Classical.not_not.mp z
    rw [if_pos ⟨c, d⟩, if_neg (by omega)] at h
    exact h _ _ hR frm.rf hM
  · rw [if_neg (fun z => d z.2)] at h
    exact h _ _ hR frm.rf hM
