/-! ===== YawnKeysModel: film, told ===== -/
theorem cutS : ∀ w, w < 21 → (nI w).toInt64.toInt32.toInt8.toInt32.toInt64 = (nI w).toInt64 ∧ (nI w).toInt64.toInt32.toInt16.toInt32.toInt64 = (nI w).toInt64 ∧ (nI w).toInt64.toInt32.toInt64 = (nI w).toInt64 := by decide +kernel
theorem cut_w {l : Int32} {w : Nat} (h : w ≤ 20) : cutL l (nI w).toInt64 = (nI w).toInt64 := by
  obtain ⟨h1, h2, h3⟩ := cutS w (by omega)
  unfold cutL
  split
  · exact h1
  · split
    · exact h2
    · split
      · exact h3
      · rfl
theorem CJ.w {D : Nat} {c : CS} (h : CJ D c) {p d : Nat} (hp : p < c.2.2.2.2.2.2.1) (hd : d < 4) : ∃ w, w ≤ 20 ∧ c.1 (ix (nI p) (nI d)) = nI w := by
  have := h.1.1
  rw [ix_n (by omega) hd]
  exact h.2.1 _ (by omega)
theorem inL_18' {x : Int32} : inL x.toInt64 1 8 = inr x 1 8 := inL_18
def filX (ψ : XS) (c : CS) (p d q I j : Nat) : XS := setS ψ q (filI c (ψ.2.2.2.2.2.2 q).2.1 (ψ.2.2.2.2.2.2 q).1 p d I j, (ψ.2.2.2.2.2.2 q).2)
theorem filX_0 {ψ : XS} {c : CS} {p d q I : Nat} : filX ψ c p d q I 0 = ψ := by
  unfold filX setS filI
  have e : ((ψ.2.2.2.2.2.2 q).1, (ψ.2.2.2.2.2.2 q).2) = ψ.2.2.2.2.2.2 q := rfl
  rw [e, updS_self]
theorem filX_s {ψ : XS} {c : CS} {p d q I j : Nat} : filX ψ c p d q I (j + 1) = setS (filX ψ c p d q I j) q (vp_updL ((filX ψ c p d q I j).2.2.2.2.2.2 q).1 (I + j) (cutL (ψ.2.2.2.2.2.2 q).2.1 ((daysC c (j + 1)).1 (ix (nI p) (nI d))).toInt64), ((filX ψ c p d q I j).2.2.2.2.2.2 q).2) := by
  unfold filX setS
  simp only [updS_at, updS_updS]
  rw [filI]
def sp_X7_film (Γ : Cx) : YSp := fun av σ K => ∃ (x : Int32) (y : Int32) (z : Int32) (u : Int32) (w : Int32) (v : Int32), mo Γ [.int x, .int y, .int z, .int u, .int w, .int v] (x_film x y z u w v) av σ K
theorem rv_X7_film {Γ : Cx} : Recv (sp_X7_film Γ) 6 7 := by
  intro av σ K h
  obtain ⟨x, y, z, u, w, v, h⟩ := h
  obtain ⟨q, fs, h1, h2, h3⟩ := rv_mo h
  exact ⟨q, _, fs, h1, rfl, h2, h3⟩
theorem tg_5_38 : tgo 5 38 = some 43 := by decide
theorem tg_12_31 : tgo 12 31 = some 43 := by decide
theorem tg_24_19 : tgo 24 19 = some 43 := by decide
theorem tg_32_11 : tgo 32 11 = some 43 := by decide
theorem tg_40_5 : tgo 40 5 = some 45 := by decide
theorem tg_60_6 : tgo 60 6 = some 66 := by decide
theorem tg_76_40 : tgo 76 40 = some 116 := by decide
theorem tg_113_m40 : tgo 113 (-40) = some 73 := by decide
def mX7_film : Mt := (⟨3, 0, 0, 69⟩, RX7, cX7_film, 9, some .int, (0, 0), none)
theorem mX7_film_c : mX7_film.2.2.1 = cX7_film := rfl
theorem mX7_film_n : mX7_film.2.2.2.1 = 9 := rfl
theorem mX7_film_r : mX7_film.2.2.2.2.1 = some .int := rfl
theorem mX7_film_l : mX7_film.2.2.2.2.2.2 = none := rfl
def jX7_film (Γ : Cx) : List ((Nat × Nat) × Nat × Bool × YSp) := [((0, 107), 2, true, sp_X7_isOne Γ), ((1, 111), 1, true, sp_X7_isDoor Γ), ((1, 63), 3, true, sp_X7_lies Γ), ((1, 219), 1, true, sp_X7_isSheet Γ), ((1, 222), 1, true, sp_X7_isLane Γ), ((0, 227), 5, false, sp_X7_lacks Γ), ((0, 122), 1, false, sp_X7_aside Γ), ((0, 97), 1, false, sp_X7_goDay Γ)]
theorem jX7_film_0_107 (Γ : Cx) : kT (jX7_film Γ) 0 107 = some (2, true, sp_X7_isOne Γ) := rfl
theorem jX7_film_1_111 (Γ : Cx) : kT (jX7_film Γ) 1 111 = some (1, true, sp_X7_isDoor Γ) := rfl
theorem jX7_film_1_63 (Γ : Cx) : kT (jX7_film Γ) 1 63 = some (3, true, sp_X7_lies Γ) := rfl
theorem jX7_film_1_219 (Γ : Cx) : kT (jX7_film Γ) 1 219 = some (1, true, sp_X7_isSheet Γ) := rfl
theorem jX7_film_1_222 (Γ : Cx) : kT (jX7_film Γ) 1 222 = some (1, true, sp_X7_isLane Γ) := rfl
theorem jX7_film_0_227 (Γ : Cx) : kT (jX7_film Γ) 0 227 = some (5, false, sp_X7_lacks Γ) := rfl
theorem jX7_film_0_122 (Γ : Cx) : kT (jX7_film Γ) 0 122 = some (1, false, sp_X7_aside Γ) := rfl
theorem jX7_film_0_97 (Γ : Cx) : kT (jX7_film Γ) 0 97 = some (1, false, sp_X7_goDay Γ) := rfl
theorem uX7_film (Γ : Cx) : TbOK Γ mX7_film (fT fX7, cT kX7, kT (jX7_film Γ)) := tb_ok fX7_ok kX7_ok (all_cons ⟨call_V (n := 1) (T := TX7) (N := 26) (ok_X7_isOne Γ) (rv_X7_isOne (Γ := Γ)) rfl bw_810 bw_807 bw_809 bw_14 bw_49 no_X7_isOne ⟨⟨rfl, rfl⟩, ⟨by decide, by decide⟩, ⟨by decide, by decide⟩⟩, fun _ => mono_X7_isOne (Γ := Γ)⟩ (all_cons ⟨call_S (n := 1) (ok_X7_isDoor Γ) (rv_X7_isDoor (Γ := Γ)) bw_813 bw_811 bw_812 bw_49 no_X7_isDoor ⟨⟨rfl, rfl⟩, ⟨by decide, by decide⟩, ⟨by decide, by decide⟩⟩, fun _ => mono_X7_isDoor (Γ := Γ)⟩ (all_cons ⟨call_S (n := 3) (ok_X7_lies Γ) (rv_X7_lies (Γ := Γ)) bw_797 bw_795 bw_796 bw_49 no_X7_lies ⟨⟨rfl, rfl⟩, ⟨by decide, by decide⟩, ⟨by decide, by decide⟩⟩, fun _ => mono_X7_lies (Γ := Γ)⟩ (all_cons ⟨call_S (n := 1) (ok_X7_isSheet Γ) (rv_X7_isSheet (Γ := Γ)) bw_1015 bw_1013 bw_1014 bw_49 no_X7_isSheet ⟨⟨rfl, rfl⟩, ⟨by decide, by decide⟩, ⟨by decide, by decide⟩⟩, fun _ => mono_X7_isSheet (Γ := Γ)⟩ (all_cons ⟨call_S (n := 1) (ok_X7_isLane Γ) (rv_X7_isLane (Γ := Γ)) bw_1018 bw_1016 bw_1017 bw_49 no_X7_isLane ⟨⟨rfl, rfl⟩, ⟨by decide, by decide⟩, ⟨by decide, by decide⟩⟩, fun _ => mono_X7_isLane (Γ := Γ)⟩ (all_cons ⟨call_V (n := 4) (T := TX7) (N := 26) (ok_X7_lacks Γ) (rv_X7_lacks (Γ := Γ)) rfl bw_1023 bw_1020 bw_1022 bw_35 bw_49 no_X7_lacks ⟨⟨rfl, rfl⟩, ⟨by decide, by decide⟩, ⟨by decide, by decide⟩⟩, fun z => by cases z⟩ (all_cons ⟨call_V (n := 0) (T := TX7) (N := 26) (ok_X7_aside Γ) (rv_X7_aside (Γ := Γ)) rfl bw_835 bw_832 bw_834 bw_17 bw_49 no_X7_aside ⟨⟨rfl, rfl⟩, ⟨by decide, by decide⟩, ⟨by decide, by decide⟩⟩, fun z => by cases z⟩ (all_cons ⟨call_V (n := 0) (T := TX7) (N := 26) (ok_X7_goDay Γ) (rv_X7_goDay (Γ := Γ)) rfl bw_916 bw_913 bw_915 bw_30 bw_49 no_X7_goDay ⟨⟨rfl, rfl⟩, ⟨by decide, by decide⟩, ⟨by decide, by decide⟩⟩, fun z => by cases z⟩ (all_nil)))))))))
set_option maxRecDepth 20000 in
theorem ok_X7_film (Γ : Cx) : Ok Γ yX7_film mX7_film (sp_X7_film Γ) := by
  refine ok_intro (by decide +kernel) rfl rfl ?_
  intro av σ K h
  obtain ⟨x, y, z, u, w, v, h⟩ := h
  obtain ⟨lab, ⟨a, ad⟩, ⟨sc, ar, it⟩, ψ, ψ', r, rfl, hM, hR, hrel, h⟩ := h
  try simp only at h
  obtain ⟨⟨m1, -⟩, e1, -⟩ := id hM
  obtain ⟨⟨p1, p2, p3, p4, pI, p5, p6, p7⟩, hImg, h16, hT, hSh⟩ := id hR
  have hP := pI.P5
  simp only at p1 p2 p3 p4 p5 p6 p7 hImg h16 hT hSh
  simp only [ME] at m1 e1
  have no : ¬ okF ψ x y z u w → K (some (.int (-1))) σ := fun t => by
    rcases hrel with ⟨-, h1, h2⟩ | ⟨h1, -⟩
    · rw [h1, h2] at h
      exact h _ _ hR frm.rf hM
    · exact absurd h1 t
  have hsc0 : sc 0 = nI ψ.1.2.2.2.2.2.2.1 := p1
  have e1' := e1
  rw [p1] at e1
  refine ⟨Nat.le_of_ble_eq_true rfl, yvc_ok (uX7_film Γ) (S := [45]) 60 _ _ _ _ ?_⟩
  simp only [lv_args, Value.category, m1, e1, sp_X7_isOne, sp_X7_isDoor, sp_X7_isSheet, sp_X7_isLane, sp_X6_isDoor, sp_X7_lies, inL_124, bI_eq0, Bool.not_eq_false, yvc_s, s1i, s2i, s1l, s2l, sil, s1r, sir, siir, slir, srir, svr, sd1, sd2, lg, lput, ldel, isL_i, isL_r, isL_l, jmp, obj, obj1, fI, fR, arI, arL, arR, hput, f4_0, f4_1, f4_2, f4_3, lc_0, lc_1, rok_i, rok_b, rok_y, strF, fput_1, fput_2, csum_nil, csum_i, csum_l, csum_r, va_up_self, bx_uu, Int.reduceAdd, List.elem_nil, List.elem_cons, List.take_succ_cons, List.take_zero, List.drop_succ_cons, List.drop_zero, List.take_nil, List.drop_nil, List.reverse_cons, List.reverse_nil, List.nil_append, List.cons_append, List.append_nil, Option.toList_some, Option.toList_none, List.getElem?_cons_zero, List.getElem?_cons_succ, List.set_cons_zero, List.set_cons_succ, List.length_cons, List.length_nil, reduceIte, reduceCtorEq, and_true, true_and, and_self, or_true, true_or, false_and, and_false, not_true_eq_false, not_false_eq_true, true_implies, false_implies, implies_true, Nat.reduceAdd, Nat.reduceLT, Nat.reduceEqDiff, Nat.reduceLeDiff, Nat.reduceBEq, Nat.zero_add, Nat.lt_add_one, Bool.false_eq_true, Bool.or_false, Bool.or_true, Bool.or_self, Nat.zero_ne_one, Nat.one_ne_zero, ite_true, ite_false, ne_eq, Nat.reduceSub, Nat.succ_eq_add_one, Nat.zero_lt_succ, Nat.add_one_ne_zero, false_or, or_false, mX7_film_c, mX7_film_n, mX7_film_r, mX7_film_l, dX7_film_0, dX7_film_1, dX7_film_2, dX7_film_5, tg_5_38, cnd1_eq, dX7_film_8, dX7_film_9, dX7_film_12, tg_12_31, dX7_film_15, dX7_film_16, dX7_film_17, dX7_film_18, cl_7_241, dX7_film_21, dX7_film_24, tg_24_19, dX7_film_27, dX7_film_29, dX7_film_32, tg_32_11, dX7_film_35, dX7_film_37, dX7_film_40, tg_40_5, cnd1_ne, dX7_film_43, ic_m1, dX7_film_44, dX7_film_45, dX7_film_46, dX7_film_48, dX7_film_50, dX7_film_52, dX7_film_53, dX7_film_56, dX7_film_58, dX7_film_60, tg_60_6, dX7_film_63, dX7_film_65, dX7_film_66, dX7_film_67, dX7_film_70, ic_0, dX7_film_71, dX7_film_73, dX7_film_75, dX7_film_76, tg_76_40, cnd2_ge, dX7_film_79, dX7_film_80, dX7_film_83, dX7_film_84, fl_7_35_7, dX7_film_87, bc_24, dX7_film_89, dX7_film_91, dX7_film_92, dX7_film_94, dX7_film_95, dX7_film_97, dX7_film_98, dX7_film_99, fl_7_20_7, dX7_film_102, ic_4, dX7_film_103, dX7_film_104, dX7_film_105, dX7_film_106, dX7_film_107, dX7_film_108, dX7_film_109, dX7_film_110, ic_1, dX7_film_113, tg_113_m40, dX7_film_116, dX7_film_117, jX7_film_0_107, jX7_film_1_111, jX7_film_1_63, jX7_film_1_219, jX7_film_1_222, jX7_film_0_227, jX7_film_0_122, jX7_film_0_97, st_aload_n, st_bipush, st_getfield, st_goto, st_i2l, st_iadd, st_iaload, st_iconst, st_ifCond, st_if_icmp, st_iinc, st_iload, st_iload_n, st_imul, st_invokestatic, st_invokevirtual, st_ireturn, st_istore, st_lastore, st_lconst, st_ldc2_w]
  refine ⟨fun c => no (fun t => by rw [t.1] at c; cases c), fun c1 => ⟨fun c => no (fun t => by rw [t.2.1] at c; cases c), fun c2 => ⟨fun c => no (fun t => by rw [t.2.2.2.2] at c; cases c), fun c5 => ⟨fun c => no (fun t => by rw [t.2.2.1] at c; cases c), fun c3 => ⟨fun c4 => ?_, fun c => no (fun t => c t.2.2.2.1)⟩⟩⟩⟩⟩
  obtain ⟨-, hrel⟩ := hrel.resolve_left (fun t => t.1 ⟨c1, c2, c3, c4, c5⟩)
  obtain ⟨p, hp, rfl⟩ := has_n hP c1
  obtain ⟨d, hd, rfl⟩ := door_n c2
  obtain ⟨q, hq, rfl⟩ := door_n c3
  obtain ⟨N, hN0, hN, rfl⟩ := in1_n (B := 24) (by decide) c5
  obtain ⟨d2, d3⟩ := in4q hq
  rw [d3] at hrel
  obtain ⟨g1, g2, g3, g4⟩ := hSh q hq
  have hz := g1
  rw [← g2] at hz
  refine yvc1_ok (uX7_film Γ) (S := [45]) 60 ?_
  simp only [yvc1, yvc_s, s1i, s2i, s1l, s2l, sil, s1r, sir, siir, slir, srir, svr, sd1, sd2, lg, lput, ldel, isL_i, isL_r, isL_l, jmp, obj, obj1, fI, fR, arI, arL, arR, hput, f4_0, f4_1, f4_2, f4_3, lc_0, lc_1, rok_i, rok_b, rok_y, strF, fput_1, fput_2, csum_nil, csum_i, csum_l, csum_r, va_up_self, bx_uu, Int.reduceAdd, List.elem_nil, List.elem_cons, List.take_succ_cons, List.take_zero, List.drop_succ_cons, List.drop_zero, List.take_nil, List.drop_nil, List.reverse_cons, List.reverse_nil, List.nil_append, List.cons_append, List.append_nil, Option.toList_some, Option.toList_none, List.getElem?_cons_zero, List.getElem?_cons_succ, List.set_cons_zero, List.set_cons_succ, List.length_cons, List.length_nil, reduceIte, reduceCtorEq, and_true, true_and, and_self, or_true, true_or, false_and, and_false, not_true_eq_false, not_false_eq_true, true_implies, false_implies, implies_true, Nat.reduceAdd, Nat.reduceLT, Nat.reduceEqDiff, Nat.reduceLeDiff, Nat.reduceBEq, Nat.zero_add, Nat.lt_add_one, Bool.false_eq_true, Bool.or_false, Bool.or_true, Bool.or_self, Nat.zero_ne_one, Nat.one_ne_zero, ite_true, ite_false, ne_eq, Nat.reduceSub, Nat.succ_eq_add_one, Nat.zero_lt_succ, Nat.add_one_ne_zero, false_or, or_false, mX7_film_c, mX7_film_n, mX7_film_r, mX7_film_l, dX7_film_0, dX7_film_1, dX7_film_2, dX7_film_5, tg_5_38, cnd1_eq, dX7_film_8, dX7_film_9, dX7_film_12, tg_12_31, dX7_film_15, dX7_film_16, dX7_film_17, dX7_film_18, cl_7_241, dX7_film_21, dX7_film_24, tg_24_19, dX7_film_27, dX7_film_29, dX7_film_32, tg_32_11, dX7_film_35, dX7_film_37, dX7_film_40, tg_40_5, cnd1_ne, dX7_film_43, ic_m1, dX7_film_44, dX7_film_45, dX7_film_46, dX7_film_48, dX7_film_50, dX7_film_52, dX7_film_53, dX7_film_56, dX7_film_58, dX7_film_60, tg_60_6, dX7_film_63, dX7_film_65, dX7_film_66, dX7_film_67, dX7_film_70, ic_0, dX7_film_71, dX7_film_73, dX7_film_75, dX7_film_76, tg_76_40, cnd2_ge, dX7_film_79, dX7_film_80, dX7_film_83, dX7_film_84, fl_7_35_7, dX7_film_87, bc_24, dX7_film_89, dX7_film_91, dX7_film_92, dX7_film_94, dX7_film_95, dX7_film_97, dX7_film_98, dX7_film_99, fl_7_20_7, dX7_film_102, ic_4, dX7_film_103, dX7_film_104, dX7_film_105, dX7_film_106, dX7_film_107, dX7_film_108, dX7_film_109, dX7_film_110, ic_1, dX7_film_113, tg_113_m40, dX7_film_116, dX7_film_117, jX7_film_0_107, jX7_film_1_111, jX7_film_1_63, jX7_film_1_219, jX7_film_1_222, jX7_film_0_227, jX7_film_0_122, jX7_film_0_97, st_aload_n, st_bipush, st_getfield, st_goto, st_i2l, st_iadd, st_iaload, st_iconst, st_ifCond, st_if_icmp, st_iinc, st_iload, st_iload_n, st_imul, st_invokestatic, st_invokevirtual, st_ireturn, st_istore, st_lastore, st_lconst, st_ldc2_w]
  refine ⟨q, w, v, nI N, lab, (a, ad), (sc, ar, it), rfl, hM, ⟨hq, hz⟩, ?_⟩
  simp only [g2, g3]
  refine yvc_ok (uX7_film Γ) (S := [66]) 60 _ _ _ _ ?_
  simp only [yvc_s, s1i, s2i, s1l, s2l, sil, s1r, sir, siir, slir, srir, svr, sd1, sd2, lg, lput, ldel, isL_i, isL_r, isL_l, jmp, obj, obj1, fI, fR, arI, arL, arR, hput, f4_0, f4_1, f4_2, f4_3, lc_0, lc_1, rok_i, rok_b, rok_y, strF, fput_1, fput_2, csum_nil, csum_i, csum_l, csum_r, va_up_self, bx_uu, Int.reduceAdd, List.elem_nil, List.elem_cons, List.take_succ_cons, List.take_zero, List.drop_succ_cons, List.drop_zero, List.take_nil, List.drop_nil, List.reverse_cons, List.reverse_nil, List.nil_append, List.cons_append, List.append_nil, Option.toList_some, Option.toList_none, List.getElem?_cons_zero, List.getElem?_cons_succ, List.set_cons_zero, List.set_cons_succ, List.length_cons, List.length_nil, reduceIte, reduceCtorEq, and_true, true_and, and_self, or_true, true_or, false_and, and_false, not_true_eq_false, not_false_eq_true, true_implies, false_implies, implies_true, Nat.reduceAdd, Nat.reduceLT, Nat.reduceEqDiff, Nat.reduceLeDiff, Nat.reduceBEq, Nat.zero_add, Nat.lt_add_one, Bool.false_eq_true, Bool.or_false, Bool.or_true, Bool.or_self, Nat.zero_ne_one, Nat.one_ne_zero, ite_true, ite_false, ne_eq, Nat.reduceSub, Nat.succ_eq_add_one, Nat.zero_lt_succ, Nat.add_one_ne_zero, false_or, or_false, mX7_film_c, mX7_film_n, mX7_film_r, mX7_film_l, dX7_film_0, dX7_film_1, dX7_film_2, dX7_film_5, tg_5_38, cnd1_eq, dX7_film_8, dX7_film_9, dX7_film_12, tg_12_31, dX7_film_15, dX7_film_16, dX7_film_17, dX7_film_18, cl_7_241, dX7_film_21, dX7_film_24, tg_24_19, dX7_film_27, dX7_film_29, dX7_film_32, tg_32_11, dX7_film_35, dX7_film_37, dX7_film_40, tg_40_5, cnd1_ne, dX7_film_43, ic_m1, dX7_film_44, dX7_film_45, dX7_film_46, dX7_film_48, dX7_film_50, dX7_film_52, dX7_film_53, dX7_film_56, dX7_film_58, dX7_film_60, tg_60_6, dX7_film_63, dX7_film_65, dX7_film_66, dX7_film_67, dX7_film_70, ic_0, dX7_film_71, dX7_film_73, dX7_film_75, dX7_film_76, tg_76_40, cnd2_ge, dX7_film_79, dX7_film_80, dX7_film_83, dX7_film_84, fl_7_35_7, dX7_film_87, bc_24, dX7_film_89, dX7_film_91, dX7_film_92, dX7_film_94, dX7_film_95, dX7_film_97, dX7_film_98, dX7_film_99, fl_7_20_7, dX7_film_102, ic_4, dX7_film_103, dX7_film_104, dX7_film_105, dX7_film_106, dX7_film_107, dX7_film_108, dX7_film_109, dX7_film_110, ic_1, dX7_film_113, tg_113_m40, dX7_film_116, dX7_film_117, jX7_film_0_107, jX7_film_1_111, jX7_film_1_63, jX7_film_1_219, jX7_film_1_222, jX7_film_0_227, jX7_film_0_122, jX7_film_0_97, st_aload_n, st_bipush, st_getfield, st_goto, st_i2l, st_iadd, st_iaload, st_iconst, st_ifCond, st_if_icmp, st_iinc, st_iload, st_iload_n, st_imul, st_invokestatic, st_invokevirtual, st_ireturn, st_istore, st_lastore, st_lconst, st_ldc2_w]
  refine ⟨fun c6 => ?_, fun c6 => ?_⟩
  · obtain ⟨-, hr, t, hψ'⟩ := hrel.resolve_left (fun t => t.1 c6)
    obtain ⟨r1, r2, r3⟩ := rfz_0 c6
    obtain ⟨I, N', k, rfl, e7, e8, e9, e10⟩ := span_n g1 r1 r3
    have hNN : N = N' := by
      rcases Nat.lt_or_ge N' (2 ^ 31) with z | z
      · exact (nI_eq (by omega) z).mp e7
      · omega
    subst hNN
    rw [nI_clamp (show p < 2 ^ 31 by omega), nI_clamp (show d < 2 ^ 31 by omega), nI_clamp (show I < 2 ^ 31 by omega), nI_clamp (show N < 2 ^ 31 by omega)] at hψ'
    have hψ2 : ψ' = filX ψ (bec t ψ.1) p d q I N := hψ'
    rw [hψ2, hr] at h
    have hL := like_bec (t := t) hP
    obtain ⟨D, hD, hJ⟩ := hL.ci pI
    have hcP : (bec t ψ.1).2.2.2.2.2.2.1 = ψ.1.2.2.2.2.2.2.1 := rfl
    generalize bec t ψ.1 = c0 at h hJ hcP hL
    rw [rfz] at c6
    generalize hrf : (if (ψ.2.2.2.2.2.2 q).2.2 = -1 then (-11 : Int32) else if w = (ψ.2.2.2.2.2.2 q).2.1 then if spn (ψ.2.2.2.2.2.2 q).2.2 (nI I) (nI N) = true then 0 else -13 else -12) = rf at c6
    obtain ⟨i1, i2⟩ := ix4 (show p < 5 by omega) hd
    have loop : ∀ m j : Nat, j + m = N → ∀ (s1 : MS) (σ1 : Hp), frm (fL lab 30) σ σ1 → Mod Γ lab (a, ad) s1 σ1 → R (filX ψ c0 p d q I j) s1 → SD s1 (daysC c0 j) → YG Γ mX7_film K 73 [(0, .ref a), (1, .int (nI p)), (2, .int (nI d)), (3, .int (nI N)), (4, .int (nI q)), (5, .int w), (6, .int (nI I)), (7, .int 0), (8, .int (nI j))] [] σ1 := by
      intro m
      induction m with
      | zero =>
        intro j hj s1 σ1 hf1 hM1 hR1 hS1
        obtain rfl : j = N := by omega
        have hk := h σ1 s1 hR1 hf1 hM1
        refine yvc1_ok (uX7_film Γ) (S := [73]) 40 ?_
        simp only [yvc1, geP, yvc_s, s1i, s2i, s1l, s2l, sil, s1r, sir, siir, slir, srir, svr, sd1, sd2, lg, lput, ldel, isL_i, isL_r, isL_l, jmp, obj, obj1, fI, fR, arI, arL, arR, hput, f4_0, f4_1, f4_2, f4_3, lc_0, lc_1, rok_i, rok_b, rok_y, strF, fput_1, fput_2, csum_nil, csum_i, csum_l, csum_r, va_up_self, bx_uu, Int.reduceAdd, List.elem_nil, List.elem_cons, List.take_succ_cons, List.take_zero, List.drop_succ_cons, List.drop_zero, List.take_nil, List.drop_nil, List.reverse_cons, List.reverse_nil, List.nil_append, List.cons_append, List.append_nil, Option.toList_some, Option.toList_none, List.getElem?_cons_zero, List.getElem?_cons_succ, List.set_cons_zero, List.set_cons_succ, List.length_cons, List.length_nil, reduceIte, reduceCtorEq, and_true, true_and, and_self, or_true, true_or, false_and, and_false, not_true_eq_false, not_false_eq_true, true_implies, false_implies, implies_true, Nat.reduceAdd, Nat.reduceLT, Nat.reduceEqDiff, Nat.reduceLeDiff, Nat.reduceBEq, Nat.zero_add, Nat.lt_add_one, Bool.false_eq_true, Bool.or_false, Bool.or_true, Bool.or_self, Nat.zero_ne_one, Nat.one_ne_zero, ite_true, ite_false, ne_eq, Nat.reduceSub, Nat.succ_eq_add_one, Nat.zero_lt_succ, Nat.add_one_ne_zero, false_or, or_false, mX7_film_c, mX7_film_n, mX7_film_r, mX7_film_l, dX7_film_0, dX7_film_1, dX7_film_2, dX7_film_5, tg_5_38, cnd1_eq, dX7_film_8, dX7_film_9, dX7_film_12, tg_12_31, dX7_film_15, dX7_film_16, dX7_film_17, dX7_film_18, cl_7_241, dX7_film_21, dX7_film_24, tg_24_19, dX7_film_27, dX7_film_29, dX7_film_32, tg_32_11, dX7_film_35, dX7_film_37, dX7_film_40, tg_40_5, cnd1_ne, dX7_film_43, ic_m1, dX7_film_44, dX7_film_45, dX7_film_46, dX7_film_48, dX7_film_50, dX7_film_52, dX7_film_53, dX7_film_56, dX7_film_58, dX7_film_60, tg_60_6, dX7_film_63, dX7_film_65, dX7_film_66, dX7_film_67, dX7_film_70, ic_0, dX7_film_71, dX7_film_73, dX7_film_75, dX7_film_76, tg_76_40, cnd2_ge, dX7_film_79, dX7_film_80, dX7_film_83, dX7_film_84, fl_7_35_7, dX7_film_87, bc_24, dX7_film_89, dX7_film_91, dX7_film_92, dX7_film_94, dX7_film_95, dX7_film_97, dX7_film_98, dX7_film_99, fl_7_20_7, dX7_film_102, ic_4, dX7_film_103, dX7_film_104, dX7_film_105, dX7_film_106, dX7_film_107, dX7_film_108, dX7_film_109, dX7_film_110, ic_1, dX7_film_113, tg_113_m40, dX7_film_116, dX7_film_117, jX7_film_0_107, jX7_film_1_111, jX7_film_1_63, jX7_film_1_219, jX7_film_1_222, jX7_film_0_227, jX7_film_0_122, jX7_film_0_97, st_aload_n, st_bipush, st_getfield, st_goto, st_i2l, st_iadd, st_iaload, st_iconst, st_ifCond, st_if_icmp, st_iinc, st_iload, st_iload_n, st_imul, st_invokestatic, st_invokevirtual, st_ireturn, st_istore, st_lastore, st_lconst, st_ldc2_w]
        exact hk
      | succ m ih =>
        intro j hj s1 σ1 hf1 hM1 hR1 hS1
        have c1 := ltN (show j < N by omega) (by omega)
        refine yvc1_ok (uX7_film Γ) (S := [73]) 40 ?_
        simp only [yvc1, c1, yvc_s, s1i, s2i, s1l, s2l, sil, s1r, sir, siir, slir, srir, svr, sd1, sd2, lg, lput, ldel, isL_i, isL_r, isL_l, jmp, obj, obj1, fI, fR, arI, arL, arR, hput, f4_0, f4_1, f4_2, f4_3, lc_0, lc_1, rok_i, rok_b, rok_y, strF, fput_1, fput_2, csum_nil, csum_i, csum_l, csum_r, va_up_self, bx_uu, Int.reduceAdd, List.elem_nil, List.elem_cons, List.take_succ_cons, List.take_zero, List.drop_succ_cons, List.drop_zero, List.take_nil, List.drop_nil, List.reverse_cons, List.reverse_nil, List.nil_append, List.cons_append, List.append_nil, Option.toList_some, Option.toList_none, List.getElem?_cons_zero, List.getElem?_cons_succ, List.set_cons_zero, List.set_cons_succ, List.length_cons, List.length_nil, reduceIte, reduceCtorEq, and_true, true_and, and_self, or_true, true_or, false_and, and_false, not_true_eq_false, not_false_eq_true, true_implies, false_implies, implies_true, Nat.reduceAdd, Nat.reduceLT, Nat.reduceEqDiff, Nat.reduceLeDiff, Nat.reduceBEq, Nat.zero_add, Nat.lt_add_one, Bool.false_eq_true, Bool.or_false, Bool.or_true, Bool.or_self, Nat.zero_ne_one, Nat.one_ne_zero, ite_true, ite_false, ne_eq, Nat.reduceSub, Nat.succ_eq_add_one, Nat.zero_lt_succ, Nat.add_one_ne_zero, false_or, or_false, mX7_film_c, mX7_film_n, mX7_film_r, mX7_film_l, dX7_film_0, dX7_film_1, dX7_film_2, dX7_film_5, tg_5_38, cnd1_eq, dX7_film_8, dX7_film_9, dX7_film_12, tg_12_31, dX7_film_15, dX7_film_16, dX7_film_17, dX7_film_18, cl_7_241, dX7_film_21, dX7_film_24, tg_24_19, dX7_film_27, dX7_film_29, dX7_film_32, tg_32_11, dX7_film_35, dX7_film_37, dX7_film_40, tg_40_5, cnd1_ne, dX7_film_43, ic_m1, dX7_film_44, dX7_film_45, dX7_film_46, dX7_film_48, dX7_film_50, dX7_film_52, dX7_film_53, dX7_film_56, dX7_film_58, dX7_film_60, tg_60_6, dX7_film_63, dX7_film_65, dX7_film_66, dX7_film_67, dX7_film_70, ic_0, dX7_film_71, dX7_film_73, dX7_film_75, dX7_film_76, tg_76_40, cnd2_ge, dX7_film_79, dX7_film_80, dX7_film_83, dX7_film_84, fl_7_35_7, dX7_film_87, bc_24, dX7_film_89, dX7_film_91, dX7_film_92, dX7_film_94, dX7_film_95, dX7_film_97, dX7_film_98, dX7_film_99, fl_7_20_7, dX7_film_102, ic_4, dX7_film_103, dX7_film_104, dX7_film_105, dX7_film_106, dX7_film_107, dX7_film_108, dX7_film_109, dX7_film_110, ic_1, dX7_film_113, tg_113_m40, dX7_film_116, dX7_film_117, jX7_film_0_107, jX7_film_1_111, jX7_film_1_63, jX7_film_1_219, jX7_film_1_222, jX7_film_0_227, jX7_film_0_122, jX7_film_0_97, st_aload_n, st_bipush, st_getfield, st_goto, st_i2l, st_iadd, st_iaload, st_iconst, st_ifCond, st_if_icmp, st_iinc, st_iload, st_iload_n, st_imul, st_invokestatic, st_invokevirtual, st_ireturn, st_istore, st_lastore, st_lconst, st_ldc2_w]
        refine ⟨daysC c0 j, lab, (a, ad), s1, rfl, hM1, ⟨hS1, dayK.n hJ (by omega) (by omega)⟩, ?_⟩
        rintro σ2 ⟨sc2, ar2, it2⟩ r2 ⟨hF2, hS2, hg2, rfl⟩ hf2 hM2
        have hR2 := hR1.fr hF2
        have hR3 := hR2.itm hq (show I + j < 24 by omega) (cutL (ψ.2.2.2.2.2.2 q).2.1 ((daysC c0 (j + 1)).1 (ix (nI p) (nI d))).toInt64)
        rw [← filX_s] at hR3
        have hJ2 := hJ.steps (j + 1)
        have hPz : (daysC c0 (j + 1)).2.2.2.2.2.2.1 = ψ.1.2.2.2.2.2.2.1 := ((daysC_eq c0 (j + 1)).2.1).trans hcP
        have hS2' : SD (sc2, ar2, it2) (daysC c0 (j + 1)) := hS2
        have hi := ih (j + 1) (by omega)
        generalize daysC c0 (j + 1) = zc at hJ2 hPz hS2' hR3 hi
        obtain ⟨wn, hwn, ew⟩ := hJ2.w (p := p) (d := d) (by rw [hPz]; exact hp) hd
        rw [ew, cut_w hwn] at hR3
        have hkp : ar2 4 (4 * p + d) = nI wn := by
          rw [← ew, ix_n (show p < 5 by omega) hd]
          exact hS2'.2.1 _ (by rw [hPz]; omega)
        obtain ⟨k1, k2⟩ := ix24k hq (show I + j < 24 by omega)
        have hj1 := hi _ _ ((hf1.tr hf2).tr hM2.frL) (hM2.putL (vp_updL it2 (24 * q + (I + j)) (nI wn).toInt64)) hR3 hS2'
        obtain ⟨⟨m1, -⟩, e1, -⟩ := id hM2
        obtain ⟨m4, e4⟩ := hM2.arr 4 rfl
        obtain ⟨m11, e11⟩ := hM2.itm
        rw [← Nat.add_assoc] at hj1
        simp only [ME, iA, lA, lenM, hput] at m1 e1 m4 e4 m11 e11 hj1
        refine yvc_ok (uX7_film Γ) (S := [73]) 60 _ _ _ _ ?_
        simp only [m1, e1, m4, e4, m11, e11, i1, i2, k1, k2, hkp, nI_1, yvc_s, s1i, s2i, s1l, s2l, sil, s1r, sir, siir, slir, srir, svr, sd1, sd2, lg, lput, ldel, isL_i, isL_r, isL_l, jmp, obj, obj1, fI, fR, arI, arL, arR, hput, f4_0, f4_1, f4_2, f4_3, lc_0, lc_1, rok_i, rok_b, rok_y, strF, fput_1, fput_2, csum_nil, csum_i, csum_l, csum_r, va_up_self, bx_uu, Int.reduceAdd, List.elem_nil, List.elem_cons, List.take_succ_cons, List.take_zero, List.drop_succ_cons, List.drop_zero, List.take_nil, List.drop_nil, List.reverse_cons, List.reverse_nil, List.nil_append, List.cons_append, List.append_nil, Option.toList_some, Option.toList_none, List.getElem?_cons_zero, List.getElem?_cons_succ, List.set_cons_zero, List.set_cons_succ, List.length_cons, List.length_nil, reduceIte, reduceCtorEq, and_true, true_and, and_self, or_true, true_or, false_and, and_false, not_true_eq_false, not_false_eq_true, true_implies, false_implies, implies_true, Nat.reduceAdd, Nat.reduceLT, Nat.reduceEqDiff, Nat.reduceLeDiff, Nat.reduceBEq, Nat.zero_add, Nat.lt_add_one, Bool.false_eq_true, Bool.or_false, Bool.or_true, Bool.or_self, Nat.zero_ne_one, Nat.one_ne_zero, ite_true, ite_false, ne_eq, Nat.reduceSub, Nat.succ_eq_add_one, Nat.zero_lt_succ, Nat.add_one_ne_zero, false_or, or_false, mX7_film_c, mX7_film_n, mX7_film_r, mX7_film_l, dX7_film_0, dX7_film_1, dX7_film_2, dX7_film_5, tg_5_38, cnd1_eq, dX7_film_8, dX7_film_9, dX7_film_12, tg_12_31, dX7_film_15, dX7_film_16, dX7_film_17, dX7_film_18, cl_7_241, dX7_film_21, dX7_film_24, tg_24_19, dX7_film_27, dX7_film_29, dX7_film_32, tg_32_11, dX7_film_35, dX7_film_37, dX7_film_40, tg_40_5, cnd1_ne, dX7_film_43, ic_m1, dX7_film_44, dX7_film_45, dX7_film_46, dX7_film_48, dX7_film_50, dX7_film_52, dX7_film_53, dX7_film_56, dX7_film_58, dX7_film_60, tg_60_6, dX7_film_63, dX7_film_65, dX7_film_66, dX7_film_67, dX7_film_70, ic_0, dX7_film_71, dX7_film_73, dX7_film_75, dX7_film_76, tg_76_40, cnd2_ge, dX7_film_79, dX7_film_80, dX7_film_83, dX7_film_84, fl_7_35_7, dX7_film_87, bc_24, dX7_film_89, dX7_film_91, dX7_film_92, dX7_film_94, dX7_film_95, dX7_film_97, dX7_film_98, dX7_film_99, fl_7_20_7, dX7_film_102, ic_4, dX7_film_103, dX7_film_104, dX7_film_105, dX7_film_106, dX7_film_107, dX7_film_108, dX7_film_109, dX7_film_110, ic_1, dX7_film_113, tg_113_m40, dX7_film_116, dX7_film_117, jX7_film_0_107, jX7_film_1_111, jX7_film_1_63, jX7_film_1_219, jX7_film_1_222, jX7_film_0_227, jX7_film_0_122, jX7_film_0_97, st_aload_n, st_bipush, st_getfield, st_goto, st_i2l, st_iadd, st_iaload, st_iconst, st_ifCond, st_if_icmp, st_iinc, st_iload, st_iload_n, st_imul, st_invokestatic, st_invokevirtual, st_ireturn, st_istore, st_lastore, st_lconst, st_ldc2_w]
        exact hj1
    have hS1 := hR.sd hL
    refine yvc1_ok (uX7_film Γ) (S := [66]) 60 ?_
    simp only [yvc1, yvc_s, s1i, s2i, s1l, s2l, sil, s1r, sir, siir, slir, srir, svr, sd1, sd2, lg, lput, ldel, isL_i, isL_r, isL_l, jmp, obj, obj1, fI, fR, arI, arL, arR, hput, f4_0, f4_1, f4_2, f4_3, lc_0, lc_1, rok_i, rok_b, rok_y, strF, fput_1, fput_2, csum_nil, csum_i, csum_l, csum_r, va_up_self, bx_uu, Int.reduceAdd, List.elem_nil, List.elem_cons, List.take_succ_cons, List.take_zero, List.drop_succ_cons, List.drop_zero, List.take_nil, List.drop_nil, List.reverse_cons, List.reverse_nil, List.nil_append, List.cons_append, List.append_nil, Option.toList_some, Option.toList_none, List.getElem?_cons_zero, List.getElem?_cons_succ, List.set_cons_zero, List.set_cons_succ, List.length_cons, List.length_nil, reduceIte, reduceCtorEq, and_true, true_and, and_self, or_true, true_or, false_and, and_false, not_true_eq_false, not_false_eq_true, true_implies, false_implies, implies_true, Nat.reduceAdd, Nat.reduceLT, Nat.reduceEqDiff, Nat.reduceLeDiff, Nat.reduceBEq, Nat.zero_add, Nat.lt_add_one, Bool.false_eq_true, Bool.or_false, Bool.or_true, Bool.or_self, Nat.zero_ne_one, Nat.one_ne_zero, ite_true, ite_false, ne_eq, Nat.reduceSub, Nat.succ_eq_add_one, Nat.zero_lt_succ, Nat.add_one_ne_zero, false_or, or_false, mX7_film_c, mX7_film_n, mX7_film_r, mX7_film_l, dX7_film_0, dX7_film_1, dX7_film_2, dX7_film_5, tg_5_38, cnd1_eq, dX7_film_8, dX7_film_9, dX7_film_12, tg_12_31, dX7_film_15, dX7_film_16, dX7_film_17, dX7_film_18, cl_7_241, dX7_film_21, dX7_film_24, tg_24_19, dX7_film_27, dX7_film_29, dX7_film_32, tg_32_11, dX7_film_35, dX7_film_37, dX7_film_40, tg_40_5, cnd1_ne, dX7_film_43, ic_m1, dX7_film_44, dX7_film_45, dX7_film_46, dX7_film_48, dX7_film_50, dX7_film_52, dX7_film_53, dX7_film_56, dX7_film_58, dX7_film_60, tg_60_6, dX7_film_63, dX7_film_65, dX7_film_66, dX7_film_67, dX7_film_70, ic_0, dX7_film_71, dX7_film_73, dX7_film_75, dX7_film_76, tg_76_40, cnd2_ge, dX7_film_79, dX7_film_80, dX7_film_83, dX7_film_84, fl_7_35_7, dX7_film_87, bc_24, dX7_film_89, dX7_film_91, dX7_film_92, dX7_film_94, dX7_film_95, dX7_film_97, dX7_film_98, dX7_film_99, fl_7_20_7, dX7_film_102, ic_4, dX7_film_103, dX7_film_104, dX7_film_105, dX7_film_106, dX7_film_107, dX7_film_108, dX7_film_109, dX7_film_110, ic_1, dX7_film_113, tg_113_m40, dX7_film_116, dX7_film_117, jX7_film_0_107, jX7_film_1_111, jX7_film_1_63, jX7_film_1_219, jX7_film_1_222, jX7_film_0_227, jX7_film_0_122, jX7_film_0_97, st_aload_n, st_bipush, st_getfield, st_goto, st_i2l, st_iadd, st_iaload, st_iconst, st_ifCond, st_if_icmp, st_iinc, st_iload, st_iload_n, st_imul, st_invokestatic, st_invokevirtual, st_ireturn, st_istore, st_lastore, st_lconst, st_ldc2_w]
    refine ⟨lab, (a, ad), _, rfl, hM, trivial, ?_⟩
    rintro σ1 s1 r1 ⟨rfl, rfl⟩ hf1 hM1
    have hl := loop N 0 (by omega) _ σ1 hf1 hM1 (by rw [filX_0]; exact hR.asd) hS1
    refine yvc_ok (uX7_film Γ) (S := [73]) 60 _ _ _ _ ?_
    simp only [yvc_s, s1i, s2i, s1l, s2l, sil, s1r, sir, siir, slir, srir, svr, sd1, sd2, lg, lput, ldel, isL_i, isL_r, isL_l, jmp, obj, obj1, fI, fR, arI, arL, arR, hput, f4_0, f4_1, f4_2, f4_3, lc_0, lc_1, rok_i, rok_b, rok_y, strF, fput_1, fput_2, csum_nil, csum_i, csum_l, csum_r, va_up_self, bx_uu, Int.reduceAdd, List.elem_nil, List.elem_cons, List.take_succ_cons, List.take_zero, List.drop_succ_cons, List.drop_zero, List.take_nil, List.drop_nil, List.reverse_cons, List.reverse_nil, List.nil_append, List.cons_append, List.append_nil, Option.toList_some, Option.toList_none, List.getElem?_cons_zero, List.getElem?_cons_succ, List.set_cons_zero, List.set_cons_succ, List.length_cons, List.length_nil, reduceIte, reduceCtorEq, and_true, true_and, and_self, or_true, true_or, false_and, and_false, not_true_eq_false, not_false_eq_true, true_implies, false_implies, implies_true, Nat.reduceAdd, Nat.reduceLT, Nat.reduceEqDiff, Nat.reduceLeDiff, Nat.reduceBEq, Nat.zero_add, Nat.lt_add_one, Bool.false_eq_true, Bool.or_false, Bool.or_true, Bool.or_self, Nat.zero_ne_one, Nat.one_ne_zero, ite_true, ite_false, ne_eq, Nat.reduceSub, Nat.succ_eq_add_one, Nat.zero_lt_succ, Nat.add_one_ne_zero, false_or, or_false, mX7_film_c, mX7_film_n, mX7_film_r, mX7_film_l, dX7_film_0, dX7_film_1, dX7_film_2, dX7_film_5, tg_5_38, cnd1_eq, dX7_film_8, dX7_film_9, dX7_film_12, tg_12_31, dX7_film_15, dX7_film_16, dX7_film_17, dX7_film_18, cl_7_241, dX7_film_21, dX7_film_24, tg_24_19, dX7_film_27, dX7_film_29, dX7_film_32, tg_32_11, dX7_film_35, dX7_film_37, dX7_film_40, tg_40_5, cnd1_ne, dX7_film_43, ic_m1, dX7_film_44, dX7_film_45, dX7_film_46, dX7_film_48, dX7_film_50, dX7_film_52, dX7_film_53, dX7_film_56, dX7_film_58, dX7_film_60, tg_60_6, dX7_film_63, dX7_film_65, dX7_film_66, dX7_film_67, dX7_film_70, ic_0, dX7_film_71, dX7_film_73, dX7_film_75, dX7_film_76, tg_76_40, cnd2_ge, dX7_film_79, dX7_film_80, dX7_film_83, dX7_film_84, fl_7_35_7, dX7_film_87, bc_24, dX7_film_89, dX7_film_91, dX7_film_92, dX7_film_94, dX7_film_95, dX7_film_97, dX7_film_98, dX7_film_99, fl_7_20_7, dX7_film_102, ic_4, dX7_film_103, dX7_film_104, dX7_film_105, dX7_film_106, dX7_film_107, dX7_film_108, dX7_film_109, dX7_film_110, ic_1, dX7_film_113, tg_113_m40, dX7_film_116, dX7_film_117, jX7_film_0_107, jX7_film_1_111, jX7_film_1_63, jX7_film_1_219, jX7_film_1_222, jX7_film_0_227, jX7_film_0_122, jX7_film_0_97, st_aload_n, st_bipush, st_getfield, st_goto, st_i2l, st_iadd, st_iaload, st_iconst, st_ifCond, st_if_icmp, st_iinc, st_iload, st_iload_n, st_imul, st_invokestatic, st_invokevirtual, st_ireturn, st_istore, st_lastore, st_lconst, st_ldc2_w]
    have hrf0 : rfz (ψ.2.2.2.2.2.2 q).2.1 (ψ.2.2.2.2.2.2 q).2.2 w (nI I) (nI N) = 0 := by rw [rfz, hrf]; exact c6
    rw [hrf0]
    exact hl
  · obtain ⟨-, h1, h2⟩ := hrel.resolve_right (fun t => c6 t.1)
    rw [h1, h2] at h
    exact h _ _ hR frm.rf hM
/-! told -/
def sp_X7_isTold (Γ : Cx) : YSp := fun av σ K => ∃ (p d q I n : Nat) (c : CS) (t : Nat → Int64), mq Γ [.int (nI p), .int (nI d), .int (nI q), .int (nI I), .int (nI n)] (fun s => SD s c ∧ dayS c ∧ p < c.2.2.2.2.2.2.1 ∧ d < 4 ∧ q < 4 ∧ I + n ≤ 24 ∧ ∀ k, k < n → s.2.2 (24 * q + I + k) = t (I + k)) (fun s s' r => SFr s s' ∧ r = some (.int (bI (tlB c t (nI p) (nI d) I n 0)))) av σ K
theorem rv_X7_isTold {Γ : Cx} : Recv (sp_X7_isTold Γ) 5 7 := by
  intro av σ K h
  obtain ⟨p, d, q, I, n, c, t, h⟩ := h
  obtain ⟨q, fs, h1, h2, h3⟩ := rv_mq h
  exact ⟨q, _, fs, h1, rfl, h2, h3⟩
theorem tg_10_55 : tgo 10 55 = some 65 := by decide
theorem tg_19_37 : tgo 19 37 = some 56 := by decide
theorem tg_49_7 : tgo 49 7 = some 56 := by decide
theorem tg_53_4 : tgo 53 4 = some 57 := by decide
theorem tg_62_m56 : tgo 62 (-56) = some 6 := by decide
def mX7_isTold : Mt := (⟨3, 0, 0, 69⟩, RX7, cX7_isTold, 8, some .boolean, (0, 0), none)
theorem mX7_isTold_c : mX7_isTold.2.2.1 = cX7_isTold := rfl
theorem mX7_isTold_n : mX7_isTold.2.2.2.1 = 8 := rfl
theorem mX7_isTold_r : mX7_isTold.2.2.2.2.1 = some .boolean := rfl
theorem mX7_isTold_l : mX7_isTold.2.2.2.2.2.2 = none := rfl
def jX7_isTold (Γ : Cx) : List ((Nat × Nat) × Nat × Bool × YSp) := [((0, 97), 1, false, sp_X7_goDay Γ)]
theorem jX7_isTold_0_97 (Γ : Cx) : kT (jX7_isTold Γ) 0 97 = some (1, false, sp_X7_goDay Γ) := rfl
theorem uX7_isTold (Γ : Cx) : TbOK Γ mX7_isTold (fT fX7, cT kX7, kT (jX7_isTold Γ)) := tb_ok fX7_ok kX7_ok (all_cons ⟨call_V (n := 0) (T := TX7) (N := 26) (ok_X7_goDay Γ) (rv_X7_goDay (Γ := Γ)) rfl bw_916 bw_913 bw_915 bw_30 bw_49 no_X7_goDay ⟨⟨rfl, rfl⟩, ⟨by decide, by decide⟩, ⟨by decide, by decide⟩⟩, fun z => by cases z⟩ (all_nil))
set_option maxRecDepth 20000 in
theorem ok_X7_isTold (Γ : Cx) : Ok Γ yX7_isTold mX7_isTold (sp_X7_isTold Γ) := by
  refine ok_intro (by decide +kernel) rfl rfl ?_
  intro av σ K h
  obtain ⟨p, d, q, I, N, c, t, lab, ⟨a, ad⟩, s, rfl, hM, ⟨hS, ⟨D, hJ, hD⟩, hp, hd, hq, hI, ht⟩, h⟩ := h
  simp only at h
  have hp5 : p < 5 := by have := hJ.1.1; omega
  obtain ⟨i1, i2⟩ := ix4 hp5 hd
  have loop : ∀ m j : Nat, ∀ (b : Bool) (s1 : MS) (σ1 : Hp), j + m = N → frm (fL lab 30) σ σ1 → Mod Γ lab (a, ad) s1 σ1 → SFr s s1 → SD s1 (daysC c j) → (b && tlB c t (nI p) (nI d) I m j) = tlB c t (nI p) (nI d) I N 0 → YG Γ mX7_isTold K 6 [(0, .ref a), (1, .int (nI p)), (2, .int (nI d)), (3, .int (nI q)), (4, .int (nI I)), (5, .int (nI N)), (6, .int (bI b)), (7, .int (nI j))] [] σ1 := by
    intro m
    induction m with
    | zero =>
      intro j b s1 σ1 hj hf1 hM1 hF1 hS1 hb
      obtain rfl : j = N := by omega
      rw [tlB, Bool.and_true] at hb
      have hk := h σ1 s1 _ ⟨hF1, rfl⟩ hf1 hM1
      rw [← hb] at hk
      refine yvc1_ok (uX7_isTold Γ) (S := [6]) 40 ?_
      simp only [yvc1, geP, yvc_s, s1i, s2i, s1l, s2l, sil, s1r, sir, siir, slir, srir, svr, sd1, sd2, lg, lput, ldel, isL_i, isL_r, isL_l, jmp, obj, obj1, fI, fR, arI, arL, arR, hput, f4_0, f4_1, f4_2, f4_3, lc_0, lc_1, rok_i, rok_b, rok_y, strF, fput_1, fput_2, csum_nil, csum_i, csum_l, csum_r, va_up_self, bx_uu, Int.reduceAdd, List.elem_nil, List.elem_cons, List.take_succ_cons, List.take_zero, List.drop_succ_cons, List.drop_zero, List.take_nil, List.drop_nil, List.reverse_cons, List.reverse_nil, List.nil_append, List.cons_append, List.append_nil, Option.toList_some, Option.toList_none, List.getElem?_cons_zero, List.getElem?_cons_succ, List.set_cons_zero, List.set_cons_succ, List.length_cons, List.length_nil, reduceIte, reduceCtorEq, and_true, true_and, and_self, or_true, true_or, false_and, and_false, not_true_eq_false, not_false_eq_true, true_implies, false_implies, implies_true, Nat.reduceAdd, Nat.reduceLT, Nat.reduceEqDiff, Nat.reduceLeDiff, Nat.reduceBEq, Nat.zero_add, Nat.lt_add_one, Bool.false_eq_true, Bool.or_false, Bool.or_true, Bool.or_self, Nat.zero_ne_one, Nat.one_ne_zero, ite_true, ite_false, ne_eq, Nat.reduceSub, Nat.succ_eq_add_one, Nat.zero_lt_succ, Nat.add_one_ne_zero, false_or, or_false, mX7_isTold_c, mX7_isTold_n, mX7_isTold_r, mX7_isTold_l, dX7_isTold_0, ic_1, dX7_isTold_1, dX7_isTold_3, ic_0, dX7_isTold_4, dX7_isTold_6, dX7_isTold_8, dX7_isTold_10, tg_10_55, cnd2_ge, dX7_isTold_13, dX7_isTold_14, dX7_isTold_17, dX7_isTold_19, tg_19_37, cnd1_eq, dX7_isTold_22, dX7_isTold_23, fl_7_35_7, dX7_isTold_26, bc_24, dX7_isTold_28, dX7_isTold_29, dX7_isTold_30, dX7_isTold_32, dX7_isTold_33, dX7_isTold_35, dX7_isTold_36, dX7_isTold_37, dX7_isTold_38, fl_7_20_7, dX7_isTold_41, ic_4, dX7_isTold_42, dX7_isTold_43, dX7_isTold_44, dX7_isTold_45, dX7_isTold_46, dX7_isTold_47, dX7_isTold_48, dX7_isTold_49, tg_49_7, cnd1_ne, dX7_isTold_52, dX7_isTold_53, tg_53_4, dX7_isTold_56, dX7_isTold_57, dX7_isTold_59, dX7_isTold_62, tg_62_m56, dX7_isTold_65, dX7_isTold_67, jX7_isTold_0_97, st_aload_n, st_bipush, st_getfield, st_goto, st_i2l, st_iadd, st_iaload, st_iconst, st_ifCond, st_if_icmp, st_iinc, st_iload, st_iload_n, st_imul, st_invokevirtual, st_ireturn, st_istore, st_laload, st_lcmp]
      exact ⟨bI_01, hk⟩
    | succ m ih =>
      intro j b s1 σ1 hj hf1 hM1 hF1 hS1 hb
      have c1 := ltN (show j < N by omega) (by omega)
      refine yvc1_ok (uX7_isTold Γ) (S := [6]) 40 ?_
      simp only [yvc1, c1, yvc_s, s1i, s2i, s1l, s2l, sil, s1r, sir, siir, slir, srir, svr, sd1, sd2, lg, lput, ldel, isL_i, isL_r, isL_l, jmp, obj, obj1, fI, fR, arI, arL, arR, hput, f4_0, f4_1, f4_2, f4_3, lc_0, lc_1, rok_i, rok_b, rok_y, strF, fput_1, fput_2, csum_nil, csum_i, csum_l, csum_r, va_up_self, bx_uu, Int.reduceAdd, List.elem_nil, List.elem_cons, List.take_succ_cons, List.take_zero, List.drop_succ_cons, List.drop_zero, List.take_nil, List.drop_nil, List.reverse_cons, List.reverse_nil, List.nil_append, List.cons_append, List.append_nil, Option.toList_some, Option.toList_none, List.getElem?_cons_zero, List.getElem?_cons_succ, List.set_cons_zero, List.set_cons_succ, List.length_cons, List.length_nil, reduceIte, reduceCtorEq, and_true, true_and, and_self, or_true, true_or, false_and, and_false, not_true_eq_false, not_false_eq_true, true_implies, false_implies, implies_true, Nat.reduceAdd, Nat.reduceLT, Nat.reduceEqDiff, Nat.reduceLeDiff, Nat.reduceBEq, Nat.zero_add, Nat.lt_add_one, Bool.false_eq_true, Bool.or_false, Bool.or_true, Bool.or_self, Nat.zero_ne_one, Nat.one_ne_zero, ite_true, ite_false, ne_eq, Nat.reduceSub, Nat.succ_eq_add_one, Nat.zero_lt_succ, Nat.add_one_ne_zero, false_or, or_false, mX7_isTold_c, mX7_isTold_n, mX7_isTold_r, mX7_isTold_l, dX7_isTold_0, ic_1, dX7_isTold_1, dX7_isTold_3, ic_0, dX7_isTold_4, dX7_isTold_6, dX7_isTold_8, dX7_isTold_10, tg_10_55, cnd2_ge, dX7_isTold_13, dX7_isTold_14, dX7_isTold_17, dX7_isTold_19, tg_19_37, cnd1_eq, dX7_isTold_22, dX7_isTold_23, fl_7_35_7, dX7_isTold_26, bc_24, dX7_isTold_28, dX7_isTold_29, dX7_isTold_30, dX7_isTold_32, dX7_isTold_33, dX7_isTold_35, dX7_isTold_36, dX7_isTold_37, dX7_isTold_38, fl_7_20_7, dX7_isTold_41, ic_4, dX7_isTold_42, dX7_isTold_43, dX7_isTold_44, dX7_isTold_45, dX7_isTold_46, dX7_isTold_47, dX7_isTold_48, dX7_isTold_49, tg_49_7, cnd1_ne, dX7_isTold_52, dX7_isTold_53, tg_53_4, dX7_isTold_56, dX7_isTold_57, dX7_isTold_59, dX7_isTold_62, tg_62_m56, dX7_isTold_65, dX7_isTold_67, jX7_isTold_0_97, st_aload_n, st_bipush, st_getfield, st_goto, st_i2l, st_iadd, st_iaload, st_iconst, st_ifCond, st_if_icmp, st_iinc, st_iload, st_iload_n, st_imul, st_invokevirtual, st_ireturn, st_istore, st_laload, st_lcmp]
      refine ⟨daysC c j, lab, (a, ad), s1, rfl, hM1, ⟨hS1, dayK.n hJ (by omega) (by omega)⟩, ?_⟩
      rintro σ2 ⟨sc2, ar2, it2⟩ r2 ⟨hF2, hS2, hg2, rfl⟩ hf2 hM2
      rw [tlB] at hb
      have hPz := (daysC_eq c (j + 1)).2.1
      have hS2' : SD (sc2, ar2, it2) (daysC c (j + 1)) := hS2
      have hi := fun b' => ih (j + 1) b' (sc2, ar2, it2) σ2 (by omega) (hf1.tr hf2) hM2 (hF1.tr hF2) hS2'
      generalize daysC c (j + 1) = zc at hPz hS2' hb hi
      have hkp : ar2 4 (4 * p + d) = zc.1 (4 * p + d) := hS2'.2.1 _ (by rw [hPz]; omega)
      have hit : it2 (24 * q + I + j) = t (I + j) := by
        have := (hF1.tr hF2).1
        simp only at this
        rw [this]
        exact ht j (by omega)
      rw [ix_n hp5 hd] at hb
      obtain ⟨k1, k2⟩ := ix24k hq (show I + j < 24 by omega)
      obtain ⟨⟨m1, -⟩, e1, -⟩ := id hM2
      obtain ⟨m4, e4⟩ := hM2.arr 4 rfl
      obtain ⟨m11, e11⟩ := hM2.itm
      simp only [ME, iA, lA, lenM] at m1 e1 m4 e4 m11 e11
      refine yvc_ok (uX7_isTold Γ) (S := [6]) 60 _ _ _ _ ?_
      simp only [m1, e1, m4, e4, m11, e11, i1, i2, k1, k2, hkp, hit, lg_cmp_eq, bI_eq0, Bool.not_eq_false, nI_1, yvc_s, s1i, s2i, s1l, s2l, sil, s1r, sir, siir, slir, srir, svr, sd1, sd2, lg, lput, ldel, isL_i, isL_r, isL_l, jmp, obj, obj1, fI, fR, arI, arL, arR, hput, f4_0, f4_1, f4_2, f4_3, lc_0, lc_1, rok_i, rok_b, rok_y, strF, fput_1, fput_2, csum_nil, csum_i, csum_l, csum_r, va_up_self, bx_uu, Int.reduceAdd, List.elem_nil, List.elem_cons, List.take_succ_cons, List.take_zero, List.drop_succ_cons, List.drop_zero, List.take_nil, List.drop_nil, List.reverse_cons, List.reverse_nil, List.nil_append, List.cons_append, List.append_nil, Option.toList_some, Option.toList_none, List.getElem?_cons_zero, List.getElem?_cons_succ, List.set_cons_zero, List.set_cons_succ, List.length_cons, List.length_nil, reduceIte, reduceCtorEq, and_true, true_and, and_self, or_true, true_or, false_and, and_false, not_true_eq_false, not_false_eq_true, true_implies, false_implies, implies_true, Nat.reduceAdd, Nat.reduceLT, Nat.reduceEqDiff, Nat.reduceLeDiff, Nat.reduceBEq, Nat.zero_add, Nat.lt_add_one, Bool.false_eq_true, Bool.or_false, Bool.or_true, Bool.or_self, Nat.zero_ne_one, Nat.one_ne_zero, ite_true, ite_false, ne_eq, Nat.reduceSub, Nat.succ_eq_add_one, Nat.zero_lt_succ, Nat.add_one_ne_zero, false_or, or_false, mX7_isTold_c, mX7_isTold_n, mX7_isTold_r, mX7_isTold_l, dX7_isTold_0, ic_1, dX7_isTold_1, dX7_isTold_3, ic_0, dX7_isTold_4, dX7_isTold_6, dX7_isTold_8, dX7_isTold_10, tg_10_55, cnd2_ge, dX7_isTold_13, dX7_isTold_14, dX7_isTold_17, dX7_isTold_19, tg_19_37, cnd1_eq, dX7_isTold_22, dX7_isTold_23, fl_7_35_7, dX7_isTold_26, bc_24, dX7_isTold_28, dX7_isTold_29, dX7_isTold_30, dX7_isTold_32, dX7_isTold_33, dX7_isTold_35, dX7_isTold_36, dX7_isTold_37, dX7_isTold_38, fl_7_20_7, dX7_isTold_41, ic_4, dX7_isTold_42, dX7_isTold_43, dX7_isTold_44, dX7_isTold_45, dX7_isTold_46, dX7_isTold_47, dX7_isTold_48, dX7_isTold_49, tg_49_7, cnd1_ne, dX7_isTold_52, dX7_isTold_53, tg_53_4, dX7_isTold_56, dX7_isTold_57, dX7_isTold_59, dX7_isTold_62, tg_62_m56, dX7_isTold_65, dX7_isTold_67, jX7_isTold_0_97, st_aload_n, st_bipush, st_getfield, st_goto, st_i2l, st_iadd, st_iaload, st_iconst, st_ifCond, st_if_icmp, st_iinc, st_iload, st_iload_n, st_imul, st_invokevirtual, st_ireturn, st_istore, st_laload, st_lcmp]
      refine ⟨fun z => ?_, fun z => ⟨fun w => ?_, fun w => ?_⟩⟩
      · refine hi false ?_
        rw [z, Bool.false_and] at hb
        rw [Bool.false_and]; exact hb
      · refine hi false ?_
        rw [decide_eq_false w, Bool.false_and, Bool.and_false] at hb
        rw [Bool.false_and]; exact hb
      · refine hi true ?_
        rw [z, decide_eq_true (Classical.not_not.mp w), Bool.true_and, Bool.true_and] at hb
        rw [Bool.true_and]; exact hb
  have hl := loop N 0 true s σ (by omega) frm.rf hM SFr.rf hS (by rw [Bool.true_and])
  refine ⟨Nat.le_of_ble_eq_true rfl, yvc_ok (uX7_isTold Γ) (S := [6]) 60 _ _ _ _ ?_⟩
  simp only [lv_args, Value.category, yvc_s, s1i, s2i, s1l, s2l, sil, s1r, sir, siir, slir, srir, svr, sd1, sd2, lg, lput, ldel, isL_i, isL_r, isL_l, jmp, obj, obj1, fI, fR, arI, arL, arR, hput, f4_0, f4_1, f4_2, f4_3, lc_0, lc_1, rok_i, rok_b, rok_y, strF, fput_1, fput_2, csum_nil, csum_i, csum_l, csum_r, va_up_self, bx_uu, Int.reduceAdd, List.elem_nil, List.elem_cons, List.take_succ_cons, List.take_zero, List.drop_succ_cons, List.drop_zero, List.take_nil, List.drop_nil, List.reverse_cons, List.reverse_nil, List.nil_append, List.cons_append, List.append_nil, Option.toList_some, Option.toList_none, List.getElem?_cons_zero, List.getElem?_cons_succ, List.set_cons_zero, List.set_cons_succ, List.length_cons, List.length_nil, reduceIte, reduceCtorEq, and_true, true_and, and_self, or_true, true_or, false_and, and_false, not_true_eq_false, not_false_eq_true, true_implies, false_implies, implies_true, Nat.reduceAdd, Nat.reduceLT, Nat.reduceEqDiff, Nat.reduceLeDiff, Nat.reduceBEq, Nat.zero_add, Nat.lt_add_one, Bool.false_eq_true, Bool.or_false, Bool.or_true, Bool.or_self, Nat.zero_ne_one, Nat.one_ne_zero, ite_true, ite_false, ne_eq, Nat.reduceSub, Nat.succ_eq_add_one, Nat.zero_lt_succ, Nat.add_one_ne_zero, false_or, or_false, mX7_isTold_c, mX7_isTold_n, mX7_isTold_r, mX7_isTold_l, dX7_isTold_0, ic_1, dX7_isTold_1, dX7_isTold_3, ic_0, dX7_isTold_4, dX7_isTold_6, dX7_isTold_8, dX7_isTold_10, tg_10_55, cnd2_ge, dX7_isTold_13, dX7_isTold_14, dX7_isTold_17, dX7_isTold_19, tg_19_37, cnd1_eq, dX7_isTold_22, dX7_isTold_23, fl_7_35_7, dX7_isTold_26, bc_24, dX7_isTold_28, dX7_isTold_29, dX7_isTold_30, dX7_isTold_32, dX7_isTold_33, dX7_isTold_35, dX7_isTold_36, dX7_isTold_37, dX7_isTold_38, fl_7_20_7, dX7_isTold_41, ic_4, dX7_isTold_42, dX7_isTold_43, dX7_isTold_44, dX7_isTold_45, dX7_isTold_46, dX7_isTold_47, dX7_isTold_48, dX7_isTold_49, tg_49_7, cnd1_ne, dX7_isTold_52, dX7_isTold_53, tg_53_4, dX7_isTold_56, dX7_isTold_57, dX7_isTold_59, dX7_isTold_62, tg_62_m56, dX7_isTold_65, dX7_isTold_67, jX7_isTold_0_97, st_aload_n, st_bipush, st_getfield, st_goto, st_i2l, st_iadd, st_iaload, st_iconst, st_ifCond, st_if_icmp, st_iinc, st_iload, st_iload_n, st_imul, st_invokevirtual, st_ireturn, st_istore, st_laload, st_lcmp]
  exact hl
