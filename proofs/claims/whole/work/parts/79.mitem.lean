/-! ===== YawnKeysModel: item, copy, film ===== -/
theorem k56 : (56 : Int32).toInt64 &&& 63 = 56 := by decide
theorem k48 : (48 : Int32).toInt64 &&& 63 = 48 := by decide
theorem k32 : (32 : Int32).toInt64 &&& 63 = 32 := by decide
theorem shN {v k : Int64} {n : Nat} (hk : k.toBitVec.smod 64 = BitVec.ofNat 64 n) (hn : n < 64) : ((v <<< k) >>> k).toInt = (v.toBitVec.toNat * 2 ^ n : Int).bmod (2 ^ 64) / 2 ^ n := by
  have e : ((v <<< k) >>> k).toBitVec = (v.toBitVec <<< n).sshiftRight n := by
    rw [Int64.toBitVec_shiftRight, Int64.toBitVec_shiftLeft, hk]
    have e2 : (BitVec.ofNat 64 n).toNat = n := by rw [BitVec.toNat_ofNat]; omega
    show BitVec.sshiftRight (v.toBitVec <<< (BitVec.ofNat 64 n).toNat) (BitVec.ofNat 64 n).toNat = _
    rw [e2]
  rw [← Int64.toInt_toBitVec, e, BitVec.toInt_sshiftRight, BitVec.toInt_shiftLeft, Int.shiftRight_eq_div_pow, Nat.shiftLeft_eq]
  push_cast
  rfl
theorem cut56 (v : Int64) : (v <<< 56) >>> 56 = v.toInt32.toInt8.toInt32.toInt64 := by
  apply Int64.toInt_inj.mp
  rw [shN (n := 56) (by decide) (by decide), Int32.toInt_toInt64, Int8.toInt_toInt32, Int32.toInt_toInt8, Int64.toInt_toInt32, ← Int64.toInt_toBitVec, BitVec.toInt_eq_toNat_bmod]
  generalize v.toBitVec.toNat = n
  simp only [Int.bmod_def]
  omega
theorem cut48 (v : Int64) : (v <<< 48) >>> 48 = v.toInt32.toInt16.toInt32.toInt64 := by
  apply Int64.toInt_inj.mp
  rw [shN (n := 48) (by decide) (by decide), Int32.toInt_toInt64, Int16.toInt_toInt32, Int32.toInt_toInt16, Int64.toInt_toInt32, ← Int64.toInt_toBitVec, BitVec.toInt_eq_toNat_bmod]
  generalize v.toBitVec.toNat = n
  simp only [Int.bmod_def]
  omega
theorem cut32 (v : Int64) : (v <<< 32) >>> 32 = v.toInt32.toInt64 := by
  apply Int64.toInt_inj.mp
  rw [shN (n := 32) (by decide) (by decide), Int32.toInt_toInt64, Int64.toInt_toInt32, ← Int64.toInt_toBitVec, BitVec.toInt_eq_toNat_bmod]
  generalize v.toBitVec.toNat = n
  simp only [Int.bmod_def]
  omega
/-- one item changes -/
theorem RS.itm {ss : Nat → SS} {ln sz : Nat → Int32} {it : Nat → Int64} (h : RS ss ln sz it) {q I : Nat} (hq : q < 4) (hI : I < 24) (v : Int64) : RS (updS ss q (vp_updL (ss q).1 I v, (ss q).2)) ln sz (vp_updL it (24 * q + I) v) := by
  intro j hj
  obtain ⟨g1, g2, g3, g4⟩ := h j hj
  by_cases e : j = q
  · subst e
    rw [updS_at]
    refine ⟨g1, g2, g3, fun k i hk hkn hi => ?_⟩
    show vp_updL it (24 * j + I) v (24 * j + i) = vp_updL (ss j).1 I v i
    by_cases c : i = I
    · subst c; rw [updL_s, updL_s]
    · rw [updL_n c, updL_n (by omega)]
      exact g4 k i hk hkn hi
  · rw [updS_n e]
    refine ⟨g1, g2, g3, fun k i hk hkn hi => ?_⟩
    rw [updL_n (by omega)]
    exact g4 k i hk hkn hi
theorem R.itm {ψ : XS} {s : MS} (h : R ψ s) {q I : Nat} (hq : q < 4) (hI : I < 24) (v : Int64) : R (setS ψ q (vp_updL (ψ.2.2.2.2.2.2 q).1 I v, (ψ.2.2.2.2.2.2 q).2)) (s.1, s.2.1, vp_updL s.2.2 (24 * q + I) v) := by
  unfold setS
  exact h.upS (ar := s.2.1) (fun _ _ _ => rfl) (h.2.2.2.2.itm hq hI v)
def sp_X7_item (Γ : Cx) : YSp := fun av σ K => ∃ (x y z : Int32) (v : Int64), mo Γ [.int x, .int y, .int z, .long v] (fn (x_item x y z v)) av σ K
theorem rv_X7_item {Γ : Cx} : Recv (sp_X7_item Γ) 4 7 := by
  intro av σ K h
  obtain ⟨x, y, z, v, h⟩ := h
  obtain ⟨q, fs, h1, h2, h3⟩ := rv_mo h
  exact ⟨q, _, fs, h1, rfl, h2, h3⟩
theorem bw_1023 : Cond.code yX7_lacks cX7_lacks 5 (some .int) ∈ BW := bw_i 1023 (by decide +kernel) (by decide +kernel)
theorem no_X7_lacks : NameOK yX7_lacks 4 := by unfold NameOK; decide +kernel
theorem bw_1020 : Cond.methodLink RX7 227 yX7_lacks ∈ BW := bw_i 1020 (by decide +kernel) (by decide +kernel)
theorem bw_1022 : Cond.instanceMethod yX7_lacks ∈ BW := bw_i 1022 (by decide +kernel) (by decide +kernel)
theorem bw_35 : Cond.selects RX7 yX7_lacks yX7_lacks ∈ BW := bw_i 35 (by decide +kernel) (by decide +kernel)
theorem tg_28_6 : tgo 28 6 = some 34 := by decide
theorem tg_45_14 : tgo 45 14 = some 59 := by decide
theorem bc_56 : (Int8.ofInt 56).toInt32 = 56 := by decide
theorem tg_56_37 : tgo 56 37 = some 93 := by decide
theorem tg_77_14 : tgo 77 14 = some 91 := by decide
theorem tg_88_5 : tgo 88 5 = some 93 := by decide
def mX7_item : Mt := (⟨2, 0, 0, 47⟩, RX7, cX7_item, 7, some .int, (0, 0), none)
theorem mX7_item_c : mX7_item.2.2.1 = cX7_item := rfl
theorem mX7_item_n : mX7_item.2.2.2.1 = 7 := rfl
theorem mX7_item_r : mX7_item.2.2.2.2.1 = some .int := rfl
theorem mX7_item_l : mX7_item.2.2.2.2.2.2 = none := rfl
def jX7_item (Γ : Cx) : List ((Nat × Nat) × Nat × Bool × YSp) := [((1, 219), 1, true, sp_X7_isSheet Γ), ((1, 222), 1, true, sp_X7_isLane Γ), ((0, 227), 5, false, sp_X7_lacks Γ)]
theorem jX7_item_1_219 (Γ : Cx) : kT (jX7_item Γ) 1 219 = some (1, true, sp_X7_isSheet Γ) := rfl
theorem jX7_item_1_222 (Γ : Cx) : kT (jX7_item Γ) 1 222 = some (1, true, sp_X7_isLane Γ) := rfl
theorem jX7_item_0_227 (Γ : Cx) : kT (jX7_item Γ) 0 227 = some (5, false, sp_X7_lacks Γ) := rfl
theorem uX7_item (Γ : Cx) : TbOK Γ mX7_item (fT fX7, cT kX7, kT (jX7_item Γ)) := tb_ok fX7_ok kX7_ok (all_cons ⟨call_S (n := 1) (ok_X7_isSheet Γ) (rv_X7_isSheet (Γ := Γ)) bw_1015 bw_1013 bw_1014 bw_49 no_X7_isSheet ⟨⟨rfl, rfl⟩, ⟨by decide, by decide⟩, ⟨by decide, by decide⟩⟩, fun _ => mono_X7_isSheet (Γ := Γ)⟩ (all_cons ⟨call_S (n := 1) (ok_X7_isLane Γ) (rv_X7_isLane (Γ := Γ)) bw_1018 bw_1016 bw_1017 bw_49 no_X7_isLane ⟨⟨rfl, rfl⟩, ⟨by decide, by decide⟩, ⟨by decide, by decide⟩⟩, fun _ => mono_X7_isLane (Γ := Γ)⟩ (all_cons ⟨call_V (n := 4) (T := TX7) (N := 26) (ok_X7_lacks Γ) (rv_X7_lacks (Γ := Γ)) rfl bw_1023 bw_1020 bw_1022 bw_35 bw_49 no_X7_lacks ⟨⟨rfl, rfl⟩, ⟨by decide, by decide⟩, ⟨by decide, by decide⟩⟩, fun z => by cases z⟩ (all_nil))))
set_option maxRecDepth 20000 in
theorem ok_X7_item (Γ : Cx) : Ok Γ yX7_item mX7_item (sp_X7_item Γ) := by
  refine ok_intro (by decide +kernel) rfl rfl ?_
  intro av σ K h
  obtain ⟨x, y, z, v, h⟩ := h
  obtain ⟨lab, ⟨a, ad⟩, ⟨sc, ar, it⟩, ψ, ψ', r, rfl, hM, hR, hrel, h⟩ := h
  try simp only at h
  obtain ⟨⟨m1, -⟩, e1, -⟩ := id hM
  obtain ⟨⟨p1, p2, p3, p4, pI, p5, p6, p7⟩, hImg, h16, hT, hSh⟩ := id hR
  have hP := pI.P5
  simp only at p1 p2 p3 p4 p5 p6 p7 hImg h16 hT hSh
  simp only [ME] at m1 e1
  obtain ⟨hq1, hq2⟩ := fn_r hrel
  rw [hq1, hq2] at h
  clear hq1 hq2 hrel ψ' r
  unfold x_item at h
  have no : ¬ (inr x 0 3 = true ∧ inr y 0 3 = true) → K (some (.int (-1))) σ := fun w => by
    rw [if_neg w] at h
    exact h _ _ hR frm.rf hM
  refine ⟨Nat.le_of_ble_eq_true rfl, yvc_ok (uX7_item Γ) (S := [16]) 60 _ _ _ _ ?_⟩
  simp only [lv_args, Value.category, sp_X7_isSheet, sp_X7_isLane, sp_X6_isDoor, bI_eq0, Bool.not_eq_false, yvc_s, s1i, s2i, s1l, s2l, sil, s1r, sir, siir, slir, srir, svr, sd1, sd2, lg, lput, ldel, isL_i, isL_r, isL_l, jmp, obj, obj1, fI, fR, arI, arL, arR, hput, f4_0, f4_1, f4_2, f4_3, lc_0, lc_1, rok_i, rok_b, rok_y, strF, fput_1, fput_2, csum_nil, csum_i, csum_l, csum_r, va_up_self, bx_uu, Int.reduceAdd, List.elem_nil, List.elem_cons, List.take_succ_cons, List.take_zero, List.drop_succ_cons, List.drop_zero, List.take_nil, List.drop_nil, List.reverse_cons, List.reverse_nil, List.nil_append, List.cons_append, List.append_nil, Option.toList_some, Option.toList_none, List.getElem?_cons_zero, List.getElem?_cons_succ, List.set_cons_zero, List.set_cons_succ, List.length_cons, List.length_nil, reduceIte, reduceCtorEq, and_true, true_and, and_self, or_true, true_or, false_and, and_false, not_true_eq_false, not_false_eq_true, true_implies, false_implies, implies_true, Nat.reduceAdd, Nat.reduceLT, Nat.reduceEqDiff, Nat.reduceLeDiff, Nat.reduceBEq, Nat.zero_add, Nat.lt_add_one, Bool.false_eq_true, Bool.or_false, Bool.or_true, Bool.or_self, Nat.zero_ne_one, Nat.one_ne_zero, ite_true, ite_false, ne_eq, Nat.reduceSub, Nat.succ_eq_add_one, Nat.zero_lt_succ, Nat.add_one_ne_zero, false_or, or_false, mX7_item_c, mX7_item_n, mX7_item_r, mX7_item_l, dX7_item_0, dX7_item_1, dX7_item_4, tg_4_10, cnd1_eq, dX7_item_7, dX7_item_8, dX7_item_11, tg_11_5, cnd1_ne, dX7_item_14, ic_m1, dX7_item_15, dX7_item_16, dX7_item_17, dX7_item_18, dX7_item_19, dX7_item_20, ic_1, dX7_item_21, dX7_item_24, dX7_item_26, dX7_item_28, tg_28_6, dX7_item_31, dX7_item_33, dX7_item_34, dX7_item_35, fl_7_35_7, dX7_item_38, bc_24, dX7_item_40, dX7_item_41, dX7_item_42, dX7_item_43, dX7_item_44, dX7_item_45, tg_45_14, dX7_item_48, dX7_item_50, bc_56, dX7_item_52, dX7_item_53, dX7_item_55, dX7_item_56, tg_56_37, dX7_item_59, dX7_item_60, dX7_item_61, tg_61_14, cnd2_ne, dX7_item_64, dX7_item_66, bc_48, dX7_item_68, dX7_item_69, dX7_item_71, dX7_item_72, tg_72_21, dX7_item_75, dX7_item_76, ic_2, dX7_item_77, tg_77_14, dX7_item_80, dX7_item_82, bc_32, dX7_item_84, dX7_item_85, dX7_item_87, dX7_item_88, tg_88_5, dX7_item_91, dX7_item_93, dX7_item_94, dX7_item_95, jX7_item_1_219, jX7_item_1_222, jX7_item_0_227, st_aload_n, st_bipush, st_getfield, st_goto, st_iadd, st_iconst, st_ifCond, st_if_icmp, st_iload, st_iload_n, st_imul, st_invokestatic, st_invokevirtual, st_ireturn, st_istore, st_lastore, st_lload, st_lshl, st_lshr]
  refine ⟨fun c1 => no (fun z => by rw [c1] at z; cases z.1), fun c1 => ⟨fun c2 => ?_, fun c2 => no (fun z => c2 z.2)⟩⟩
  rw [if_pos ⟨c1, c2⟩] at h
  obtain ⟨q, hq, rfl⟩ := door_n c1
  obtain ⟨d2, d3⟩ := in4q hq
  rw [d3] at h
  obtain ⟨g1, g2, g3, g4⟩ := hSh q hq
  have hz := g1
  rw [← g2] at hz
  refine yvc1_ok (uX7_item Γ) (S := [16]) 60 ?_
  simp only [yvc1, yvc_s, s1i, s2i, s1l, s2l, sil, s1r, sir, siir, slir, srir, svr, sd1, sd2, lg, lput, ldel, isL_i, isL_r, isL_l, jmp, obj, obj1, fI, fR, arI, arL, arR, hput, f4_0, f4_1, f4_2, f4_3, lc_0, lc_1, rok_i, rok_b, rok_y, strF, fput_1, fput_2, csum_nil, csum_i, csum_l, csum_r, va_up_self, bx_uu, Int.reduceAdd, List.elem_nil, List.elem_cons, List.take_succ_cons, List.take_zero, List.drop_succ_cons, List.drop_zero, List.take_nil, List.drop_nil, List.reverse_cons, List.reverse_nil, List.nil_append, List.cons_append, List.append_nil, Option.toList_some, Option.toList_none, List.getElem?_cons_zero, List.getElem?_cons_succ, List.set_cons_zero, List.set_cons_succ, List.length_cons, List.length_nil, reduceIte, reduceCtorEq, and_true, true_and, and_self, or_true, true_or, false_and, and_false, not_true_eq_false, not_false_eq_true, true_implies, false_implies, implies_true, Nat.reduceAdd, Nat.reduceLT, Nat.reduceEqDiff, Nat.reduceLeDiff, Nat.reduceBEq, Nat.zero_add, Nat.lt_add_one, Bool.false_eq_true, Bool.or_false, Bool.or_true, Bool.or_self, Nat.zero_ne_one, Nat.one_ne_zero, ite_true, ite_false, ne_eq, Nat.reduceSub, Nat.succ_eq_add_one, Nat.zero_lt_succ, Nat.add_one_ne_zero, false_or, or_false, mX7_item_c, mX7_item_n, mX7_item_r, mX7_item_l, dX7_item_0, dX7_item_1, dX7_item_4, tg_4_10, cnd1_eq, dX7_item_7, dX7_item_8, dX7_item_11, tg_11_5, cnd1_ne, dX7_item_14, ic_m1, dX7_item_15, dX7_item_16, dX7_item_17, dX7_item_18, dX7_item_19, dX7_item_20, ic_1, dX7_item_21, dX7_item_24, dX7_item_26, dX7_item_28, tg_28_6, dX7_item_31, dX7_item_33, dX7_item_34, dX7_item_35, fl_7_35_7, dX7_item_38, bc_24, dX7_item_40, dX7_item_41, dX7_item_42, dX7_item_43, dX7_item_44, dX7_item_45, tg_45_14, dX7_item_48, dX7_item_50, bc_56, dX7_item_52, dX7_item_53, dX7_item_55, dX7_item_56, tg_56_37, dX7_item_59, dX7_item_60, dX7_item_61, tg_61_14, cnd2_ne, dX7_item_64, dX7_item_66, bc_48, dX7_item_68, dX7_item_69, dX7_item_71, dX7_item_72, tg_72_21, dX7_item_75, dX7_item_76, ic_2, dX7_item_77, tg_77_14, dX7_item_80, dX7_item_82, bc_32, dX7_item_84, dX7_item_85, dX7_item_87, dX7_item_88, tg_88_5, dX7_item_91, dX7_item_93, dX7_item_94, dX7_item_95, jX7_item_1_219, jX7_item_1_222, jX7_item_0_227, st_aload_n, st_bipush, st_getfield, st_goto, st_iadd, st_iconst, st_ifCond, st_if_icmp, st_iload, st_iload_n, st_imul, st_invokestatic, st_invokevirtual, st_ireturn, st_istore, st_lastore, st_lload, st_lshl, st_lshr]
  refine ⟨q, y, z, 1, lab, (a, ad), (sc, ar, it), rfl, hM, ⟨hq, hz⟩, ?_⟩
  simp only [g2, g3]
  refine yvc_ok (uX7_item Γ) (S := [34]) 60 _ _ _ _ ?_
  simp only [yvc_s, s1i, s2i, s1l, s2l, sil, s1r, sir, siir, slir, srir, svr, sd1, sd2, lg, lput, ldel, isL_i, isL_r, isL_l, jmp, obj, obj1, fI, fR, arI, arL, arR, hput, f4_0, f4_1, f4_2, f4_3, lc_0, lc_1, rok_i, rok_b, rok_y, strF, fput_1, fput_2, csum_nil, csum_i, csum_l, csum_r, va_up_self, bx_uu, Int.reduceAdd, List.elem_nil, List.elem_cons, List.take_succ_cons, List.take_zero, List.drop_succ_cons, List.drop_zero, List.take_nil, List.drop_nil, List.reverse_cons, List.reverse_nil, List.nil_append, List.cons_append, List.append_nil, Option.toList_some, Option.toList_none, List.getElem?_cons_zero, List.getElem?_cons_succ, List.set_cons_zero, List.set_cons_succ, List.length_cons, List.length_nil, reduceIte, reduceCtorEq, and_true, true_and, and_self, or_true, true_or, false_and, and_false, not_true_eq_false, not_false_eq_true, true_implies, false_implies, implies_true, Nat.reduceAdd, Nat.reduceLT, Nat.reduceEqDiff, Nat.reduceLeDiff, Nat.reduceBEq, Nat.zero_add, Nat.lt_add_one, Bool.false_eq_true, Bool.or_false, Bool.or_true, Bool.or_self, Nat.zero_ne_one, Nat.one_ne_zero, ite_true, ite_false, ne_eq, Nat.reduceSub, Nat.succ_eq_add_one, Nat.zero_lt_succ, Nat.add_one_ne_zero, false_or, or_false, mX7_item_c, mX7_item_n, mX7_item_r, mX7_item_l, dX7_item_0, dX7_item_1, dX7_item_4, tg_4_10, cnd1_eq, dX7_item_7, dX7_item_8, dX7_item_11, tg_11_5, cnd1_ne, dX7_item_14, ic_m1, dX7_item_15, dX7_item_16, dX7_item_17, dX7_item_18, dX7_item_19, dX7_item_20, ic_1, dX7_item_21, dX7_item_24, dX7_item_26, dX7_item_28, tg_28_6, dX7_item_31, dX7_item_33, dX7_item_34, dX7_item_35, fl_7_35_7, dX7_item_38, bc_24, dX7_item_40, dX7_item_41, dX7_item_42, dX7_item_43, dX7_item_44, dX7_item_45, tg_45_14, dX7_item_48, dX7_item_50, bc_56, dX7_item_52, dX7_item_53, dX7_item_55, dX7_item_56, tg_56_37, dX7_item_59, dX7_item_60, dX7_item_61, tg_61_14, cnd2_ne, dX7_item_64, dX7_item_66, bc_48, dX7_item_68, dX7_item_69, dX7_item_71, dX7_item_72, tg_72_21, dX7_item_75, dX7_item_76, ic_2, dX7_item_77, tg_77_14, dX7_item_80, dX7_item_82, bc_32, dX7_item_84, dX7_item_85, dX7_item_87, dX7_item_88, tg_88_5, dX7_item_91, dX7_item_93, dX7_item_94, dX7_item_95, jX7_item_1_219, jX7_item_1_222, jX7_item_0_227, st_aload_n, st_bipush, st_getfield, st_goto, st_iadd, st_iconst, st_ifCond, st_if_icmp, st_iload, st_iload_n, st_imul, st_invokestatic, st_invokevirtual, st_ireturn, st_istore, st_lastore, st_lload, st_lshl, st_lshr]
  refine ⟨fun c3 => ?_, fun c3 => ?_⟩
  · rw [if_pos c3] at h
    obtain ⟨r1, r2, r3⟩ := rfz_0 c3
    obtain ⟨I, N, k, rfl, e7, e8, e9, e10⟩ := span_n g1 r1 r3
    have hN : N = 1 := by
      have : nI 1 = nI N := e7
      have h2 := (nI_eq (a := 1) (b := N) (by decide) (by
        rcases Nat.lt_or_ge N (2 ^ 31) with z | z
        · exact z
        · omega)).mp this
      exact h2.symm
    subst hN
    rw [nI_clamp (show I < 2 ^ 31 by omega), ← r2] at h
    obtain ⟨i1, i2⟩ := ix24 hq (show I < 24 by omega)
    have hk := h _ _ (hR.itm hq (show I < 24 by omega) (cutL y v)) hM.frL (hM.putL _)
    obtain ⟨m11, e11⟩ := hM.itm
    simp only [lA, hput] at m11 e11 hk
    unfold cutL at hk
    refine yvc1_ok (uX7_item Γ) (S := [34]) 60 ?_
    simp only [yvc1, m1, e1, m11, e11, i1, i2, k56, k48, k32, cut56, cut48, cut32, yvc_s, s1i, s2i, s1l, s2l, sil, s1r, sir, siir, slir, srir, svr, sd1, sd2, lg, lput, ldel, isL_i, isL_r, isL_l, jmp, obj, obj1, fI, fR, arI, arL, arR, hput, f4_0, f4_1, f4_2, f4_3, lc_0, lc_1, rok_i, rok_b, rok_y, strF, fput_1, fput_2, csum_nil, csum_i, csum_l, csum_r, va_up_self, bx_uu, Int.reduceAdd, List.elem_nil, List.elem_cons, List.take_succ_cons, List.take_zero, List.drop_succ_cons, List.drop_zero, List.take_nil, List.drop_nil, List.reverse_cons, List.reverse_nil, List.nil_append, List.cons_append, List.append_nil, Option.toList_some, Option.toList_none, List.getElem?_cons_zero, List.getElem?_cons_succ, List.set_cons_zero, List.set_cons_succ, List.length_cons, List.length_nil, reduceIte, reduceCtorEq, and_true, true_and, and_self, or_true, true_or, false_and, and_false, not_true_eq_false, not_false_eq_true, true_implies, false_implies, implies_true, Nat.reduceAdd, Nat.reduceLT, Nat.reduceEqDiff, Nat.reduceLeDiff, Nat.reduceBEq, Nat.zero_add, Nat.lt_add_one, Bool.false_eq_true, Bool.or_false, Bool.or_true, Bool.or_self, Nat.zero_ne_one, Nat.one_ne_zero, ite_true, ite_false, ne_eq, Nat.reduceSub, Nat.succ_eq_add_one, Nat.zero_lt_succ, Nat.add_one_ne_zero, false_or, or_false, mX7_item_c, mX7_item_n, mX7_item_r, mX7_item_l, dX7_item_0, dX7_item_1, dX7_item_4, tg_4_10, cnd1_eq, dX7_item_7, dX7_item_8, dX7_item_11, tg_11_5, cnd1_ne, dX7_item_14, ic_m1, dX7_item_15, dX7_item_16, dX7_item_17, dX7_item_18, dX7_item_19, dX7_item_20, ic_1, dX7_item_21, dX7_item_24, dX7_item_26, dX7_item_28, tg_28_6, dX7_item_31, dX7_item_33, dX7_item_34, dX7_item_35, fl_7_35_7, dX7_item_38, bc_24, dX7_item_40, dX7_item_41, dX7_item_42, dX7_item_43, dX7_item_44, dX7_item_45, tg_45_14, dX7_item_48, dX7_item_50, bc_56, dX7_item_52, dX7_item_53, dX7_item_55, dX7_item_56, tg_56_37, dX7_item_59, dX7_item_60, dX7_item_61, tg_61_14, cnd2_ne, dX7_item_64, dX7_item_66, bc_48, dX7_item_68, dX7_item_69, dX7_item_71, dX7_item_72, tg_72_21, dX7_item_75, dX7_item_76, ic_2, dX7_item_77, tg_77_14, dX7_item_80, dX7_item_82, bc_32, dX7_item_84, dX7_item_85, dX7_item_87, dX7_item_88, tg_88_5, dX7_item_91, dX7_item_93, dX7_item_94, dX7_item_95, jX7_item_1_219, jX7_item_1_222, jX7_item_0_227, st_aload_n, st_bipush, st_getfield, st_goto, st_iadd, st_iconst, st_ifCond, st_if_icmp, st_iload, st_iload_n, st_imul, st_invokestatic, st_invokevirtual, st_ireturn, st_istore, st_lastore, st_lload, st_lshl, st_lshr]
    refine ⟨fun y0 => ⟨fun y1 => ⟨fun y2 => ?_, fun y2 => ?_⟩, fun y1 => ?_⟩, fun y0 => ?_⟩
    · rw [if_neg y0, if_neg y1, if_neg y2] at hk; exact hk
    · rw [if_neg y0, if_neg y1, if_pos (Classical.not_not.mp y2)] at hk; exact hk
    · rw [if_neg y0, if_pos (Classical.not_not.mp y1)] at hk; exact hk
    · rw [if_pos (Classical.not_not.mp y0)] at hk; exact hk
  · rw [if_neg c3] at h
    exact h _ _ hR frm.rf hM
/-! copy -/
def bkw (it : Nat → Int64) (s d n m : Nat) : Nat → Int64 := fun k => if d + (n - m) ≤ k ∧ k < d + n then it (s + (k - d)) else it k
theorem bkw_0 {it : Nat → Int64} {s d n : Nat} : bkw it s d n 0 = it := by
  funext k
  unfold bkw
  rw [if_neg (by omega)]
theorem bkw_s {it : Nat → Int64} {s d n m : Nat} (h : m < n) : vp_updL (bkw it s d n m) (d + (n - 1 - m)) (it (s + (n - 1 - m))) = bkw it s d n (m + 1) := by
  funext k
  by_cases e : k = d + (n - 1 - m)
  · subst e
    rw [updL_s]
    unfold bkw
    rw [if_pos (by omega)]
    congr 1
    omega
  · rw [updL_n e]
    unfold bkw
    by_cases c : d + (n - m) ≤ k ∧ k < d + n
    · rw [if_pos c, if_pos (by omega)]
    · rw [if_neg c, if_neg (by omega)]
theorem bkw_n {it : Nat → Int64} {s d n : Nat} : bkw it s d n n = va_cpy it it s d n := by
  funext k
  unfold bkw va_cpy
  by_cases c : d ≤ k ∧ k < d + n
  · rw [if_pos c, if_pos (by omega)]
  · rw [if_neg c, if_neg (by omega)]
theorem cpyL_0 {it : Nat → Int64} {s d : Nat} : va_cpy it it s d 0 = it := by
  funext k
  unfold va_cpy
  rw [if_neg (by omega)]
theorem cpyL_s {it : Nat → Int64} {s d n : Nat} : vp_updL (va_cpy it it s d n) (d + n) (it (s + n)) = va_cpy it it s d (n + 1) := by
  funext k
  by_cases e : k = d + n
  · subst e
    rw [updL_s]
    unfold va_cpy
    rw [if_pos (by omega)]
    congr 1
    omega
  · rw [updL_n e]
    unfold va_cpy
    by_cases c : d ≤ k ∧ k < d + n
    · rw [if_pos c, if_pos (by omega)]
    · rw [if_neg c, if_neg (by omega)]
theorem ix24k {q j k : Nat} (hq : q < 4) (hj : j + k < 24) : vp_in (24 * nI q + nI j + nI k) 96 ∧ (24 * nI q + nI j + nI k).toNatClampNeg = 24 * q + j + k := by
  rw [show (24 : Int32) = nI 24 from rfl, pk_mul, nI_add, nI_add]
  exact ⟨vp_in_nI (by omega) (by decide), nI_clamp (by omega)⟩
theorem nI_subc {n k : Nat} (h : k < n) : nI n - 1 - nI k = nI (n - 1 - k) := by
  rw [show (1 : Int32) = nI 1 from rfl, pk_sub (by omega), pk_sub (by omega)]
def sp_X7_copy (Γ : Cx) : YSp := fun av σ K => ∃ (x : Int32) (i : Int32) (y : Int32) (j : Int32) (n : Int32), mo Γ [.int x, .int i, .int y, .int j, .int n] (fn (x_copy x i y j n)) av σ K
theorem rv_X7_copy {Γ : Cx} : Recv (sp_X7_copy Γ) 5 7 := by
  intro av σ K h
  obtain ⟨x, i, y, j, n, h⟩ := h
  obtain ⟨q, fs, h1, h2, h3⟩ := rv_mo h
  exact ⟨q, _, fs, h1, rfl, h2, h3⟩
theorem tg_22_12 : tgo 22 12 = some 34 := by decide
theorem tg_49_6 : tgo 49 6 = some 55 := by decide
theorem tg_63_15 : tgo 63 15 = some 78 := by decide
theorem tg_88_58 : tgo 88 58 = some 146 := by decide
theorem tg_94_8 : tgo 94 8 = some 102 := by decide
theorem tg_99_10 : tgo 99 10 = some 109 := by decide
theorem tg_143_m59 : tgo 143 (-59) = some 84 := by decide
def mX7_copy : Mt := (⟨2, 0, 0, 45⟩, RX7, cX7_copy, 8, some .int, (0, 0), none)
theorem mX7_copy_c : mX7_copy.2.2.1 = cX7_copy := rfl
theorem mX7_copy_n : mX7_copy.2.2.2.1 = 8 := rfl
theorem mX7_copy_r : mX7_copy.2.2.2.2.1 = some .int := rfl
theorem mX7_copy_l : mX7_copy.2.2.2.2.2.2 = none := rfl
def jX7_copy (Γ : Cx) : List ((Nat × Nat) × Nat × Bool × YSp) := [((1, 219), 1, true, sp_X7_isSheet Γ), ((0, 211), 4, false, sp_X7_isSpan Γ)]
theorem jX7_copy_1_219 (Γ : Cx) : kT (jX7_copy Γ) 1 219 = some (1, true, sp_X7_isSheet Γ) := rfl
theorem jX7_copy_0_211 (Γ : Cx) : kT (jX7_copy Γ) 0 211 = some (4, false, sp_X7_isSpan Γ) := rfl
theorem uX7_copy (Γ : Cx) : TbOK Γ mX7_copy (fT fX7, cT kX7, kT (jX7_copy Γ)) := tb_ok fX7_ok kX7_ok (all_cons ⟨call_S (n := 1) (ok_X7_isSheet Γ) (rv_X7_isSheet (Γ := Γ)) bw_1015 bw_1013 bw_1014 bw_49 no_X7_isSheet ⟨⟨rfl, rfl⟩, ⟨by decide, by decide⟩, ⟨by decide, by decide⟩⟩, fun _ => mono_X7_isSheet (Γ := Γ)⟩ (all_cons ⟨call_V (n := 3) (T := TX7) (N := 26) (ok_X7_isSpan Γ) (rv_X7_isSpan (Γ := Γ)) rfl bw_1027 bw_1024 bw_1026 bw_36 bw_49 no_X7_isSpan ⟨⟨rfl, rfl⟩, ⟨by decide, by decide⟩, ⟨by decide, by decide⟩⟩, fun z => by cases z⟩ (all_nil)))
set_option maxRecDepth 20000 in
theorem ok_X7_copy (Γ : Cx) : Ok Γ yX7_copy mX7_copy (sp_X7_copy Γ) := by
  refine ok_intro (by decide +kernel) rfl rfl ?_
  intro av σ K h
  obtain ⟨x, i, y, j, n, h⟩ := h
  obtain ⟨lab, ⟨a, ad⟩, ⟨sc, ar, it⟩, ψ, ψ', r, rfl, hM, hR, hrel, h⟩ := h
  try simp only at h
  obtain ⟨⟨m1, -⟩, e1, -⟩ := id hM
  obtain ⟨⟨p1, p2, p3, p4, pI, p5, p6, p7⟩, hImg, h16, hT, hSh⟩ := id hR
  have hP := pI.P5
  simp only at p1 p2 p3 p4 p5 p6 p7 hImg h16 hT hSh
  simp only [ME] at m1 e1
  obtain ⟨hq1, hq2⟩ := fn_r hrel
  rw [hq1, hq2] at h
  clear hq1 hq2 hrel ψ' r
  unfold x_copy at h
  have no : ¬ (inr x 0 3 = true ∧ inr y 0 3 = true) → K (some (.int (-1))) σ := fun w => by
    rw [if_neg w] at h
    exact h _ _ hR frm.rf hM
  refine ⟨Nat.le_of_ble_eq_true rfl, yvc_ok (uX7_copy Γ) (S := [16]) 60 _ _ _ _ ?_⟩
  simp only [lv_args, Value.category, sp_X7_isSheet, sp_X6_isDoor, bI_eq0, Bool.not_eq_false, yvc_s, s1i, s2i, s1l, s2l, sil, s1r, sir, siir, slir, srir, svr, sd1, sd2, lg, lput, ldel, isL_i, isL_r, isL_l, jmp, obj, obj1, fI, fR, arI, arL, arR, hput, f4_0, f4_1, f4_2, f4_3, lc_0, lc_1, rok_i, rok_b, rok_y, strF, fput_1, fput_2, csum_nil, csum_i, csum_l, csum_r, va_up_self, bx_uu, Int.reduceAdd, List.elem_nil, List.elem_cons, List.take_succ_cons, List.take_zero, List.drop_succ_cons, List.drop_zero, List.take_nil, List.drop_nil, List.reverse_cons, List.reverse_nil, List.nil_append, List.cons_append, List.append_nil, Option.toList_some, Option.toList_none, List.getElem?_cons_zero, List.getElem?_cons_succ, List.set_cons_zero, List.set_cons_succ, List.length_cons, List.length_nil, reduceIte, reduceCtorEq, and_true, true_and, and_self, or_true, true_or, false_and, and_false, not_true_eq_false, not_false_eq_true, true_implies, false_implies, implies_true, Nat.reduceAdd, Nat.reduceLT, Nat.reduceEqDiff, Nat.reduceLeDiff, Nat.reduceBEq, Nat.zero_add, Nat.lt_add_one, Bool.false_eq_true, Bool.or_false, Bool.or_true, Bool.or_self, Nat.zero_ne_one, Nat.one_ne_zero, ite_true, ite_false, ne_eq, Nat.reduceSub, Nat.succ_eq_add_one, Nat.zero_lt_succ, Nat.add_one_ne_zero, false_or, or_false, mX7_copy_c, mX7_copy_n, mX7_copy_r, mX7_copy_l, dX7_copy_0, dX7_copy_1, dX7_copy_4, tg_4_10, cnd1_eq, dX7_copy_7, dX7_copy_8, dX7_copy_11, tg_11_5, cnd1_ne, dX7_copy_14, ic_m1, dX7_copy_15, dX7_copy_16, dX7_copy_17, fl_7_42_7, dX7_copy_20, dX7_copy_21, dX7_copy_22, tg_22_12, cnd1_lt, dX7_copy_25, dX7_copy_26, dX7_copy_29, dX7_copy_30, dX7_copy_31, tg_31_6, cnd1_ge, dX7_copy_34, bc_m11, dX7_copy_36, dX7_copy_37, dX7_copy_38, fl_7_39_7, dX7_copy_41, dX7_copy_42, dX7_copy_43, dX7_copy_44, dX7_copy_47, dX7_copy_48, dX7_copy_49, tg_49_6, cnd2_eq, dX7_copy_52, bc_m12, dX7_copy_54, dX7_copy_55, dX7_copy_56, dX7_copy_57, dX7_copy_58, dX7_copy_60, dX7_copy_63, tg_63_15, dX7_copy_66, dX7_copy_67, dX7_copy_68, dX7_copy_70, dX7_copy_72, dX7_copy_75, tg_75_6, dX7_copy_78, bc_m13, dX7_copy_80, dX7_copy_81, ic_0, dX7_copy_82, dX7_copy_84, dX7_copy_86, dX7_copy_88, tg_88_58, cnd2_ge, dX7_copy_91, dX7_copy_92, dX7_copy_94, tg_94_8, cnd2_lt, dX7_copy_97, dX7_copy_99, tg_99_10, dX7_copy_102, dX7_copy_104, ic_1, dX7_copy_105, dX7_copy_106, dX7_copy_108, dX7_copy_109, dX7_copy_111, dX7_copy_112, fl_7_35_7, dX7_copy_115, bc_24, dX7_copy_117, dX7_copy_118, dX7_copy_119, dX7_copy_121, dX7_copy_122, dX7_copy_124, dX7_copy_125, dX7_copy_126, dX7_copy_129, dX7_copy_131, dX7_copy_132, dX7_copy_133, dX7_copy_134, dX7_copy_135, dX7_copy_137, dX7_copy_138, dX7_copy_139, dX7_copy_140, dX7_copy_143, tg_143_m59, dX7_copy_146, dX7_copy_148, jX7_copy_1_219, jX7_copy_0_211, st_aload_n, st_bipush, st_getfield, st_goto, st_iadd, st_iaload, st_iconst, st_ifCond, st_if_icmp, st_iinc, st_iload, st_iload_n, st_imul, st_invokestatic, st_invokevirtual, st_ireturn, st_istore, st_isub, st_laload, st_lastore]
  refine ⟨fun c1 => no (fun z => by rw [c1] at z; cases z.1), fun c1 => ⟨fun c2 => ?_, fun c2 => no (fun z => c2 z.2)⟩⟩
  rw [if_pos ⟨c1, c2⟩] at h
  obtain ⟨q, hq, rfl⟩ := door_n c1
  obtain ⟨r, hr, rfl⟩ := door_n c2
  obtain ⟨d2, d3⟩ := in4q hq
  obtain ⟨d4, d5⟩ := in4q hr
  rw [d3, d5] at h
  obtain ⟨g1, g2, g3, g4⟩ := hSh q hq
  obtain ⟨f1, f2, f3, f4⟩ := hSh r hr
  have hz1 := g1
  rw [← g2] at hz1
  have hz2 := f1
  rw [← f2] at hz2
  obtain ⟨m12, e12⟩ := hM.arr 12 rfl
  obtain ⟨m13, e13⟩ := hM.arr 13 rfl
  simp only [iA, lenM] at m12 e12 m13 e13
  rw [← g2, ← g3, ← f2, ← f3] at h
  refine yvc1_ok (uX7_copy Γ) (S := [16, 55]) 60 ?_
  simp only [yvc1, m1, e1, m12, e12, m13, e13, d2, d3, d4, d5, sz_lt hz1, sz_ge hz2, yvc_s, s1i, s2i, s1l, s2l, sil, s1r, sir, siir, slir, srir, svr, sd1, sd2, lg, lput, ldel, isL_i, isL_r, isL_l, jmp, obj, obj1, fI, fR, arI, arL, arR, hput, f4_0, f4_1, f4_2, f4_3, lc_0, lc_1, rok_i, rok_b, rok_y, strF, fput_1, fput_2, csum_nil, csum_i, csum_l, csum_r, va_up_self, bx_uu, Int.reduceAdd, List.elem_nil, List.elem_cons, List.take_succ_cons, List.take_zero, List.drop_succ_cons, List.drop_zero, List.take_nil, List.drop_nil, List.reverse_cons, List.reverse_nil, List.nil_append, List.cons_append, List.append_nil, Option.toList_some, Option.toList_none, List.getElem?_cons_zero, List.getElem?_cons_succ, List.set_cons_zero, List.set_cons_succ, List.length_cons, List.length_nil, reduceIte, reduceCtorEq, and_true, true_and, and_self, or_true, true_or, false_and, and_false, not_true_eq_false, not_false_eq_true, true_implies, false_implies, implies_true, Nat.reduceAdd, Nat.reduceLT, Nat.reduceEqDiff, Nat.reduceLeDiff, Nat.reduceBEq, Nat.zero_add, Nat.lt_add_one, Bool.false_eq_true, Bool.or_false, Bool.or_true, Bool.or_self, Nat.zero_ne_one, Nat.one_ne_zero, ite_true, ite_false, ne_eq, Nat.reduceSub, Nat.succ_eq_add_one, Nat.zero_lt_succ, Nat.add_one_ne_zero, false_or, or_false, mX7_copy_c, mX7_copy_n, mX7_copy_r, mX7_copy_l, dX7_copy_0, dX7_copy_1, dX7_copy_4, tg_4_10, cnd1_eq, dX7_copy_7, dX7_copy_8, dX7_copy_11, tg_11_5, cnd1_ne, dX7_copy_14, ic_m1, dX7_copy_15, dX7_copy_16, dX7_copy_17, fl_7_42_7, dX7_copy_20, dX7_copy_21, dX7_copy_22, tg_22_12, cnd1_lt, dX7_copy_25, dX7_copy_26, dX7_copy_29, dX7_copy_30, dX7_copy_31, tg_31_6, cnd1_ge, dX7_copy_34, bc_m11, dX7_copy_36, dX7_copy_37, dX7_copy_38, fl_7_39_7, dX7_copy_41, dX7_copy_42, dX7_copy_43, dX7_copy_44, dX7_copy_47, dX7_copy_48, dX7_copy_49, tg_49_6, cnd2_eq, dX7_copy_52, bc_m12, dX7_copy_54, dX7_copy_55, dX7_copy_56, dX7_copy_57, dX7_copy_58, dX7_copy_60, dX7_copy_63, tg_63_15, dX7_copy_66, dX7_copy_67, dX7_copy_68, dX7_copy_70, dX7_copy_72, dX7_copy_75, tg_75_6, dX7_copy_78, bc_m13, dX7_copy_80, dX7_copy_81, ic_0, dX7_copy_82, dX7_copy_84, dX7_copy_86, dX7_copy_88, tg_88_58, cnd2_ge, dX7_copy_91, dX7_copy_92, dX7_copy_94, tg_94_8, cnd2_lt, dX7_copy_97, dX7_copy_99, tg_99_10, dX7_copy_102, dX7_copy_104, ic_1, dX7_copy_105, dX7_copy_106, dX7_copy_108, dX7_copy_109, dX7_copy_111, dX7_copy_112, fl_7_35_7, dX7_copy_115, bc_24, dX7_copy_117, dX7_copy_118, dX7_copy_119, dX7_copy_121, dX7_copy_122, dX7_copy_124, dX7_copy_125, dX7_copy_126, dX7_copy_129, dX7_copy_131, dX7_copy_132, dX7_copy_133, dX7_copy_134, dX7_copy_135, dX7_copy_137, dX7_copy_138, dX7_copy_139, dX7_copy_140, dX7_copy_143, tg_143_m59, dX7_copy_146, dX7_copy_148, jX7_copy_1_219, jX7_copy_0_211, st_aload_n, st_bipush, st_getfield, st_goto, st_iadd, st_iaload, st_iconst, st_ifCond, st_if_icmp, st_iinc, st_iload, st_iload_n, st_imul, st_invokestatic, st_invokevirtual, st_ireturn, st_istore, st_isub, st_laload, st_lastore]
  refine ⟨fun c3 => ?_, fun c3 => ⟨fun c4 => ⟨fun c5 => ?_, fun c5 => ?_⟩, fun c4 => ?_⟩⟩
  · rw [if_pos (Or.inl c3)] at h
    exact h _ _ hR frm.rf hM
  · rw [if_neg (fun z => z.elim c3 c4), if_pos c5] at h
    refine yvc_ok (uX7_copy Γ) (S := []) 60 _ _ _ _ ?_
    simp only [yvc_s, s1i, s2i, s1l, s2l, sil, s1r, sir, siir, slir, srir, svr, sd1, sd2, lg, lput, ldel, isL_i, isL_r, isL_l, jmp, obj, obj1, fI, fR, arI, arL, arR, hput, f4_0, f4_1, f4_2, f4_3, lc_0, lc_1, rok_i, rok_b, rok_y, strF, fput_1, fput_2, csum_nil, csum_i, csum_l, csum_r, va_up_self, bx_uu, Int.reduceAdd, List.elem_nil, List.elem_cons, List.take_succ_cons, List.take_zero, List.drop_succ_cons, List.drop_zero, List.take_nil, List.drop_nil, List.reverse_cons, List.reverse_nil, List.nil_append, List.cons_append, List.append_nil, Option.toList_some, Option.toList_none, List.getElem?_cons_zero, List.getElem?_cons_succ, List.set_cons_zero, List.set_cons_succ, List.length_cons, List.length_nil, reduceIte, reduceCtorEq, and_true, true_and, and_self, or_true, true_or, false_and, and_false, not_true_eq_false, not_false_eq_true, true_implies, false_implies, implies_true, Nat.reduceAdd, Nat.reduceLT, Nat.reduceEqDiff, Nat.reduceLeDiff, Nat.reduceBEq, Nat.zero_add, Nat.lt_add_one, Bool.false_eq_true, Bool.or_false, Bool.or_true, Bool.or_self, Nat.zero_ne_one, Nat.one_ne_zero, ite_true, ite_false, ne_eq, Nat.reduceSub, Nat.succ_eq_add_one, Nat.zero_lt_succ, Nat.add_one_ne_zero, false_or, or_false, mX7_copy_c, mX7_copy_n, mX7_copy_r, mX7_copy_l, dX7_copy_0, dX7_copy_1, dX7_copy_4, tg_4_10, cnd1_eq, dX7_copy_7, dX7_copy_8, dX7_copy_11, tg_11_5, cnd1_ne, dX7_copy_14, ic_m1, dX7_copy_15, dX7_copy_16, dX7_copy_17, fl_7_42_7, dX7_copy_20, dX7_copy_21, dX7_copy_22, tg_22_12, cnd1_lt, dX7_copy_25, dX7_copy_26, dX7_copy_29, dX7_copy_30, dX7_copy_31, tg_31_6, cnd1_ge, dX7_copy_34, bc_m11, dX7_copy_36, dX7_copy_37, dX7_copy_38, fl_7_39_7, dX7_copy_41, dX7_copy_42, dX7_copy_43, dX7_copy_44, dX7_copy_47, dX7_copy_48, dX7_copy_49, tg_49_6, cnd2_eq, dX7_copy_52, bc_m12, dX7_copy_54, dX7_copy_55, dX7_copy_56, dX7_copy_57, dX7_copy_58, dX7_copy_60, dX7_copy_63, tg_63_15, dX7_copy_66, dX7_copy_67, dX7_copy_68, dX7_copy_70, dX7_copy_72, dX7_copy_75, tg_75_6, dX7_copy_78, bc_m13, dX7_copy_80, dX7_copy_81, ic_0, dX7_copy_82, dX7_copy_84, dX7_copy_86, dX7_copy_88, tg_88_58, cnd2_ge, dX7_copy_91, dX7_copy_92, dX7_copy_94, tg_94_8, cnd2_lt, dX7_copy_97, dX7_copy_99, tg_99_10, dX7_copy_102, dX7_copy_104, ic_1, dX7_copy_105, dX7_copy_106, dX7_copy_108, dX7_copy_109, dX7_copy_111, dX7_copy_112, fl_7_35_7, dX7_copy_115, bc_24, dX7_copy_117, dX7_copy_118, dX7_copy_119, dX7_copy_121, dX7_copy_122, dX7_copy_124, dX7_copy_125, dX7_copy_126, dX7_copy_129, dX7_copy_131, dX7_copy_132, dX7_copy_133, dX7_copy_134, dX7_copy_135, dX7_copy_137, dX7_copy_138, dX7_copy_139, dX7_copy_140, dX7_copy_143, tg_143_m59, dX7_copy_146, dX7_copy_148, jX7_copy_1_219, jX7_copy_0_211, st_aload_n, st_bipush, st_getfield, st_goto, st_iadd, st_iaload, st_iconst, st_ifCond, st_if_icmp, st_iinc, st_iload, st_iload_n, st_imul, st_invokestatic, st_invokevirtual, st_ireturn, st_istore, st_isub, st_laload, st_lastore]
    refine ⟨q, i, n, lab, (a, ad), (sc, ar, it), rfl, hM, ⟨hq, hz1⟩, ?_⟩
    simp only
    refine yvc_ok (uX7_copy Γ) (S := []) 60 _ _ _ _ ?_
    simp only [bI_eq0, Bool.not_eq_false, yvc_s, s1i, s2i, s1l, s2l, sil, s1r, sir, siir, slir, srir, svr, sd1, sd2, lg, lput, ldel, isL_i, isL_r, isL_l, jmp, obj, obj1, fI, fR, arI, arL, arR, hput, f4_0, f4_1, f4_2, f4_3, lc_0, lc_1, rok_i, rok_b, rok_y, strF, fput_1, fput_2, csum_nil, csum_i, csum_l, csum_r, va_up_self, bx_uu, Int.reduceAdd, List.elem_nil, List.elem_cons, List.take_succ_cons, List.take_zero, List.drop_succ_cons, List.drop_zero, List.take_nil, List.drop_nil, List.reverse_cons, List.reverse_nil, List.nil_append, List.cons_append, List.append_nil, Option.toList_some, Option.toList_none, List.getElem?_cons_zero, List.getElem?_cons_succ, List.set_cons_zero, List.set_cons_succ, List.length_cons, List.length_nil, reduceIte, reduceCtorEq, and_true, true_and, and_self, or_true, true_or, false_and, and_false, not_true_eq_false, not_false_eq_true, true_implies, false_implies, implies_true, Nat.reduceAdd, Nat.reduceLT, Nat.reduceEqDiff, Nat.reduceLeDiff, Nat.reduceBEq, Nat.zero_add, Nat.lt_add_one, Bool.false_eq_true, Bool.or_false, Bool.or_true, Bool.or_self, Nat.zero_ne_one, Nat.one_ne_zero, ite_true, ite_false, ne_eq, Nat.reduceSub, Nat.succ_eq_add_one, Nat.zero_lt_succ, Nat.add_one_ne_zero, false_or, or_false, mX7_copy_c, mX7_copy_n, mX7_copy_r, mX7_copy_l, dX7_copy_0, dX7_copy_1, dX7_copy_4, tg_4_10, cnd1_eq, dX7_copy_7, dX7_copy_8, dX7_copy_11, tg_11_5, cnd1_ne, dX7_copy_14, ic_m1, dX7_copy_15, dX7_copy_16, dX7_copy_17, fl_7_42_7, dX7_copy_20, dX7_copy_21, dX7_copy_22, tg_22_12, cnd1_lt, dX7_copy_25, dX7_copy_26, dX7_copy_29, dX7_copy_30, dX7_copy_31, tg_31_6, cnd1_ge, dX7_copy_34, bc_m11, dX7_copy_36, dX7_copy_37, dX7_copy_38, fl_7_39_7, dX7_copy_41, dX7_copy_42, dX7_copy_43, dX7_copy_44, dX7_copy_47, dX7_copy_48, dX7_copy_49, tg_49_6, cnd2_eq, dX7_copy_52, bc_m12, dX7_copy_54, dX7_copy_55, dX7_copy_56, dX7_copy_57, dX7_copy_58, dX7_copy_60, dX7_copy_63, tg_63_15, dX7_copy_66, dX7_copy_67, dX7_copy_68, dX7_copy_70, dX7_copy_72, dX7_copy_75, tg_75_6, dX7_copy_78, bc_m13, dX7_copy_80, dX7_copy_81, ic_0, dX7_copy_82, dX7_copy_84, dX7_copy_86, dX7_copy_88, tg_88_58, cnd2_ge, dX7_copy_91, dX7_copy_92, dX7_copy_94, tg_94_8, cnd2_lt, dX7_copy_97, dX7_copy_99, tg_99_10, dX7_copy_102, dX7_copy_104, ic_1, dX7_copy_105, dX7_copy_106, dX7_copy_108, dX7_copy_109, dX7_copy_111, dX7_copy_112, fl_7_35_7, dX7_copy_115, bc_24, dX7_copy_117, dX7_copy_118, dX7_copy_119, dX7_copy_121, dX7_copy_122, dX7_copy_124, dX7_copy_125, dX7_copy_126, dX7_copy_129, dX7_copy_131, dX7_copy_132, dX7_copy_133, dX7_copy_134, dX7_copy_135, dX7_copy_137, dX7_copy_138, dX7_copy_139, dX7_copy_140, dX7_copy_143, tg_143_m59, dX7_copy_146, dX7_copy_148, jX7_copy_1_219, jX7_copy_0_211, st_aload_n, st_bipush, st_getfield, st_goto, st_iadd, st_iaload, st_iconst, st_ifCond, st_if_icmp, st_iinc, st_iload, st_iload_n, st_imul, st_invokestatic, st_invokevirtual, st_ireturn, st_istore, st_isub, st_laload, st_lastore]
    refine ⟨fun c6 => ?_, fun c6 => ?_⟩
    · rw [if_neg (fun z => by rw [c6] at z; cases z.1)] at h
      exact h _ _ hR frm.rf hM
    refine ⟨r, j, n, lab, (a, ad), (sc, ar, it), rfl, hM, ⟨hr, hz2⟩, ?_⟩
    simp only
    refine yvc_ok (uX7_copy Γ) (S := [84]) 60 _ _ _ _ ?_
    simp only [bI_eq0, Bool.not_eq_false, yvc_s, s1i, s2i, s1l, s2l, sil, s1r, sir, siir, slir, srir, svr, sd1, sd2, lg, lput, ldel, isL_i, isL_r, isL_l, jmp, obj, obj1, fI, fR, arI, arL, arR, hput, f4_0, f4_1, f4_2, f4_3, lc_0, lc_1, rok_i, rok_b, rok_y, strF, fput_1, fput_2, csum_nil, csum_i, csum_l, csum_r, va_up_self, bx_uu, Int.reduceAdd, List.elem_nil, List.elem_cons, List.take_succ_cons, List.take_zero, List.drop_succ_cons, List.drop_zero, List.take_nil, List.drop_nil, List.reverse_cons, List.reverse_nil, List.nil_append, List.cons_append, List.append_nil, Option.toList_some, Option.toList_none, List.getElem?_cons_zero, List.getElem?_cons_succ, List.set_cons_zero, List.set_cons_succ, List.length_cons, List.length_nil, reduceIte, reduceCtorEq, and_true, true_and, and_self, or_true, true_or, false_and, and_false, not_true_eq_false, not_false_eq_true, true_implies, false_implies, implies_true, Nat.reduceAdd, Nat.reduceLT, Nat.reduceEqDiff, Nat.reduceLeDiff, Nat.reduceBEq, Nat.zero_add, Nat.lt_add_one, Bool.false_eq_true, Bool.or_false, Bool.or_true, Bool.or_self, Nat.zero_ne_one, Nat.one_ne_zero, ite_true, ite_false, ne_eq, Nat.reduceSub, Nat.succ_eq_add_one, Nat.zero_lt_succ, Nat.add_one_ne_zero, false_or, or_false, mX7_copy_c, mX7_copy_n, mX7_copy_r, mX7_copy_l, dX7_copy_0, dX7_copy_1, dX7_copy_4, tg_4_10, cnd1_eq, dX7_copy_7, dX7_copy_8, dX7_copy_11, tg_11_5, cnd1_ne, dX7_copy_14, ic_m1, dX7_copy_15, dX7_copy_16, dX7_copy_17, fl_7_42_7, dX7_copy_20, dX7_copy_21, dX7_copy_22, tg_22_12, cnd1_lt, dX7_copy_25, dX7_copy_26, dX7_copy_29, dX7_copy_30, dX7_copy_31, tg_31_6, cnd1_ge, dX7_copy_34, bc_m11, dX7_copy_36, dX7_copy_37, dX7_copy_38, fl_7_39_7, dX7_copy_41, dX7_copy_42, dX7_copy_43, dX7_copy_44, dX7_copy_47, dX7_copy_48, dX7_copy_49, tg_49_6, cnd2_eq, dX7_copy_52, bc_m12, dX7_copy_54, dX7_copy_55, dX7_copy_56, dX7_copy_57, dX7_copy_58, dX7_copy_60, dX7_copy_63, tg_63_15, dX7_copy_66, dX7_copy_67, dX7_copy_68, dX7_copy_70, dX7_copy_72, dX7_copy_75, tg_75_6, dX7_copy_78, bc_m13, dX7_copy_80, dX7_copy_81, ic_0, dX7_copy_82, dX7_copy_84, dX7_copy_86, dX7_copy_88, tg_88_58, cnd2_ge, dX7_copy_91, dX7_copy_92, dX7_copy_94, tg_94_8, cnd2_lt, dX7_copy_97, dX7_copy_99, tg_99_10, dX7_copy_102, dX7_copy_104, ic_1, dX7_copy_105, dX7_copy_106, dX7_copy_108, dX7_copy_109, dX7_copy_111, dX7_copy_112, fl_7_35_7, dX7_copy_115, bc_24, dX7_copy_117, dX7_copy_118, dX7_copy_119, dX7_copy_121, dX7_copy_122, dX7_copy_124, dX7_copy_125, dX7_copy_126, dX7_copy_129, dX7_copy_131, dX7_copy_132, dX7_copy_133, dX7_copy_134, dX7_copy_135, dX7_copy_137, dX7_copy_138, dX7_copy_139, dX7_copy_140, dX7_copy_143, tg_143_m59, dX7_copy_146, dX7_copy_148, jX7_copy_1_219, jX7_copy_0_211, st_aload_n, st_bipush, st_getfield, st_goto, st_iadd, st_iaload, st_iconst, st_ifCond, st_if_icmp, st_iinc, st_iload, st_iload_n, st_imul, st_invokestatic, st_invokevirtual, st_ireturn, st_istore, st_isub, st_laload, st_lastore]
    refine ⟨fun c7 => ?_, fun c7 => ?_⟩
    · rw [if_pos ⟨c6, c7⟩] at h
      obtain ⟨I, N, k, rfl, rfl, e8, e9, e10⟩ := span_n hz1 c3 c6
      obtain ⟨J, N', k', rfl, e12', e13', e14, e15⟩ := span_n hz2 c4 c7
      have hNN : N = N' := by
        rcases Nat.lt_or_ge N' (2 ^ 31) with z | z
        · exact (nI_eq (by omega) z).mp e12'
        · omega
      subst hNN
      rw [nI_clamp (show I < 2 ^ 31 by omega), nI_clamp (show J < 2 ^ 31 by omega), nI_clamp (show N < 2 ^ 31 by omega)] at h
      unfold setS at h
      have hs : RS (updS ψ.2.2.2.2.2.2 r (va_cpy (ψ.2.2.2.2.2.2 q).1 (ψ.2.2.2.2.2.2 r).1 I J N, (ψ.2.2.2.2.2.2 r).2)) (ar 12) (ar 13) (va_cpy it it (24 * q + I) (24 * r + J) N) := by
        intro t ht
        obtain ⟨b1, b2, b3, b4⟩ := hSh t ht
        by_cases e : t = r
        · subst e
          rw [updS_at]
          refine ⟨b1, b2, b3, fun w u hw hwn hu => ?_⟩
          show va_cpy it it (24 * q + I) (24 * t + J) N (24 * t + u) = va_cpy (ψ.2.2.2.2.2.2 q).1 (ψ.2.2.2.2.2.2 t).1 I J N u
          unfold va_cpy
          by_cases c : J ≤ u ∧ u < J + N
          · rw [if_pos c, if_pos (by omega)]
            have := g4 k (I + (u - J)) e10 (by rw [← g2]; exact e8) (by omega)
            rw [← this]
            congr 1
            omega
          · rw [if_neg c, if_neg (by omega)]
            exact b4 w u hw hwn hu
        · rw [updS_n e]
          refine ⟨b1, b2, b3, fun w u hw hwn hu => ?_⟩
          rw [pk_cpy_out (by omega)]
          exact b4 w u hw hwn hu
      have hR2 := hR.upS (ar := ar) (fun _ _ _ => rfl) hs
      have fin : ∀ σ1, frm (fL lab 30) σ σ1 → Mod Γ lab (a, ad) (sc, ar, va_cpy it it (24 * q + I) (24 * r + J) N) σ1 → YG Γ mX7_copy K 84 [(0, .ref a), (1, .int (nI q)), (2, .int (nI I)), (3, .int (nI r)), (4, .int (nI J)), (5, .int (nI N)), (6, .int (nI N))] [] σ1 := by
        intro σ1 hf1 hM1
        have hk := h _ _ hR2 hf1 hM1
        refine yvc1_ok (uX7_copy Γ) (S := [84]) 40 ?_
        simp only [yvc1, geP, yvc_s, s1i, s2i, s1l, s2l, sil, s1r, sir, siir, slir, srir, svr, sd1, sd2, lg, lput, ldel, isL_i, isL_r, isL_l, jmp, obj, obj1, fI, fR, arI, arL, arR, hput, f4_0, f4_1, f4_2, f4_3, lc_0, lc_1, rok_i, rok_b, rok_y, strF, fput_1, fput_2, csum_nil, csum_i, csum_l, csum_r, va_up_self, bx_uu, Int.reduceAdd, List.elem_nil, List.elem_cons, List.take_succ_cons, List.take_zero, List.drop_succ_cons, List.drop_zero, List.take_nil, List.drop_nil, List.reverse_cons, List.reverse_nil, List.nil_append, List.cons_append, List.append_nil, Option.toList_some, Option.toList_none, List.getElem?_cons_zero, List.getElem?_cons_succ, List.set_cons_zero, List.set_cons_succ, List.length_cons, List.length_nil, reduceIte, reduceCtorEq, and_true, true_and, and_self, or_true, true_or, false_and, and_false, not_true_eq_false, not_false_eq_true, true_implies, false_implies, implies_true, Nat.reduceAdd, Nat.reduceLT, Nat.reduceEqDiff, Nat.reduceLeDiff, Nat.reduceBEq, Nat.zero_add, Nat.lt_add_one, Bool.false_eq_true, Bool.or_false, Bool.or_true, Bool.or_self, Nat.zero_ne_one, Nat.one_ne_zero, ite_true, ite_false, ne_eq, Nat.reduceSub, Nat.succ_eq_add_one, Nat.zero_lt_succ, Nat.add_one_ne_zero, false_or, or_false, mX7_copy_c, mX7_copy_n, mX7_copy_r, mX7_copy_l, dX7_copy_0, dX7_copy_1, dX7_copy_4, tg_4_10, cnd1_eq, dX7_copy_7, dX7_copy_8, dX7_copy_11, tg_11_5, cnd1_ne, dX7_copy_14, ic_m1, dX7_copy_15, dX7_copy_16, dX7_copy_17, fl_7_42_7, dX7_copy_20, dX7_copy_21, dX7_copy_22, tg_22_12, cnd1_lt, dX7_copy_25, dX7_copy_26, dX7_copy_29, dX7_copy_30, dX7_copy_31, tg_31_6, cnd1_ge, dX7_copy_34, bc_m11, dX7_copy_36, dX7_copy_37, dX7_copy_38, fl_7_39_7, dX7_copy_41, dX7_copy_42, dX7_copy_43, dX7_copy_44, dX7_copy_47, dX7_copy_48, dX7_copy_49, tg_49_6, cnd2_eq, dX7_copy_52, bc_m12, dX7_copy_54, dX7_copy_55, dX7_copy_56, dX7_copy_57, dX7_copy_58, dX7_copy_60, dX7_copy_63, tg_63_15, dX7_copy_66, dX7_copy_67, dX7_copy_68, dX7_copy_70, dX7_copy_72, dX7_copy_75, tg_75_6, dX7_copy_78, bc_m13, dX7_copy_80, dX7_copy_81, ic_0, dX7_copy_82, dX7_copy_84, dX7_copy_86, dX7_copy_88, tg_88_58, cnd2_ge, dX7_copy_91, dX7_copy_92, dX7_copy_94, tg_94_8, cnd2_lt, dX7_copy_97, dX7_copy_99, tg_99_10, dX7_copy_102, dX7_copy_104, ic_1, dX7_copy_105, dX7_copy_106, dX7_copy_108, dX7_copy_109, dX7_copy_111, dX7_copy_112, fl_7_35_7, dX7_copy_115, bc_24, dX7_copy_117, dX7_copy_118, dX7_copy_119, dX7_copy_121, dX7_copy_122, dX7_copy_124, dX7_copy_125, dX7_copy_126, dX7_copy_129, dX7_copy_131, dX7_copy_132, dX7_copy_133, dX7_copy_134, dX7_copy_135, dX7_copy_137, dX7_copy_138, dX7_copy_139, dX7_copy_140, dX7_copy_143, tg_143_m59, dX7_copy_146, dX7_copy_148, jX7_copy_1_219, jX7_copy_0_211, st_aload_n, st_bipush, st_getfield, st_goto, st_iadd, st_iaload, st_iconst, st_ifCond, st_if_icmp, st_iinc, st_iload, st_iload_n, st_imul, st_invokestatic, st_invokevirtual, st_ireturn, st_istore, st_isub, st_laload, st_lastore]
        exact hk
      by_cases cij : nI I < nI J
      · have hij : I < J := (nI_ltI (by omega) (by omega)).mp cij
        have loop : ∀ m p : Nat, p + m = N → ∀ σ1, frm (fL lab 30) σ σ1 → Mod Γ lab (a, ad) (sc, ar, bkw it (24 * q + I) (24 * r + J) N p) σ1 → YG Γ mX7_copy K 84 [(0, .ref a), (1, .int (nI q)), (2, .int (nI I)), (3, .int (nI r)), (4, .int (nI J)), (5, .int (nI N)), (6, .int (nI p))] [] σ1 := by
          intro m
          induction m with
          | zero =>
            intro p hp σ1 hf1 hM1
            obtain rfl : p = N := by omega
            rw [bkw_n] at hM1
            exact fin σ1 hf1 hM1
          | succ m ih =>
            intro p hp σ1 hf1 hM1
            have c1 := ltN (show p < N by omega) (by omega)
            obtain ⟨i1, i2⟩ := ix24k hq (show I + (N - 1 - p) < 24 by omega)
            obtain ⟨i3, i4⟩ := ix24k hr (show J + (N - 1 - p) < 24 by omega)
            have hrd : bkw it (24 * q + I) (24 * r + J) N p (24 * q + I + (N - 1 - p)) = it (24 * q + I + (N - 1 - p)) := by
              unfold bkw
              rw [if_neg (by omega)]
            have hM2 := hM1.putL (bkw it (24 * q + I) (24 * r + J) N (p + 1))
            have hj1 := ih (p + 1) (by omega) _ (hf1.tr hM1.frL) hM2
            obtain ⟨⟨m1, -⟩, e1, -⟩ := id hM1
            obtain ⟨m11, e11⟩ := hM1.itm
            rw [← bkw_s (show p < N by omega)] at hj1
            simp only [ME, lA, hput] at m1 e1 m11 e11 hj1
            refine yvc1_ok (uX7_copy Γ) (S := [84]) 60 ?_
            simp only [yvc1, c1, cij, nI_subc (show p < N by omega), i1, i2, i3, i4, hrd, m1, e1, m11, e11, nI_1, yvc_s, s1i, s2i, s1l, s2l, sil, s1r, sir, siir, slir, srir, svr, sd1, sd2, lg, lput, ldel, isL_i, isL_r, isL_l, jmp, obj, obj1, fI, fR, arI, arL, arR, hput, f4_0, f4_1, f4_2, f4_3, lc_0, lc_1, rok_i, rok_b, rok_y, strF, fput_1, fput_2, csum_nil, csum_i, csum_l, csum_r, va_up_self, bx_uu, Int.reduceAdd, List.elem_nil, List.elem_cons, List.take_succ_cons, List.take_zero, List.drop_succ_cons, List.drop_zero, List.take_nil, List.drop_nil, List.reverse_cons, List.reverse_nil, List.nil_append, List.cons_append, List.append_nil, Option.toList_some, Option.toList_none, List.getElem?_cons_zero, List.getElem?_cons_succ, List.set_cons_zero, List.set_cons_succ, List.length_cons, List.length_nil, reduceIte, reduceCtorEq, and_true, true_and, and_self, or_true, true_or, false_and, and_false, not_true_eq_false, not_false_eq_true, true_implies, false_implies, implies_true, Nat.reduceAdd, Nat.reduceLT, Nat.reduceEqDiff, Nat.reduceLeDiff, Nat.reduceBEq, Nat.zero_add, Nat.lt_add_one, Bool.false_eq_true, Bool.or_false, Bool.or_true, Bool.or_self, Nat.zero_ne_one, Nat.one_ne_zero, ite_true, ite_false, ne_eq, Nat.reduceSub, Nat.succ_eq_add_one, Nat.zero_lt_succ, Nat.add_one_ne_zero, false_or, or_false, mX7_copy_c, mX7_copy_n, mX7_copy_r, mX7_copy_l, dX7_copy_0, dX7_copy_1, dX7_copy_4, tg_4_10, cnd1_eq, dX7_copy_7, dX7_copy_8, dX7_copy_11, tg_11_5, cnd1_ne, dX7_copy_14, ic_m1, dX7_copy_15, dX7_copy_16, dX7_copy_17, fl_7_42_7, dX7_copy_20, dX7_copy_21, dX7_copy_22, tg_22_12, cnd1_lt, dX7_copy_25, dX7_copy_26, dX7_copy_29, dX7_copy_30, dX7_copy_31, tg_31_6, cnd1_ge, dX7_copy_34, bc_m11, dX7_copy_36, dX7_copy_37, dX7_copy_38, fl_7_39_7, dX7_copy_41, dX7_copy_42, dX7_copy_43, dX7_copy_44, dX7_copy_47, dX7_copy_48, dX7_copy_49, tg_49_6, cnd2_eq, dX7_copy_52, bc_m12, dX7_copy_54, dX7_copy_55, dX7_copy_56, dX7_copy_57, dX7_copy_58, dX7_copy_60, dX7_copy_63, tg_63_15, dX7_copy_66, dX7_copy_67, dX7_copy_68, dX7_copy_70, dX7_copy_72, dX7_copy_75, tg_75_6, dX7_copy_78, bc_m13, dX7_copy_80, dX7_copy_81, ic_0, dX7_copy_82, dX7_copy_84, dX7_copy_86, dX7_copy_88, tg_88_58, cnd2_ge, dX7_copy_91, dX7_copy_92, dX7_copy_94, tg_94_8, cnd2_lt, dX7_copy_97, dX7_copy_99, tg_99_10, dX7_copy_102, dX7_copy_104, ic_1, dX7_copy_105, dX7_copy_106, dX7_copy_108, dX7_copy_109, dX7_copy_111, dX7_copy_112, fl_7_35_7, dX7_copy_115, bc_24, dX7_copy_117, dX7_copy_118, dX7_copy_119, dX7_copy_121, dX7_copy_122, dX7_copy_124, dX7_copy_125, dX7_copy_126, dX7_copy_129, dX7_copy_131, dX7_copy_132, dX7_copy_133, dX7_copy_134, dX7_copy_135, dX7_copy_137, dX7_copy_138, dX7_copy_139, dX7_copy_140, dX7_copy_143, tg_143_m59, dX7_copy_146, dX7_copy_148, jX7_copy_1_219, jX7_copy_0_211, st_aload_n, st_bipush, st_getfield, st_goto, st_iadd, st_iaload, st_iconst, st_ifCond, st_if_icmp, st_iinc, st_iload, st_iload_n, st_imul, st_invokestatic, st_invokevirtual, st_ireturn, st_istore, st_isub, st_laload, st_lastore]
            exact hj1.ext [(7, _)]
        exact loop N 0 (by omega) σ frm.rf (by rw [bkw_0]; exact hM)
      · have hij : J ≤ I := by
          rcases Nat.lt_or_ge I J with z | z
          · exact absurd ((nI_ltI (by omega) (by omega)).mpr z) cij
          · exact z
        have loop : ∀ m p : Nat, p + m = N → ∀ σ1, frm (fL lab 30) σ σ1 → Mod Γ lab (a, ad) (sc, ar, va_cpy it it (24 * q + I) (24 * r + J) p) σ1 → YG Γ mX7_copy K 84 [(0, .ref a), (1, .int (nI q)), (2, .int (nI I)), (3, .int (nI r)), (4, .int (nI J)), (5, .int (nI N)), (6, .int (nI p))] [] σ1 := by
          intro m
          induction m with
          | zero =>
            intro p hp σ1 hf1 hM1
            obtain rfl : p = N := by omega
            exact fin σ1 hf1 hM1
          | succ m ih =>
            intro p hp σ1 hf1 hM1
            have c1 := ltN (show p < N by omega) (by omega)
            obtain ⟨i1, i2⟩ := ix24k hq (show I + p < 24 by omega)
            obtain ⟨i3, i4⟩ := ix24k hr (show J + p < 24 by omega)
            have hrd : va_cpy it it (24 * q + I) (24 * r + J) p (24 * q + I + p) = it (24 * q + I + p) := pk_cpy_out (by omega)
            have hM2 := hM1.putL (va_cpy it it (24 * q + I) (24 * r + J) (p + 1))
            have hj1 := ih (p + 1) (by omega) _ (hf1.tr hM1.frL) hM2
            obtain ⟨⟨m1, -⟩, e1, -⟩ := id hM1
            obtain ⟨m11, e11⟩ := hM1.itm
            rw [← cpyL_s] at hj1
            simp only [ME, lA, hput] at m1 e1 m11 e11 hj1
            refine yvc1_ok (uX7_copy Γ) (S := [84]) 60 ?_
            simp only [yvc1, c1, cij, i1, i2, i3, i4, hrd, m1, e1, m11, e11, nI_1, yvc_s, s1i, s2i, s1l, s2l, sil, s1r, sir, siir, slir, srir, svr, sd1, sd2, lg, lput, ldel, isL_i, isL_r, isL_l, jmp, obj, obj1, fI, fR, arI, arL, arR, hput, f4_0, f4_1, f4_2, f4_3, lc_0, lc_1, rok_i, rok_b, rok_y, strF, fput_1, fput_2, csum_nil, csum_i, csum_l, csum_r, va_up_self, bx_uu, Int.reduceAdd, List.elem_nil, List.elem_cons, List.take_succ_cons, List.take_zero, List.drop_succ_cons, List.drop_zero, List.take_nil, List.drop_nil, List.reverse_cons, List.reverse_nil, List.nil_append, List.cons_append, List.append_nil, Option.toList_some, Option.toList_none, List.getElem?_cons_zero, List.getElem?_cons_succ, List.set_cons_zero, List.set_cons_succ, List.length_cons, List.length_nil, reduceIte, reduceCtorEq, and_true, true_and, and_self, or_true, true_or, false_and, and_false, not_true_eq_false, not_false_eq_true, true_implies, false_implies, implies_true, Nat.reduceAdd, Nat.reduceLT, Nat.reduceEqDiff, Nat.reduceLeDiff, Nat.reduceBEq, Nat.zero_add, Nat.lt_add_one, Bool.false_eq_true, Bool.or_false, Bool.or_true, Bool.or_self, Nat.zero_ne_one, Nat.one_ne_zero, ite_true, ite_false, ne_eq, Nat.reduceSub, Nat.succ_eq_add_one, Nat.zero_lt_succ, Nat.add_one_ne_zero, false_or, or_false, mX7_copy_c, mX7_copy_n, mX7_copy_r, mX7_copy_l, dX7_copy_0, dX7_copy_1, dX7_copy_4, tg_4_10, cnd1_eq, dX7_copy_7, dX7_copy_8, dX7_copy_11, tg_11_5, cnd1_ne, dX7_copy_14, ic_m1, dX7_copy_15, dX7_copy_16, dX7_copy_17, fl_7_42_7, dX7_copy_20, dX7_copy_21, dX7_copy_22, tg_22_12, cnd1_lt, dX7_copy_25, dX7_copy_26, dX7_copy_29, dX7_copy_30, dX7_copy_31, tg_31_6, cnd1_ge, dX7_copy_34, bc_m11, dX7_copy_36, dX7_copy_37, dX7_copy_38, fl_7_39_7, dX7_copy_41, dX7_copy_42, dX7_copy_43, dX7_copy_44, dX7_copy_47, dX7_copy_48, dX7_copy_49, tg_49_6, cnd2_eq, dX7_copy_52, bc_m12, dX7_copy_54, dX7_copy_55, dX7_copy_56, dX7_copy_57, dX7_copy_58, dX7_copy_60, dX7_copy_63, tg_63_15, dX7_copy_66, dX7_copy_67, dX7_copy_68, dX7_copy_70, dX7_copy_72, dX7_copy_75, tg_75_6, dX7_copy_78, bc_m13, dX7_copy_80, dX7_copy_81, ic_0, dX7_copy_82, dX7_copy_84, dX7_copy_86, dX7_copy_88, tg_88_58, cnd2_ge, dX7_copy_91, dX7_copy_92, dX7_copy_94, tg_94_8, cnd2_lt, dX7_copy_97, dX7_copy_99, tg_99_10, dX7_copy_102, dX7_copy_104, ic_1, dX7_copy_105, dX7_copy_106, dX7_copy_108, dX7_copy_109, dX7_copy_111, dX7_copy_112, fl_7_35_7, dX7_copy_115, bc_24, dX7_copy_117, dX7_copy_118, dX7_copy_119, dX7_copy_121, dX7_copy_122, dX7_copy_124, dX7_copy_125, dX7_copy_126, dX7_copy_129, dX7_copy_131, dX7_copy_132, dX7_copy_133, dX7_copy_134, dX7_copy_135, dX7_copy_137, dX7_copy_138, dX7_copy_139, dX7_copy_140, dX7_copy_143, tg_143_m59, dX7_copy_146, dX7_copy_148, jX7_copy_1_219, jX7_copy_0_211, st_aload_n, st_bipush, st_getfield, st_goto, st_iadd, st_iaload, st_iconst, st_ifCond, st_if_icmp, st_iinc, st_iload, st_iload_n, st_imul, st_invokestatic, st_invokevirtual, st_ireturn, st_istore, st_isub, st_laload, st_lastore]
            exact hj1.ext [(7, _)]
        exact loop N 0 (by omega) σ frm.rf (by rw [cpyL_0]; exact hM)
    · rw [if_neg (fun z => c7 z.2)] at h
      exact h _ _ hR frm.rf hM
  · rw [if_neg (fun z => z.elim c3 c4), if_neg c5] at h
    exact h _ _ hR frm.rf hM
  · rw [if_pos (Or.inr (Classical.not_not.mp c4))] at h
    exact h _ _ hR frm.rf hM
