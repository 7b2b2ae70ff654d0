/-! ===== YawnKeysModel: the rule, people ===== -/
theorem r10 {x y : Int32} : 10 * x + y - 48 = x * 10 + y - 48 := by rw [Int32.mul_comm]
theorem r0 {y : Int32} : 0 * 10 + y - 48 = y - 48 := by rw [Int32.zero_mul, Int32.zero_add]
theorem rn2 {l : Nat → Int32} {len q : Nat} : rn l len 2 q 0 = if isd (ltr l len q) = true then (if isd (ltr l len (q + 1)) = true then ((ltr l len q - 48) * 10 + ltr l len (q + 1) - 48, q + 2) else (ltr l len q - 48, q + 1)) else (0, q) := by
  show (if isd (ltr l len q) = true then (if isd (ltr l len (q + 1)) = true then rn l len 0 (q + 1 + 1) ((0 * 10 + ltr l len q - 48) * 10 + ltr l len (q + 1) - 48) else (0 * 10 + ltr l len q - 48, q + 1)) else (0, q)) = _
  rw [r0]
  rfl
def sp_X7_number (Γ : Cx) : YSp := fun av σ K => ∃ (l : Nat → Int32) (len p : Nat), mq Γ [] (fun s => s.1 20 = nI p ∧ p ≤ len ∧ RT (l, len) (s.1 14) (s.2.1 15)) (fun s s' r => SFp s s' ∧ s'.1 23 = s.1 23 ∧ s'.1 21 = nI (nx l len p) ∧ ((rR l len p).1 = true → s'.1 20 = nI (rR l len p).2.2 ∧ s'.1 22 = (rR l len p).2.1) ∧ r = some (.int (bI (rR l len p).1))) av σ K
theorem rv_X7_number {Γ : Cx} : Recv (sp_X7_number Γ) 0 7 := by
  intro av σ K h
  obtain ⟨l, len, p, h⟩ := h
  obtain ⟨q, fs, h1, h2, h3⟩ := rv_mq h
  exact ⟨q, _, fs, h1, rfl, h2, h3⟩
theorem bw_873 : Cond.code yX7_next cX7_next 1 (some .int) ∈ BW := bw_i 873 (by decide +kernel) (by decide +kernel)
theorem no_X7_next : NameOK yX7_next 0 := by unfold NameOK; decide +kernel
theorem bw_870 : Cond.methodLink RX7 142 yX7_next ∈ BW := bw_i 870 (by decide +kernel) (by decide +kernel)
theorem bw_872 : Cond.instanceMethod yX7_next ∈ BW := bw_i 872 (by decide +kernel) (by decide +kernel)
theorem bw_24 : Cond.selects RX7 yX7_next yX7_next ∈ BW := bw_i 24 (by decide +kernel) (by decide +kernel)
theorem bw_876 : Cond.code yX7_isDigit cX7_isDigit 1 (some .boolean) ∈ BW := bw_i 876 (by decide +kernel) (by decide +kernel)
theorem no_X7_isDigit : NameOK yX7_isDigit 1 := by unfold NameOK; decide +kernel
theorem bw_874 : Cond.methodLink RX7 146 yX7_isDigit ∈ BW := bw_i 874 (by decide +kernel) (by decide +kernel)
theorem bw_875 : Cond.static yX7_isDigit ∈ BW := bw_i 875 (by decide +kernel) (by decide +kernel)
theorem tg_30_52 : tgo 30 52 = some 82 := by decide
theorem tg_45_37 : tgo 45 37 = some 82 := by decide
def mX7_number : Mt := (⟨2, 0, 0, 45⟩, RX7, cX7_number, 2, some .boolean, (0, 0), none)
theorem mX7_number_c : mX7_number.2.2.1 = cX7_number := rfl
theorem mX7_number_n : mX7_number.2.2.2.1 = 2 := rfl
theorem mX7_number_r : mX7_number.2.2.2.2.1 = some .boolean := rfl
theorem mX7_number_l : mX7_number.2.2.2.2.2.2 = none := rfl
def jX7_number (Γ : Cx) : List ((Nat × Nat) × Nat × Bool × YSp) := [((0, 142), 1, false, sp_X7_next Γ), ((1, 146), 1, true, sp_X7_isDigit Γ), ((1, 63), 3, true, sp_X7_lies Γ)]
theorem jX7_number_0_142 (Γ : Cx) : kT (jX7_number Γ) 0 142 = some (1, false, sp_X7_next Γ) := rfl
theorem jX7_number_1_146 (Γ : Cx) : kT (jX7_number Γ) 1 146 = some (1, true, sp_X7_isDigit Γ) := rfl
theorem jX7_number_1_63 (Γ : Cx) : kT (jX7_number Γ) 1 63 = some (3, true, sp_X7_lies Γ) := rfl
theorem uX7_number (Γ : Cx) : TbOK Γ mX7_number (fT fX7, cT kX7, kT (jX7_number Γ)) := tb_ok fX7_ok kX7_ok (all_cons ⟨call_V (n := 0) (T := TX7) (N := 26) (ok_X7_next Γ) (rv_X7_next (Γ := Γ)) rfl bw_873 bw_870 bw_872 bw_24 bw_49 no_X7_next ⟨⟨rfl, rfl⟩, ⟨by decide, by decide⟩, ⟨by decide, by decide⟩⟩, fun z => by cases z⟩ (all_cons ⟨call_S (n := 1) (ok_X7_isDigit Γ) (rv_X7_isDigit (Γ := Γ)) bw_876 bw_874 bw_875 bw_49 no_X7_isDigit ⟨⟨rfl, rfl⟩, ⟨by decide, by decide⟩, ⟨by decide, by decide⟩⟩, fun _ => mono_X7_isDigit (Γ := Γ)⟩ (all_cons ⟨call_S (n := 3) (ok_X7_lies Γ) (rv_X7_lies (Γ := Γ)) bw_797 bw_795 bw_796 bw_49 no_X7_lies ⟨⟨rfl, rfl⟩, ⟨by decide, by decide⟩, ⟨by decide, by decide⟩⟩, fun _ => mono_X7_lies (Γ := Γ)⟩ (all_nil))))
set_option maxRecDepth 20000 in
theorem ok_X7_number (Γ : Cx) : Ok Γ yX7_number mX7_number (sp_X7_number Γ) := by
  refine ok_intro (by decide +kernel) rfl rfl ?_
  intro av σ K h
  obtain ⟨l, len, p, lab, ⟨a, ad⟩, ⟨sc, ar, it⟩, rfl, hM, ⟨h20, hp, hT⟩, h⟩ := h
  simp only at h h20 hT
  obtain ⟨t1, t2, t3⟩ := id hT
  simp only at t1 t2 t3
  have hq := nx_le (l := l) hp
  obtain ⟨q, hqe⟩ : ∃ q, nx l len p = q := ⟨_, rfl⟩
  rw [hqe] at h hq
  have hml := mlt_ltr (p := q) hT
  have hrr : ∀ (v : Int32) (pos : Nat), rn l len 2 q 0 = (v, pos) → rR l len p = if inr v 1 20 = true then (true, v, pos) else (false, v, q) := fun v pos e => by
    unfold rR
    rw [hqe, e]
  refine ⟨Nat.le_of_ble_eq_true rfl, yvc_ok (uX7_number Γ) (S := []) 60 _ _ _ _ ?_⟩
  simp only [lv_args, Value.category, yvc_s, s1i, s2i, s1l, s2l, sil, s1r, sir, siir, slir, srir, svr, sd1, sd2, lg, lput, ldel, isL_i, isL_r, isL_l, jmp, obj, obj1, fI, fR, arI, arL, arR, hput, f4_0, f4_1, f4_2, f4_3, lc_0, lc_1, rok_i, rok_b, rok_y, strF, fput_1, fput_2, csum_nil, csum_i, csum_l, csum_r, va_up_self, bx_uu, Int.reduceAdd, List.elem_nil, List.elem_cons, List.take_succ_cons, List.take_zero, List.drop_succ_cons, List.drop_zero, List.take_nil, List.drop_nil, List.reverse_cons, List.reverse_nil, List.nil_append, List.cons_append, List.append_nil, Option.toList_some, Option.toList_none, List.getElem?_cons_zero, List.getElem?_cons_succ, List.set_cons_zero, List.set_cons_succ, List.length_cons, List.length_nil, reduceIte, reduceCtorEq, and_true, true_and, and_self, or_true, true_or, false_and, and_false, not_true_eq_false, not_false_eq_true, true_implies, false_implies, implies_true, Nat.reduceAdd, Nat.reduceLT, Nat.reduceEqDiff, Nat.reduceLeDiff, Nat.reduceBEq, Nat.zero_add, Nat.lt_add_one, Bool.false_eq_true, Bool.or_false, Bool.or_true, Bool.or_self, Nat.zero_ne_one, Nat.one_ne_zero, ite_true, ite_false, ne_eq, Nat.reduceSub, Nat.succ_eq_add_one, Nat.zero_lt_succ, Nat.add_one_ne_zero, false_or, or_false, mX7_number_c, mX7_number_n, mX7_number_r, mX7_number_l, dX7_number_0, dX7_number_1, dX7_number_4, dX7_number_5, dX7_number_6, dX7_number_9, tg_9_5, cnd1_ne, dX7_number_12, ic_0, dX7_number_13, dX7_number_14, dX7_number_15, dX7_number_16, bc_48, dX7_number_18, dX7_number_19, fl_7_149_7, dX7_number_22, dX7_number_23, fl_7_132_7, dX7_number_26, dX7_number_27, fl_7_129_7, dX7_number_30, tg_30_52, cnd2_ge, dX7_number_33, dX7_number_34, fl_7_45_7, dX7_number_37, dX7_number_38, dX7_number_41, dX7_number_42, dX7_number_45, tg_45_37, cnd1_eq, dX7_number_48, dX7_number_49, bc_10, dX7_number_51, dX7_number_52, dX7_number_55, dX7_number_56, dX7_number_57, dX7_number_60, dX7_number_61, dX7_number_64, dX7_number_65, dX7_number_66, dX7_number_68, dX7_number_69, dX7_number_72, dX7_number_73, dX7_number_74, dX7_number_77, ic_1, dX7_number_78, dX7_number_79, dX7_number_82, dX7_number_83, dX7_number_86, dX7_number_87, dX7_number_88, cl_7_102, dX7_number_91, dX7_number_94, jX7_number_0_142, jX7_number_1_146, jX7_number_1_63, st_aload_n, st_bipush, st_dup, st_getfield, st_i2l, st_iadd, st_iaload, st_iconst, st_ifCond, st_if_icmp, st_iload_n, st_imul, st_invokestatic, st_invokevirtual, st_ireturn, st_istore_n, st_isub, st_lconst, st_ldc2_w, st_putfield]
  refine ⟨l, len, p, lab, (a, ad), (sc, ar, it), rfl, hM, ⟨h20, hp, hT⟩, ?_⟩
  rintro σ1 s1 r1 ⟨hs1, rfl⟩ hf1 hM1
  rw [hqe] at hs1 ⊢
  rw [hs1] at hM1
  unfold nxS at hM1
  have fin : ∀ (v : Int32) (pos : Nat) (σ2 : Hp), rn l len 2 q 0 = (v, pos) → frm (fL lab 30) σ σ2 → Mod Γ lab (a, ad) (upd (upd (upd sc 20 (nI pos)) 21 (nI q)) 22 v, ar, it) σ2 → YG Γ mX7_number K 82 [(0, .ref a), (1, .int (mlt l len q))] [] σ2 := by
    intro v pos σ2 hrn hf2 hM2
    have h0 := hrr v pos hrn
    have hk := h σ2 (upd (upd (upd sc 20 (nI pos)) 21 (nI q)) 22 v, ar, it) _ ⟨⟨rfl, fun j hj => ((pk_un (by omega)).trans (pk_un (by omega))).trans (pk_un (by omega)), fun _ _ => rfl⟩, rfl, rfl, fun c => ?_, rfl⟩ hf2 hM2
    · have e2 : (rR l len p).1 = inr v 1 20 := by
        rw [h0]
        by_cases c : inr v 1 20 = true
        · rw [if_pos c, c]
        · rw [if_neg c, Bool.eq_false_iff.mpr c]
      rw [e2] at hk
      obtain ⟨⟨m1, -⟩, e1, -⟩ := id hM2
      simp only [ME] at m1 e1
      rw [show upd (upd (upd sc 20 (nI pos)) 21 (nI q)) 22 v 22 = v from pk_us] at e1
      refine yvc_ok (uX7_number Γ) (S := []) 60 _ _ _ _ ?_
      simp only [m1, e1, sp_X7_lies, inL_120, yvc_s, s1i, s2i, s1l, s2l, sil, s1r, sir, siir, slir, srir, svr, sd1, sd2, lg, lput, ldel, isL_i, isL_r, isL_l, jmp, obj, obj1, fI, fR, arI, arL, arR, hput, f4_0, f4_1, f4_2, f4_3, lc_0, lc_1, rok_i, rok_b, rok_y, strF, fput_1, fput_2, csum_nil, csum_i, csum_l, csum_r, va_up_self, bx_uu, Int.reduceAdd, List.elem_nil, List.elem_cons, List.take_succ_cons, List.take_zero, List.drop_succ_cons, List.drop_zero, List.take_nil, List.drop_nil, List.reverse_cons, List.reverse_nil, List.nil_append, List.cons_append, List.append_nil, Option.toList_some, Option.toList_none, List.getElem?_cons_zero, List.getElem?_cons_succ, List.set_cons_zero, List.set_cons_succ, List.length_cons, List.length_nil, reduceIte, reduceCtorEq, and_true, true_and, and_self, or_true, true_or, false_and, and_false, not_true_eq_false, not_false_eq_true, true_implies, false_implies, implies_true, Nat.reduceAdd, Nat.reduceLT, Nat.reduceEqDiff, Nat.reduceLeDiff, Nat.reduceBEq, Nat.zero_add, Nat.lt_add_one, Bool.false_eq_true, Bool.or_false, Bool.or_true, Bool.or_self, Nat.zero_ne_one, Nat.one_ne_zero, ite_true, ite_false, ne_eq, Nat.reduceSub, Nat.succ_eq_add_one, Nat.zero_lt_succ, Nat.add_one_ne_zero, false_or, or_false, mX7_number_c, mX7_number_n, mX7_number_r, mX7_number_l, dX7_number_0, dX7_number_1, dX7_number_4, dX7_number_5, dX7_number_6, dX7_number_9, tg_9_5, cnd1_ne, dX7_number_12, ic_0, dX7_number_13, dX7_number_14, dX7_number_15, dX7_number_16, bc_48, dX7_number_18, dX7_number_19, fl_7_149_7, dX7_number_22, dX7_number_23, fl_7_132_7, dX7_number_26, dX7_number_27, fl_7_129_7, dX7_number_30, tg_30_52, cnd2_ge, dX7_number_33, dX7_number_34, fl_7_45_7, dX7_number_37, dX7_number_38, dX7_number_41, dX7_number_42, dX7_number_45, tg_45_37, cnd1_eq, dX7_number_48, dX7_number_49, bc_10, dX7_number_51, dX7_number_52, dX7_number_55, dX7_number_56, dX7_number_57, dX7_number_60, dX7_number_61, dX7_number_64, dX7_number_65, dX7_number_66, dX7_number_68, dX7_number_69, dX7_number_72, dX7_number_73, dX7_number_74, dX7_number_77, ic_1, dX7_number_78, dX7_number_79, dX7_number_82, dX7_number_83, dX7_number_86, dX7_number_87, dX7_number_88, cl_7_102, dX7_number_91, dX7_number_94, jX7_number_0_142, jX7_number_1_146, jX7_number_1_63, st_aload_n, st_bipush, st_dup, st_getfield, st_i2l, st_iadd, st_iaload, st_iconst, st_ifCond, st_if_icmp, st_iload_n, st_imul, st_invokestatic, st_invokevirtual, st_ireturn, st_istore_n, st_isub, st_lconst, st_ldc2_w, st_putfield]
      exact ⟨bI_01, hk⟩
    · rw [h0] at c ⊢
      by_cases d : inr v 1 20 = true
      · rw [if_pos d]
        exact ⟨rfl, rfl⟩
      · rw [if_neg d] at c
        cases c
  refine yvc_ok (uX7_number Γ) (S := [14]) 60 _ _ _ _ ?_
  simp only [sp_X7_isDigit, bI_eq0, Bool.not_eq_false, yvc_s, s1i, s2i, s1l, s2l, sil, s1r, sir, siir, slir, srir, svr, sd1, sd2, lg, lput, ldel, isL_i, isL_r, isL_l, jmp, obj, obj1, fI, fR, arI, arL, arR, hput, f4_0, f4_1, f4_2, f4_3, lc_0, lc_1, rok_i, rok_b, rok_y, strF, fput_1, fput_2, csum_nil, csum_i, csum_l, csum_r, va_up_self, bx_uu, Int.reduceAdd, List.elem_nil, List.elem_cons, List.take_succ_cons, List.take_zero, List.drop_succ_cons, List.drop_zero, List.take_nil, List.drop_nil, List.reverse_cons, List.reverse_nil, List.nil_append, List.cons_append, List.append_nil, Option.toList_some, Option.toList_none, List.getElem?_cons_zero, List.getElem?_cons_succ, List.set_cons_zero, List.set_cons_succ, List.length_cons, List.length_nil, reduceIte, reduceCtorEq, and_true, true_and, and_self, or_true, true_or, false_and, and_false, not_true_eq_false, not_false_eq_true, true_implies, false_implies, implies_true, Nat.reduceAdd, Nat.reduceLT, Nat.reduceEqDiff, Nat.reduceLeDiff, Nat.reduceBEq, Nat.zero_add, Nat.lt_add_one, Bool.false_eq_true, Bool.or_false, Bool.or_true, Bool.or_self, Nat.zero_ne_one, Nat.one_ne_zero, ite_true, ite_false, ne_eq, Nat.reduceSub, Nat.succ_eq_add_one, Nat.zero_lt_succ, Nat.add_one_ne_zero, false_or, or_false, mX7_number_c, mX7_number_n, mX7_number_r, mX7_number_l, dX7_number_0, dX7_number_1, dX7_number_4, dX7_number_5, dX7_number_6, dX7_number_9, tg_9_5, cnd1_ne, dX7_number_12, ic_0, dX7_number_13, dX7_number_14, dX7_number_15, dX7_number_16, bc_48, dX7_number_18, dX7_number_19, fl_7_149_7, dX7_number_22, dX7_number_23, fl_7_132_7, dX7_number_26, dX7_number_27, fl_7_129_7, dX7_number_30, tg_30_52, cnd2_ge, dX7_number_33, dX7_number_34, fl_7_45_7, dX7_number_37, dX7_number_38, dX7_number_41, dX7_number_42, dX7_number_45, tg_45_37, cnd1_eq, dX7_number_48, dX7_number_49, bc_10, dX7_number_51, dX7_number_52, dX7_number_55, dX7_number_56, dX7_number_57, dX7_number_60, dX7_number_61, dX7_number_64, dX7_number_65, dX7_number_66, dX7_number_68, dX7_number_69, dX7_number_72, dX7_number_73, dX7_number_74, dX7_number_77, ic_1, dX7_number_78, dX7_number_79, dX7_number_82, dX7_number_83, dX7_number_86, dX7_number_87, dX7_number_88, cl_7_102, dX7_number_91, dX7_number_94, jX7_number_0_142, jX7_number_1_146, jX7_number_1_63, st_aload_n, st_bipush, st_dup, st_getfield, st_i2l, st_iadd, st_iaload, st_iconst, st_ifCond, st_if_icmp, st_iload_n, st_imul, st_invokestatic, st_invokevirtual, st_ireturn, st_istore_n, st_isub, st_lconst, st_ldc2_w, st_putfield]
  have hi := mq_isd hml
  refine ⟨fun c => ?_, fun c => ?_⟩
  · rw [← hi] at c
    have hlt := isd_lt c
    have hmv : mlt l len q = ltr l len q := by unfold mlt ltr; rw [if_pos hlt, if_pos hlt]
    have hM2 := hM1.putO (upd (upd (upd sc 20 (nI (q + 1))) 21 (nI q)) 22 (mlt l len q - 48))
    have hM3 := hM1.putO (upd (upd (upd sc 20 (nI (q + 2))) 21 (nI q)) 22 ((mlt l len q - 48) * 10 + l (q + 1) - 48))
    have fA := fun hrn => fin (mlt l len q - 48) (q + 1) _ hrn (hf1.tr hM1.frO) hM2
    have fB := fun hrn => fin ((mlt l len q - 48) * 10 + l (q + 1) - 48) (q + 2) _ hrn (hf1.tr hM1.frO) hM3
    rw [rn2, if_pos c, hmv] at fA fB
    have n1 := fun f x => hM1.neO (k := 15) rfl f x
    obtain ⟨⟨m1, -⟩, e1, -⟩ := id hM1
    obtain ⟨m15, e15⟩ := hM1.arr 15 rfl
    simp only [ME, iA, lenM, hput] at m1 e1 m15 e15 n1 fA fB
    rw [hmv]
    rw [show upd (upd sc 20 (nI (q + 1))) 21 (nI q) 14 = nI len from t1, show upd (upd sc 20 (nI (q + 1))) 21 (nI q) 20 = nI (q + 1) from rfl] at e1
    rw [show upd (upd (upd sc 20 (nI (q + 1))) 21 (nI q)) 22 (ltr l len q - 48) 14 = nI len from t1, show upd (upd (upd sc 20 (nI (q + 1))) 21 (nI q)) 22 (ltr l len q - 48) 20 = nI (q + 1) from rfl] at fA
    rw [show upd (upd (upd sc 20 (nI (q + 2))) 21 (nI q)) 22 ((ltr l len q - 48) * 10 + l (q + 1) - 48) 14 = nI len from t1] at fB
    refine yvc1_ok (uX7_number Γ) (S := [14, 82]) 90 ?_
    by_cases c2 : q + 1 < len
    · have hl1 : ltr l len (q + 1) = l (q + 1) := by unfold ltr; rw [if_pos c2]
      have ht := (t3 (q + 1) c2).1
      have c3 : ¬ ¬ q + 1 < len := fun z => z c2
      rw [hl1] at fA fB
      simp only [yvc1, m1, e1, m15, e15, n1, pl_ge t2 (show q + 1 < 100 by omega), c3, in50 t2 c2, cl50 (show q + 1 < 100 by omega), ht, sp_X7_isDigit, bI_eq0, Bool.not_eq_false, r10, nI_1, yvc_s, s1i, s2i, s1l, s2l, sil, s1r, sir, siir, slir, srir, svr, sd1, sd2, lg, lput, ldel, isL_i, isL_r, isL_l, jmp, obj, obj1, fI, fR, arI, arL, arR, hput, f4_0, f4_1, f4_2, f4_3, lc_0, lc_1, rok_i, rok_b, rok_y, strF, fput_1, fput_2, csum_nil, csum_i, csum_l, csum_r, va_up_self, bx_uu, Int.reduceAdd, List.elem_nil, List.elem_cons, List.take_succ_cons, List.take_zero, List.drop_succ_cons, List.drop_zero, List.take_nil, List.drop_nil, List.reverse_cons, List.reverse_nil, List.nil_append, List.cons_append, List.append_nil, Option.toList_some, Option.toList_none, List.getElem?_cons_zero, List.getElem?_cons_succ, List.set_cons_zero, List.set_cons_succ, List.length_cons, List.length_nil, reduceIte, reduceCtorEq, and_true, true_and, and_self, or_true, true_or, false_and, and_false, not_true_eq_false, not_false_eq_true, true_implies, false_implies, implies_true, Nat.reduceAdd, Nat.reduceLT, Nat.reduceEqDiff, Nat.reduceLeDiff, Nat.reduceBEq, Nat.zero_add, Nat.lt_add_one, Bool.false_eq_true, Bool.or_false, Bool.or_true, Bool.or_self, Nat.zero_ne_one, Nat.one_ne_zero, ite_true, ite_false, ne_eq, Nat.reduceSub, Nat.succ_eq_add_one, Nat.zero_lt_succ, Nat.add_one_ne_zero, false_or, or_false, mX7_number_c, mX7_number_n, mX7_number_r, mX7_number_l, dX7_number_0, dX7_number_1, dX7_number_4, dX7_number_5, dX7_number_6, dX7_number_9, tg_9_5, cnd1_ne, dX7_number_12, ic_0, dX7_number_13, dX7_number_14, dX7_number_15, dX7_number_16, bc_48, dX7_number_18, dX7_number_19, fl_7_149_7, dX7_number_22, dX7_number_23, fl_7_132_7, dX7_number_26, dX7_number_27, fl_7_129_7, dX7_number_30, tg_30_52, cnd2_ge, dX7_number_33, dX7_number_34, fl_7_45_7, dX7_number_37, dX7_number_38, dX7_number_41, dX7_number_42, dX7_number_45, tg_45_37, cnd1_eq, dX7_number_48, dX7_number_49, bc_10, dX7_number_51, dX7_number_52, dX7_number_55, dX7_number_56, dX7_number_57, dX7_number_60, dX7_number_61, dX7_number_64, dX7_number_65, dX7_number_66, dX7_number_68, dX7_number_69, dX7_number_72, dX7_number_73, dX7_number_74, dX7_number_77, ic_1, dX7_number_78, dX7_number_79, dX7_number_82, dX7_number_83, dX7_number_86, dX7_number_87, dX7_number_88, cl_7_102, dX7_number_91, dX7_number_94, jX7_number_0_142, jX7_number_1_146, jX7_number_1_63, st_aload_n, st_bipush, st_dup, st_getfield, st_i2l, st_iadd, st_iaload, st_iconst, st_ifCond, st_if_icmp, st_iload_n, st_imul, st_invokestatic, st_invokevirtual, st_ireturn, st_istore_n, st_isub, st_lconst, st_ldc2_w, st_putfield]
      refine ⟨fun d => ?_, fun d => ?_⟩
      · exact fA (by rw [if_neg (fun z => by unfold isd at z; rw [d] at z; cases z)])
      · exact fB (by rw [if_pos (show isd (l (q + 1)) = true from d)])
    · have hl1 : ltr l len (q + 1) = -1 := by unfold ltr; rw [if_neg c2]
      simp only [yvc1, m1, e1, m15, e15, n1, pl_ge t2 (show q + 1 < 100 by omega), c2, yvc_s, s1i, s2i, s1l, s2l, sil, s1r, sir, siir, slir, srir, svr, sd1, sd2, lg, lput, ldel, isL_i, isL_r, isL_l, jmp, obj, obj1, fI, fR, arI, arL, arR, hput, f4_0, f4_1, f4_2, f4_3, lc_0, lc_1, rok_i, rok_b, rok_y, strF, fput_1, fput_2, csum_nil, csum_i, csum_l, csum_r, va_up_self, bx_uu, Int.reduceAdd, List.elem_nil, List.elem_cons, List.take_succ_cons, List.take_zero, List.drop_succ_cons, List.drop_zero, List.take_nil, List.drop_nil, List.reverse_cons, List.reverse_nil, List.nil_append, List.cons_append, List.append_nil, Option.toList_some, Option.toList_none, List.getElem?_cons_zero, List.getElem?_cons_succ, List.set_cons_zero, List.set_cons_succ, List.length_cons, List.length_nil, reduceIte, reduceCtorEq, and_true, true_and, and_self, or_true, true_or, false_and, and_false, not_true_eq_false, not_false_eq_true, true_implies, false_implies, implies_true, Nat.reduceAdd, Nat.reduceLT, Nat.reduceEqDiff, Nat.reduceLeDiff, Nat.reduceBEq, Nat.zero_add, Nat.lt_add_one, Bool.false_eq_true, Bool.or_false, Bool.or_true, Bool.or_self, Nat.zero_ne_one, Nat.one_ne_zero, ite_true, ite_false, ne_eq, Nat.reduceSub, Nat.succ_eq_add_one, Nat.zero_lt_succ, Nat.add_one_ne_zero, false_or, or_false, mX7_number_c, mX7_number_n, mX7_number_r, mX7_number_l, dX7_number_0, dX7_number_1, dX7_number_4, dX7_number_5, dX7_number_6, dX7_number_9, tg_9_5, cnd1_ne, dX7_number_12, ic_0, dX7_number_13, dX7_number_14, dX7_number_15, dX7_number_16, bc_48, dX7_number_18, dX7_number_19, fl_7_149_7, dX7_number_22, dX7_number_23, fl_7_132_7, dX7_number_26, dX7_number_27, fl_7_129_7, dX7_number_30, tg_30_52, cnd2_ge, dX7_number_33, dX7_number_34, fl_7_45_7, dX7_number_37, dX7_number_38, dX7_number_41, dX7_number_42, dX7_number_45, tg_45_37, cnd1_eq, dX7_number_48, dX7_number_49, bc_10, dX7_number_51, dX7_number_52, dX7_number_55, dX7_number_56, dX7_number_57, dX7_number_60, dX7_number_61, dX7_number_64, dX7_number_65, dX7_number_66, dX7_number_68, dX7_number_69, dX7_number_72, dX7_number_73, dX7_number_74, dX7_number_77, ic_1, dX7_number_78, dX7_number_79, dX7_number_82, dX7_number_83, dX7_number_86, dX7_number_87, dX7_number_88, cl_7_102, dX7_number_91, dX7_number_94, jX7_number_0_142, jX7_number_1_146, jX7_number_1_63, st_aload_n, st_bipush, st_dup, st_getfield, st_i2l, st_iadd, st_iaload, st_iconst, st_ifCond, st_if_icmp, st_iload_n, st_imul, st_invokestatic, st_invokevirtual, st_ireturn, st_istore_n, st_isub, st_lconst, st_ldc2_w, st_putfield]
      exact fA (by rw [hl1, if_neg (by decide)])
  · rw [Bool.not_eq_true] at c
    rw [← hi] at c
    have h0 := hrr 0 q (by rw [rn2, if_neg (by rw [c]; decide)])
    rw [if_neg (by decide)] at h0
    rw [h0] at h
    exact h σ1 _ _ ⟨nxS_fp, rfl, rfl, fun z => (by cases z), rfl⟩ hf1 hM1
/-- people as read: how many, kinds, wants -/
def PA (P : Nat) (kd w : Nat → Int32) (s : MS) : Prop := s.1 23 = nI P ∧ (∀ q, q < P → s.2.1 24 q = kd q) ∧ (∀ k, k < 4 * P → s.2.1 25 k = w k) ∧ WR P w
theorem ix4w {p d : Nat} (hp : p < 5) (hd : d < 4) : vp_in (4 * nI p + nI d) 24 := by
  rw [show (4 : Int32) = nI 4 from rfl, pk_mul, nI_add]
  exact vp_in_nI (by omega) (by decide)
def sp_X7_one (Γ : Cx) : YSp := fun av σ K => ∃ (l : Nat → Int32) (len : Nat) (T : PT), mq Γ [] (fun s => s.1 20 = nI T.2.2.2 ∧ T.2.2.2 ≤ len ∧ T.1 < 5 ∧ PA T.1 T.2.1 T.2.2.1 s ∧ RT (l, len) (s.1 14) (s.2.1 15)) (fun s s' r => SFp s s' ∧ s'.1 22 = s.1 22 ∧ r = some (.int (bI (onP l len T).1)) ∧ ((onP l len T).1 = false → s'.1 21 = nI (onP l len T).2.2.2.2) ∧ ((onP l len T).1 = true → s'.1 20 = nI (onP l len T).2.2.2.2 ∧ PA (onP l len T).2.1 (onP l len T).2.2.1 (onP l len T).2.2.2.1 s')) av σ K
theorem rv_X7_one {Γ : Cx} : Recv (sp_X7_one Γ) 0 7 := by
  intro av σ K h
  obtain ⟨l, len, T, h⟩ := h
  obtain ⟨q, fs, h1, h2, h3⟩ := rv_mq h
  exact ⟨q, _, fs, h1, rfl, h2, h3⟩
theorem bw_885 : Cond.code yX7_kindBy cX7_kindBy 1 (some .int) ∈ BW := bw_i 885 (by decide +kernel) (by decide +kernel)
theorem no_X7_kindBy : NameOK yX7_kindBy 1 := by unfold NameOK; decide +kernel
theorem bw_883 : Cond.methodLink RX7 152 yX7_kindBy ∈ BW := bw_i 883 (by decide +kernel) (by decide +kernel)
theorem bw_884 : Cond.static yX7_kindBy ∈ BW := bw_i 884 (by decide +kernel) (by decide +kernel)
theorem tg_30_47 : tgo 30 47 = some 77 := by decide
theorem tg_49_5 : tgo 49 5 = some 54 := by decide
theorem tg_74_m46 : tgo 74 (-46) = some 28 := by decide
def mX7_one : Mt := (⟨1, 0, 0, 25⟩, RX7, cX7_one, 4, some .boolean, (0, 0), none)
theorem mX7_one_c : mX7_one.2.2.1 = cX7_one := rfl
theorem mX7_one_n : mX7_one.2.2.2.1 = 4 := rfl
theorem mX7_one_r : mX7_one.2.2.2.2.1 = some .boolean := rfl
theorem mX7_one_l : mX7_one.2.2.2.2.2.2 = none := rfl
def jX7_one (Γ : Cx) : List ((Nat × Nat) × Nat × Bool × YSp) := [((0, 142), 1, false, sp_X7_next Γ), ((1, 152), 1, true, sp_X7_kindBy Γ), ((1, 63), 3, true, sp_X7_lies Γ)]
theorem jX7_one_0_142 (Γ : Cx) : kT (jX7_one Γ) 0 142 = some (1, false, sp_X7_next Γ) := rfl
theorem jX7_one_1_152 (Γ : Cx) : kT (jX7_one Γ) 1 152 = some (1, true, sp_X7_kindBy Γ) := rfl
theorem jX7_one_1_63 (Γ : Cx) : kT (jX7_one Γ) 1 63 = some (3, true, sp_X7_lies Γ) := rfl
theorem uX7_one (Γ : Cx) : TbOK Γ mX7_one (fT fX7, cT kX7, kT (jX7_one Γ)) := tb_ok fX7_ok kX7_ok (all_cons ⟨call_V (n := 0) (T := TX7) (N := 26) (ok_X7_next Γ) (rv_X7_next (Γ := Γ)) rfl bw_873 bw_870 bw_872 bw_24 bw_49 no_X7_next ⟨⟨rfl, rfl⟩, ⟨by decide, by decide⟩, ⟨by decide, by decide⟩⟩, fun z => by cases z⟩ (all_cons ⟨call_S (n := 1) (ok_X7_kindBy Γ) (rv_X7_kindBy (Γ := Γ)) bw_885 bw_883 bw_884 bw_49 no_X7_kindBy ⟨⟨rfl, rfl⟩, ⟨by decide, by decide⟩, ⟨by decide, by decide⟩⟩, fun _ => mono_X7_kindBy (Γ := Γ)⟩ (all_cons ⟨call_S (n := 3) (ok_X7_lies Γ) (rv_X7_lies (Γ := Γ)) bw_797 bw_795 bw_796 bw_49 no_X7_lies ⟨⟨rfl, rfl⟩, ⟨by decide, by decide⟩, ⟨by decide, by decide⟩⟩, fun _ => mono_X7_lies (Γ := Γ)⟩ (all_nil))))
theorem jw0 {w : Nat → Int32} {P k : Nat} (hP : P < 5) (hk : k < 4 * P) : jw w P 0 4 k = w k := by
  rw [jw_jm hP 4 (Nat.le_refl _), jm_at, if_neg (by omega)]
set_option maxRecDepth 20000 in
theorem ok_X7_one (Γ : Cx) : Ok Γ yX7_one mX7_one (sp_X7_one Γ) := by
  refine ok_intro (by decide +kernel) rfl rfl ?_
  intro av σ K h
  obtain ⟨l, len, ⟨P, kd, w, p⟩, lab, ⟨a, ad⟩, ⟨sc, ar, it⟩, rfl, hM, ⟨h20, hp, hP, ⟨a1, a2, a3, a4⟩, hT⟩, h⟩ := h
  simp only at h h20 hT hp hP a1 a2 a3 a4
  have hq := nx_le (l := l) hp
  have hml := mlt_ltr (p := nx l len p) hT
  have hqe : ∃ q, nx l len p = q := ⟨_, rfl⟩
  obtain ⟨q, hqe⟩ := hqe
  refine ⟨Nat.le_of_ble_eq_true rfl, yvc_ok (uX7_one Γ) (S := []) 60 _ _ _ _ ?_⟩
  simp only [lv_args, Value.category, yvc_s, s1i, s2i, s1l, s2l, sil, s1r, sir, siir, slir, srir, svr, sd1, sd2, lg, lput, ldel, isL_i, isL_r, isL_l, jmp, obj, obj1, fI, fR, arI, arL, arR, hput, f4_0, f4_1, f4_2, f4_3, lc_0, lc_1, rok_i, rok_b, rok_y, strF, fput_1, fput_2, csum_nil, csum_i, csum_l, csum_r, va_up_self, bx_uu, Int.reduceAdd, List.elem_nil, List.elem_cons, List.take_succ_cons, List.take_zero, List.drop_succ_cons, List.drop_zero, List.take_nil, List.drop_nil, List.reverse_cons, List.reverse_nil, List.nil_append, List.cons_append, List.append_nil, Option.toList_some, Option.toList_none, List.getElem?_cons_zero, List.getElem?_cons_succ, List.set_cons_zero, List.set_cons_succ, List.length_cons, List.length_nil, reduceIte, reduceCtorEq, and_true, true_and, and_self, or_true, true_or, false_and, and_false, not_true_eq_false, not_false_eq_true, true_implies, false_implies, implies_true, Nat.reduceAdd, Nat.reduceLT, Nat.reduceEqDiff, Nat.reduceLeDiff, Nat.reduceBEq, Nat.zero_add, Nat.lt_add_one, Bool.false_eq_true, Bool.or_false, Bool.or_true, Bool.or_self, Nat.zero_ne_one, Nat.one_ne_zero, ite_true, ite_false, ne_eq, Nat.reduceSub, Nat.succ_eq_add_one, Nat.zero_lt_succ, Nat.add_one_ne_zero, false_or, or_false, mX7_one_c, mX7_one_n, mX7_one_r, mX7_one_l, dX7_one_0, dX7_one_1, dX7_one_4, dX7_one_7, dX7_one_8, dX7_one_9, bc_m4, dX7_one_11, tg_11_5, cnd2_ne, dX7_one_14, ic_0, dX7_one_15, dX7_one_16, dX7_one_17, fl_7_54_7, dX7_one_20, dX7_one_21, fl_7_155_7, dX7_one_24, dX7_one_25, dX7_one_26, dX7_one_27, dX7_one_28, dX7_one_29, ic_4, dX7_one_30, tg_30_47, cnd2_ge, dX7_one_33, dX7_one_34, dX7_one_37, dX7_one_38, dX7_one_39, dX7_one_40, cl_7_158, dX7_one_43, cl_7_160, dX7_one_46, dX7_one_49, tg_49_5, cnd1_ne, dX7_one_52, dX7_one_53, dX7_one_54, dX7_one_55, fl_7_57_7, dX7_one_58, dX7_one_59, dX7_one_60, dX7_one_63, dX7_one_64, dX7_one_65, dX7_one_66, dX7_one_67, bc_97, dX7_one_69, dX7_one_70, dX7_one_71, ic_1, dX7_one_74, tg_74_m46, dX7_one_77, dX7_one_78, dX7_one_79, dX7_one_82, dX7_one_83, dX7_one_84, dX7_one_87, dX7_one_88, jX7_one_0_142, jX7_one_1_152, jX7_one_1_63, st_aload_n, st_bipush, st_dup, st_getfield, st_goto, st_i2l, st_iadd, st_iastore, st_iconst, st_ifCond, st_if_icmp, st_iinc, st_iload_n, st_imul, st_invokestatic, st_invokevirtual, st_ireturn, st_istore_n, st_isub, st_ldc2_w, st_putfield]
  refine ⟨l, len, p, lab, (a, ad), (sc, ar, it), rfl, hM, ⟨h20, hp, hT⟩, ?_⟩
  rintro σ1 s1 r1 ⟨hs1, rfl⟩ hf1 hM1
  rw [hqe] at hs1 hml hq
  simp only [hqe]
  have hF1 : SFp (sc, ar, it) s1 := by rw [hs1]; exact nxS_fp
  have f20 : s1.1 20 = nI (q + 1) := by rw [hs1]; rfl
  have f21 : s1.1 21 = nI q := by rw [hs1]; rfl
  have f22 : s1.1 22 = sc 22 := by rw [hs1]; rfl
  have f23 : s1.1 23 = nI P := by rw [hs1]; exact a1
  have f24 : s1.2.1 24 = ar 24 := by rw [hs1]; rfl
  have f25 : s1.2.1 25 = ar 25 := by rw [hs1]; rfl
  clear hs1
  obtain ⟨sc1, ar1, it1⟩ := s1
  simp only at f20 f21 f22 f23 f24 f25
  refine yvc_ok (uX7_one Γ) (S := [16]) 60 _ _ _ _ ?_
  simp only [sp_X7_kindBy, yvc_s, s1i, s2i, s1l, s2l, sil, s1r, sir, siir, slir, srir, svr, sd1, sd2, lg, lput, ldel, isL_i, isL_r, isL_l, jmp, obj, obj1, fI, fR, arI, arL, arR, hput, f4_0, f4_1, f4_2, f4_3, lc_0, lc_1, rok_i, rok_b, rok_y, strF, fput_1, fput_2, csum_nil, csum_i, csum_l, csum_r, va_up_self, bx_uu, Int.reduceAdd, List.elem_nil, List.elem_cons, List.take_succ_cons, List.take_zero, List.drop_succ_cons, List.drop_zero, List.take_nil, List.drop_nil, List.reverse_cons, List.reverse_nil, List.nil_append, List.cons_append, List.append_nil, Option.toList_some, Option.toList_none, List.getElem?_cons_zero, List.getElem?_cons_succ, List.set_cons_zero, List.set_cons_succ, List.length_cons, List.length_nil, reduceIte, reduceCtorEq, and_true, true_and, and_self, or_true, true_or, false_and, and_false, not_true_eq_false, not_false_eq_true, true_implies, false_implies, implies_true, Nat.reduceAdd, Nat.reduceLT, Nat.reduceEqDiff, Nat.reduceLeDiff, Nat.reduceBEq, Nat.zero_add, Nat.lt_add_one, Bool.false_eq_true, Bool.or_false, Bool.or_true, Bool.or_self, Nat.zero_ne_one, Nat.one_ne_zero, ite_true, ite_false, ne_eq, Nat.reduceSub, Nat.succ_eq_add_one, Nat.zero_lt_succ, Nat.add_one_ne_zero, false_or, or_false, mX7_one_c, mX7_one_n, mX7_one_r, mX7_one_l, dX7_one_0, dX7_one_1, dX7_one_4, dX7_one_7, dX7_one_8, dX7_one_9, bc_m4, dX7_one_11, tg_11_5, cnd2_ne, dX7_one_14, ic_0, dX7_one_15, dX7_one_16, dX7_one_17, fl_7_54_7, dX7_one_20, dX7_one_21, fl_7_155_7, dX7_one_24, dX7_one_25, dX7_one_26, dX7_one_27, dX7_one_28, dX7_one_29, ic_4, dX7_one_30, tg_30_47, cnd2_ge, dX7_one_33, dX7_one_34, dX7_one_37, dX7_one_38, dX7_one_39, dX7_one_40, cl_7_158, dX7_one_43, cl_7_160, dX7_one_46, dX7_one_49, tg_49_5, cnd1_ne, dX7_one_52, dX7_one_53, dX7_one_54, dX7_one_55, fl_7_57_7, dX7_one_58, dX7_one_59, dX7_one_60, dX7_one_63, dX7_one_64, dX7_one_65, dX7_one_66, dX7_one_67, bc_97, dX7_one_69, dX7_one_70, dX7_one_71, ic_1, dX7_one_74, tg_74_m46, dX7_one_77, dX7_one_78, dX7_one_79, dX7_one_82, dX7_one_83, dX7_one_84, dX7_one_87, dX7_one_88, jX7_one_0_142, jX7_one_1_152, jX7_one_1_63, st_aload_n, st_bipush, st_dup, st_getfield, st_goto, st_i2l, st_iadd, st_iastore, st_iconst, st_ifCond, st_if_icmp, st_iinc, st_iload_n, st_imul, st_invokestatic, st_invokevirtual, st_ireturn, st_istore_n, st_isub, st_ldc2_w, st_putfield]
  rcases mq_d hml with ⟨d1, d2⟩ | ⟨d1, d2, d3⟩
  · have ho : onP l len (P, kd, w, p) = (false, P, kd, w, q) := by
      unfold onP
      simp only [hqe]
      rw [if_neg d1]
    rw [ho] at h
    simp only [d2, not_true_eq_false, false_implies, true_implies, not_false_eq_true, true_and, and_true]
    exact h σ1 _ _ ⟨hF1, f22, rfl, fun _ => f21, fun z => by cases z⟩ hf1 hM1
  · have hlt := kd_lt d1
    obtain ⟨WL, hWL⟩ : ∃ WL, wl l len P 4 0 (jw w P 0 4) (q + 1) = WL := ⟨_, rfl⟩
    have ho : onP l len (P, kd, w, p) = (WL.1, P + 1, upd kd P (kby (mlt l len q)), WL.2) := by
      unfold onP
      simp only [hqe]
      rw [if_pos d1, hWL, d2]
    rw [ho] at h
    simp only at h
    generalize kby (mlt l len q) = kk at h d3 ⊢
    simp only [d3, not_true_eq_false, false_implies, true_implies, not_false_eq_true, true_and, and_true]
    have loop : ∀ n d : Nat, ∀ (w' : Nat → Int32) (p1 : Nat) (s2 : MS) (σ2 : Hp), d + n = 4 → p1 ≤ len → s2.1 20 = nI p1 → wl l len P n d w' p1 = WL → SFp (sc, ar, it) s2 → s2.1 22 = sc 22 → s2.1 23 = nI P → s2.2.1 24 = upd (ar 24) P kk → (∀ k, k < 4 * P + d → s2.2.1 25 k = w' k) → (∀ k, k < 4 * P + d → ∃ n, n ≤ 20 ∧ w' k = nI n) → frm (fL lab 30) σ σ2 → Mod Γ lab (a, ad) s2 σ2 → YG Γ mX7_one K 28 [(0, .ref a), (1, .int kk), (2, .int (nI d))] [] σ2 := by
      intro n
      induction n with
      | zero =>
        intro d w' p1 s2 σ2 hd hp1 g20 hwl hF2 g22 g23 g24 g25 gW hf2 hM2
        obtain rfl : d = 4 := by omega
        rw [← hwl] at h
        obtain ⟨sc2, ar2, it2⟩ := s2
        simp only at g20 g22 g23 g24 g25
        have hk := h _ (upd sc2 23 (nI (P + 1)), ar2, it2) _ ⟨hF2.tr (SFp.o (by decide)), g22, rfl, fun z => (by cases z), fun _ => ⟨g20, show upd sc2 23 (nI (P + 1)) 23 = nI (P + 1) from pk_us, fun q hq => ?_, fun k hk => g25 k (by omega), fun k hk => gW k (by omega)⟩⟩ (hf2.tr hM2.frO) (hM2.putO (upd sc2 23 (nI (P + 1))))
        · obtain ⟨⟨m1, -⟩, e1, -⟩ := id hM2
          simp only [ME, hput] at m1 e1 hk
          rw [g23] at e1
          refine yvc1_ok (uX7_one Γ) (S := [28]) 60 ?_
          simp only [yvc1, ge4, m1, e1, nI_1, yvc_s, s1i, s2i, s1l, s2l, sil, s1r, sir, siir, slir, srir, svr, sd1, sd2, lg, lput, ldel, isL_i, isL_r, isL_l, jmp, obj, obj1, fI, fR, arI, arL, arR, hput, f4_0, f4_1, f4_2, f4_3, lc_0, lc_1, rok_i, rok_b, rok_y, strF, fput_1, fput_2, csum_nil, csum_i, csum_l, csum_r, va_up_self, bx_uu, Int.reduceAdd, List.elem_nil, List.elem_cons, List.take_succ_cons, List.take_zero, List.drop_succ_cons, List.drop_zero, List.take_nil, List.drop_nil, List.reverse_cons, List.reverse_nil, List.nil_append, List.cons_append, List.append_nil, Option.toList_some, Option.toList_none, List.getElem?_cons_zero, List.getElem?_cons_succ, List.set_cons_zero, List.set_cons_succ, List.length_cons, List.length_nil, reduceIte, reduceCtorEq, and_true, true_and, and_self, or_true, true_or, false_and, and_false, not_true_eq_false, not_false_eq_true, true_implies, false_implies, implies_true, Nat.reduceAdd, Nat.reduceLT, Nat.reduceEqDiff, Nat.reduceLeDiff, Nat.reduceBEq, Nat.zero_add, Nat.lt_add_one, Bool.false_eq_true, Bool.or_false, Bool.or_true, Bool.or_self, Nat.zero_ne_one, Nat.one_ne_zero, ite_true, ite_false, ne_eq, Nat.reduceSub, Nat.succ_eq_add_one, Nat.zero_lt_succ, Nat.add_one_ne_zero, false_or, or_false, mX7_one_c, mX7_one_n, mX7_one_r, mX7_one_l, dX7_one_0, dX7_one_1, dX7_one_4, dX7_one_7, dX7_one_8, dX7_one_9, bc_m4, dX7_one_11, tg_11_5, cnd2_ne, dX7_one_14, ic_0, dX7_one_15, dX7_one_16, dX7_one_17, fl_7_54_7, dX7_one_20, dX7_one_21, fl_7_155_7, dX7_one_24, dX7_one_25, dX7_one_26, dX7_one_27, dX7_one_28, dX7_one_29, ic_4, dX7_one_30, tg_30_47, cnd2_ge, dX7_one_33, dX7_one_34, dX7_one_37, dX7_one_38, dX7_one_39, dX7_one_40, cl_7_158, dX7_one_43, cl_7_160, dX7_one_46, dX7_one_49, tg_49_5, cnd1_ne, dX7_one_52, dX7_one_53, dX7_one_54, dX7_one_55, fl_7_57_7, dX7_one_58, dX7_one_59, dX7_one_60, dX7_one_63, dX7_one_64, dX7_one_65, dX7_one_66, dX7_one_67, bc_97, dX7_one_69, dX7_one_70, dX7_one_71, ic_1, dX7_one_74, tg_74_m46, dX7_one_77, dX7_one_78, dX7_one_79, dX7_one_82, dX7_one_83, dX7_one_84, dX7_one_87, dX7_one_88, jX7_one_0_142, jX7_one_1_152, jX7_one_1_63, st_aload_n, st_bipush, st_dup, st_getfield, st_goto, st_i2l, st_iadd, st_iastore, st_iconst, st_ifCond, st_if_icmp, st_iinc, st_iload_n, st_imul, st_invokestatic, st_invokevirtual, st_ireturn, st_istore_n, st_isub, st_ldc2_w, st_putfield]
          exact hk
        · show ar2 24 q = upd kd P kk q
          rw [g24]
          by_cases e : q = P
          · subst e; rw [pk_us, pk_us]
          · rw [pk_un e, pk_un e]
            exact a2 q (by omega)
      | succ n ih =>
        intro d w' p1 s2 σ2 hd hp1 g20 hwl hF2 g22 g23 g24 g25 gW hf2 hM2
        obtain ⟨c1, -, -⟩ := lt4 (show d < 4 by omega)
        obtain ⟨j1, j2⟩ := ix4 hP (show d < 4 by omega)
        have j3 := ix4w hP (show d < 4 by omega)
        have hT2 := hF2.rt hT
        have hq2 := nx_le (l := l) hp1
        have hml2 := mlt_ltr (p := nx l len p1) hT2
        rw [wl] at hwl
        refine yvc1_ok (uX7_one Γ) (S := [28]) 60 ?_
        simp only [yvc1, c1, yvc_s, s1i, s2i, s1l, s2l, sil, s1r, sir, siir, slir, srir, svr, sd1, sd2, lg, lput, ldel, isL_i, isL_r, isL_l, jmp, obj, obj1, fI, fR, arI, arL, arR, hput, f4_0, f4_1, f4_2, f4_3, lc_0, lc_1, rok_i, rok_b, rok_y, strF, fput_1, fput_2, csum_nil, csum_i, csum_l, csum_r, va_up_self, bx_uu, Int.reduceAdd, List.elem_nil, List.elem_cons, List.take_succ_cons, List.take_zero, List.drop_succ_cons, List.drop_zero, List.take_nil, List.drop_nil, List.reverse_cons, List.reverse_nil, List.nil_append, List.cons_append, List.append_nil, Option.toList_some, Option.toList_none, List.getElem?_cons_zero, List.getElem?_cons_succ, List.set_cons_zero, List.set_cons_succ, List.length_cons, List.length_nil, reduceIte, reduceCtorEq, and_true, true_and, and_self, or_true, true_or, false_and, and_false, not_true_eq_false, not_false_eq_true, true_implies, false_implies, implies_true, Nat.reduceAdd, Nat.reduceLT, Nat.reduceEqDiff, Nat.reduceLeDiff, Nat.reduceBEq, Nat.zero_add, Nat.lt_add_one, Bool.false_eq_true, Bool.or_false, Bool.or_true, Bool.or_self, Nat.zero_ne_one, Nat.one_ne_zero, ite_true, ite_false, ne_eq, Nat.reduceSub, Nat.succ_eq_add_one, Nat.zero_lt_succ, Nat.add_one_ne_zero, false_or, or_false, mX7_one_c, mX7_one_n, mX7_one_r, mX7_one_l, dX7_one_0, dX7_one_1, dX7_one_4, dX7_one_7, dX7_one_8, dX7_one_9, bc_m4, dX7_one_11, tg_11_5, cnd2_ne, dX7_one_14, ic_0, dX7_one_15, dX7_one_16, dX7_one_17, fl_7_54_7, dX7_one_20, dX7_one_21, fl_7_155_7, dX7_one_24, dX7_one_25, dX7_one_26, dX7_one_27, dX7_one_28, dX7_one_29, ic_4, dX7_one_30, tg_30_47, cnd2_ge, dX7_one_33, dX7_one_34, dX7_one_37, dX7_one_38, dX7_one_39, dX7_one_40, cl_7_158, dX7_one_43, cl_7_160, dX7_one_46, dX7_one_49, tg_49_5, cnd1_ne, dX7_one_52, dX7_one_53, dX7_one_54, dX7_one_55, fl_7_57_7, dX7_one_58, dX7_one_59, dX7_one_60, dX7_one_63, dX7_one_64, dX7_one_65, dX7_one_66, dX7_one_67, bc_97, dX7_one_69, dX7_one_70, dX7_one_71, ic_1, dX7_one_74, tg_74_m46, dX7_one_77, dX7_one_78, dX7_one_79, dX7_one_82, dX7_one_83, dX7_one_84, dX7_one_87, dX7_one_88, jX7_one_0_142, jX7_one_1_152, jX7_one_1_63, st_aload_n, st_bipush, st_dup, st_getfield, st_goto, st_i2l, st_iadd, st_iastore, st_iconst, st_ifCond, st_if_icmp, st_iinc, st_iload_n, st_imul, st_invokestatic, st_invokevirtual, st_ireturn, st_istore_n, st_isub, st_ldc2_w, st_putfield]
        refine ⟨l, len, p1, lab, (a, ad), s2, rfl, hM2, ⟨g20, hp1, hT2⟩, ?_⟩
        rintro σ3 s3 r3 ⟨hs3, rfl⟩ hf3 hM3
        generalize nx l len p1 = q2 at hwl hq2 hml2 hs3 ⊢
        have hF3 : SFp (sc, ar, it) s3 := by rw [hs3]; exact hF2.tr nxS_fp
        have k20 : s3.1 20 = nI (q2 + 1) := by rw [hs3]; rfl
        have k21 : s3.1 21 = nI q2 := by rw [hs3]; rfl
        have k22 : s3.1 22 = sc 22 := by rw [hs3]; exact g22
        have k23 : s3.1 23 = nI P := by rw [hs3]; exact g23
        have k24 : s3.2.1 24 = upd (ar 24) P kk := by rw [hs3]; exact g24
        have k25 : ∀ k, k < 4 * P + d → s3.2.1 25 k = w' k := by rw [hs3]; exact g25
        clear hs3
        obtain ⟨sc3, ar3, it3⟩ := s3
        simp only at k20 k21 k22 k23 k24 k25
        obtain ⟨⟨m1, -⟩, e1, -⟩ := id hM3
        obtain ⟨m25, e25⟩ := hM3.arr 25 rfl
        have hM4 := hM3.putA (k := 25) rfl (upd (ar3 25) (4 * P + d) (mlt l len q2 - 97))
        have hf4 := (hf2.tr hf3).tr (hM3.frA (k := 25) rfl (e := iA Γ (lenM 25) (upd (ar3 25) (4 * P + d) (mlt l len q2 - 97))))
        have hw := mq_w hml2
        have hi := ih (d + 1)
        simp only [ME, iA, lenM, hput] at m1 e1 m25 e25 hM4 hf4
        rw [k23] at e1
        refine yvc_ok (uX7_one Γ) (S := [28]) 60 _ _ _ _ ?_
        simp only [m1, e1, m25, e25, j2, j3, sp_X7_lies, inL_97, bI_eq0, Bool.not_eq_false, nI_1, yvc_s, s1i, s2i, s1l, s2l, sil, s1r, sir, siir, slir, srir, svr, sd1, sd2, lg, lput, ldel, isL_i, isL_r, isL_l, jmp, obj, obj1, fI, fR, arI, arL, arR, hput, f4_0, f4_1, f4_2, f4_3, lc_0, lc_1, rok_i, rok_b, rok_y, strF, fput_1, fput_2, csum_nil, csum_i, csum_l, csum_r, va_up_self, bx_uu, Int.reduceAdd, List.elem_nil, List.elem_cons, List.take_succ_cons, List.take_zero, List.drop_succ_cons, List.drop_zero, List.take_nil, List.drop_nil, List.reverse_cons, List.reverse_nil, List.nil_append, List.cons_append, List.append_nil, Option.toList_some, Option.toList_none, List.getElem?_cons_zero, List.getElem?_cons_succ, List.set_cons_zero, List.set_cons_succ, List.length_cons, List.length_nil, reduceIte, reduceCtorEq, and_true, true_and, and_self, or_true, true_or, false_and, and_false, not_true_eq_false, not_false_eq_true, true_implies, false_implies, implies_true, Nat.reduceAdd, Nat.reduceLT, Nat.reduceEqDiff, Nat.reduceLeDiff, Nat.reduceBEq, Nat.zero_add, Nat.lt_add_one, Bool.false_eq_true, Bool.or_false, Bool.or_true, Bool.or_self, Nat.zero_ne_one, Nat.one_ne_zero, ite_true, ite_false, ne_eq, Nat.reduceSub, Nat.succ_eq_add_one, Nat.zero_lt_succ, Nat.add_one_ne_zero, false_or, or_false, mX7_one_c, mX7_one_n, mX7_one_r, mX7_one_l, dX7_one_0, dX7_one_1, dX7_one_4, dX7_one_7, dX7_one_8, dX7_one_9, bc_m4, dX7_one_11, tg_11_5, cnd2_ne, dX7_one_14, ic_0, dX7_one_15, dX7_one_16, dX7_one_17, fl_7_54_7, dX7_one_20, dX7_one_21, fl_7_155_7, dX7_one_24, dX7_one_25, dX7_one_26, dX7_one_27, dX7_one_28, dX7_one_29, ic_4, dX7_one_30, tg_30_47, cnd2_ge, dX7_one_33, dX7_one_34, dX7_one_37, dX7_one_38, dX7_one_39, dX7_one_40, cl_7_158, dX7_one_43, cl_7_160, dX7_one_46, dX7_one_49, tg_49_5, cnd1_ne, dX7_one_52, dX7_one_53, dX7_one_54, dX7_one_55, fl_7_57_7, dX7_one_58, dX7_one_59, dX7_one_60, dX7_one_63, dX7_one_64, dX7_one_65, dX7_one_66, dX7_one_67, bc_97, dX7_one_69, dX7_one_70, dX7_one_71, ic_1, dX7_one_74, tg_74_m46, dX7_one_77, dX7_one_78, dX7_one_79, dX7_one_82, dX7_one_83, dX7_one_84, dX7_one_87, dX7_one_88, jX7_one_0_142, jX7_one_1_152, jX7_one_1_63, st_aload_n, st_bipush, st_dup, st_getfield, st_goto, st_i2l, st_iadd, st_iastore, st_iconst, st_ifCond, st_if_icmp, st_iinc, st_iload_n, st_imul, st_invokestatic, st_invokevirtual, st_ireturn, st_istore_n, st_isub, st_ldc2_w, st_putfield]
        refine ⟨fun c => ?_, fun c => ?_⟩
        · rw [← hw] at c
          have hlt2 := wl_lt c
          have hxy := mq_v hml2 (fun z => by rw [z] at c; exact absurd c (by decide))
          rw [if_pos c, ix_n hP (by omega), hxy] at hwl
          rw [hxy] at c
          obtain ⟨v, hv, ev⟩ := in_n (B := 20) (by decide) c
          refine (hi _ _ _ _ (by omega) (by omega) k20 hwl (hF3.tr (SFp.a (k := 25) (by decide))) k22 k23 ?_ ?_ ?_ hf4 hM4).ext [(3, _)]
          · simp only [updA_ne (show (24 : Nat) ≠ 25 by decide)]; exact k24
          · intro k hk
            simp only [updA_at]
            by_cases e : k = 4 * P + d
            · subst e; rw [pk_us, pk_us]
            · rw [pk_un e, pk_un e]; exact k25 k (by omega)
          · intro k hk
            by_cases e : k = 4 * P + d
            · subst e; rw [pk_us]; exact ⟨v, hv, ev⟩
            · rw [pk_un e]; exact gW k (by omega)
        · rw [← hw] at c
          rw [if_neg c] at hwl
          rw [← hwl] at h
          exact h _ _ _ ⟨hF3, k22, rfl, fun _ => k21, fun z => by cases z⟩ (hf2.tr hf3) hM3
    have hM2 := hM1.putA (k := 24) rfl (upd (ar 24) P kk)
    have hl := loop 4 0 _ _ _ _ rfl hlt f20 hWL (hF1.tr (SFp.a (k := 24) (by decide))) f22 f23 (by simp only [updA_at]) (by
      intro k hk
      simp only [updA_ne (show (25 : Nat) ≠ 24 by decide)]
      rw [f25, jw0 hP (by omega)]
      exact a3 k (by omega)) (by
      intro k hk
      rw [jw0 hP (by omega)]
      exact a4 k (by omega)) (hf1.tr (hM1.frA (k := 24) rfl)) hM2
    obtain ⟨⟨m1, -⟩, e1, -⟩ := id hM1
    obtain ⟨m24, e24⟩ := hM1.arr 24 rfl
    simp only [ME, iA, lenM, hput] at m1 e1 m24 e24 hl
    rw [f23] at e1
    rw [f24] at e24
    refine yvc1_ok (uX7_one Γ) (S := [16, 28]) 60 ?_
    simp only [yvc1, m1, e1, m24, e24, (in5q hP).1, (in5q hP).2, yvc_s, s1i, s2i, s1l, s2l, sil, s1r, sir, siir, slir, srir, svr, sd1, sd2, lg, lput, ldel, isL_i, isL_r, isL_l, jmp, obj, obj1, fI, fR, arI, arL, arR, hput, f4_0, f4_1, f4_2, f4_3, lc_0, lc_1, rok_i, rok_b, rok_y, strF, fput_1, fput_2, csum_nil, csum_i, csum_l, csum_r, va_up_self, bx_uu, Int.reduceAdd, List.elem_nil, List.elem_cons, List.take_succ_cons, List.take_zero, List.drop_succ_cons, List.drop_zero, List.take_nil, List.drop_nil, List.reverse_cons, List.reverse_nil, List.nil_append, List.cons_append, List.append_nil, Option.toList_some, Option.toList_none, List.getElem?_cons_zero, List.getElem?_cons_succ, List.set_cons_zero, List.set_cons_succ, List.length_cons, List.length_nil, reduceIte, reduceCtorEq, and_true, true_and, and_self, or_true, true_or, false_and, and_false, not_true_eq_false, not_false_eq_true, true_implies, false_implies, implies_true, Nat.reduceAdd, Nat.reduceLT, Nat.reduceEqDiff, Nat.reduceLeDiff, Nat.reduceBEq, Nat.zero_add, Nat.lt_add_one, Bool.false_eq_true, Bool.or_false, Bool.or_true, Bool.or_self, Nat.zero_ne_one, Nat.one_ne_zero, ite_true, ite_false, ne_eq, Nat.reduceSub, Nat.succ_eq_add_one, Nat.zero_lt_succ, Nat.add_one_ne_zero, false_or, or_false, mX7_one_c, mX7_one_n, mX7_one_r, mX7_one_l, dX7_one_0, dX7_one_1, dX7_one_4, dX7_one_7, dX7_one_8, dX7_one_9, bc_m4, dX7_one_11, tg_11_5, cnd2_ne, dX7_one_14, ic_0, dX7_one_15, dX7_one_16, dX7_one_17, fl_7_54_7, dX7_one_20, dX7_one_21, fl_7_155_7, dX7_one_24, dX7_one_25, dX7_one_26, dX7_one_27, dX7_one_28, dX7_one_29, ic_4, dX7_one_30, tg_30_47, cnd2_ge, dX7_one_33, dX7_one_34, dX7_one_37, dX7_one_38, dX7_one_39, dX7_one_40, cl_7_158, dX7_one_43, cl_7_160, dX7_one_46, dX7_one_49, tg_49_5, cnd1_ne, dX7_one_52, dX7_one_53, dX7_one_54, dX7_one_55, fl_7_57_7, dX7_one_58, dX7_one_59, dX7_one_60, dX7_one_63, dX7_one_64, dX7_one_65, dX7_one_66, dX7_one_67, bc_97, dX7_one_69, dX7_one_70, dX7_one_71, ic_1, dX7_one_74, tg_74_m46, dX7_one_77, dX7_one_78, dX7_one_79, dX7_one_82, dX7_one_83, dX7_one_84, dX7_one_87, dX7_one_88, jX7_one_0_142, jX7_one_1_152, jX7_one_1_63, st_aload_n, st_bipush, st_dup, st_getfield, st_goto, st_i2l, st_iadd, st_iastore, st_iconst, st_ifCond, st_if_icmp, st_iinc, st_iload_n, st_imul, st_invokestatic, st_invokevirtual, st_ireturn, st_istore_n, st_isub, st_ldc2_w, st_putfield]
    exact hl
