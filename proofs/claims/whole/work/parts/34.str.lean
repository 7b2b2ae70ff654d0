/-! ===== the String constant's indexOf ===== -/
def sp_J0_coder_7d493 (Γ : Cx) : YSp := fun av σ K => match av with | [.ref a] => a = Γ.2.2.2.2.1 ∧ K (some (.int 0)) σ | _ => False
theorem mono_J0_coder_7d493 {Γ : Cx} : Mono (sp_J0_coder_7d493 Γ) := by
  intro av σ K K' hk h
  unfold sp_J0_coder_7d493 at h ⊢
  split at h
  · exact ⟨h.1, hk _ _ h.2⟩
  · exact h.elim
theorem rv_J0_coder_7d493 {Γ : Cx} : RecvS Γ (sp_J0_coder_7d493 Γ) 0 := by
  intro av σ K h
  unfold sp_J0_coder_7d493 at h
  split at h
  · exact ⟨[], by rw [h.1], rfl⟩
  · exact h.elim
theorem i1ne0 : ¬ (1 : Int32) = 0 := by decide
theorem tg_3_10 : tgo 3 10 = some 13 := by decide
def mJ0_coder_7d493 : Mt := (⟨0, 0, 0, 0⟩, RJ0, cJ0_coder_7d493, 1, some .byte, (0, 0), some false)
theorem mJ0_coder_7d493_c : mJ0_coder_7d493.2.2.1 = cJ0_coder_7d493 := rfl
theorem mJ0_coder_7d493_n : mJ0_coder_7d493.2.2.2.1 = 1 := rfl
theorem mJ0_coder_7d493_r : mJ0_coder_7d493.2.2.2.2.1 = some .byte := rfl
theorem mJ0_coder_7d493_l : mJ0_coder_7d493.2.2.2.2.2.2 = some false := rfl
def jJ0_coder_7d493 (Γ : Cx) : List ((Nat × Nat) × Nat × Bool × YSp) := []
def kkJ0_coder_7d493 : List (Nat × (Int32 ⊕ Int64)) := []
theorem kkJ0_coder_7d493_ok : ∀ q ∈ kkJ0_coder_7d493, conOK RJ0 q := all_nil
theorem uJ0_coder_7d493 (Γ : Cx) : TbOK Γ mJ0_coder_7d493 (fT [], cT kkJ0_coder_7d493, kT (jJ0_coder_7d493 Γ)) := tb_ok all_nil kkJ0_coder_7d493_ok (all_nil)
set_option maxRecDepth 20000 in
theorem ok_J0_coder_7d493 (Γ : Cx) : Ok Γ yJ0_coder_7d493 mJ0_coder_7d493 (sp_J0_coder_7d493 Γ) := by
  refine ok_intro (by decide +kernel) rfl rfl ?_
  intro av σ K h
  unfold sp_J0_coder_7d493 at h
  split at h
  · obtain ⟨rfl, h⟩ := h
    refine ⟨Nat.le_of_ble_eq_true rfl, yvc_ok (uJ0_coder_7d493 Γ) (S := []) 40 _ _ _ _ ?_⟩
    simp only [lv_args, Value.category, i1ne0, show mJ0_coder_7d493.2.1 = RJ0 from rfl, yvc_s, s1i, s2i, s1l, s2l, sil, s1r, sir, siir, slir, srir, svr, sd1, sd2, lg, lput, ldel, isL_i, isL_r, isL_l, jmp, obj, obj1, fI, fR, arI, arL, arR, hput, f4_0, f4_1, f4_2, f4_3, lc_0, lc_1, rok_i, rok_b, rok_y, strF, fput_1, fput_2, csum_nil, csum_i, csum_l, csum_r, va_up_self, bx_uu, Int.reduceAdd, List.elem_nil, List.elem_cons, List.take_succ_cons, List.take_zero, List.drop_succ_cons, List.drop_zero, List.take_nil, List.drop_nil, List.reverse_cons, List.reverse_nil, List.nil_append, List.cons_append, List.append_nil, Option.toList_some, Option.toList_none, List.getElem?_cons_zero, List.getElem?_cons_succ, List.set_cons_zero, List.set_cons_succ, List.length_cons, List.length_nil, reduceIte, reduceCtorEq, and_true, true_and, and_self, or_true, true_or, false_and, and_false, not_true_eq_false, not_false_eq_true, true_implies, false_implies, implies_true, Nat.reduceAdd, Nat.reduceLT, Nat.reduceEqDiff, Nat.reduceLeDiff, Nat.reduceBEq, Nat.zero_add, Nat.lt_add_one, Bool.false_eq_true, Bool.or_false, Bool.or_true, Bool.or_self, Nat.zero_ne_one, Nat.one_ne_zero, ite_true, ite_false, ne_eq, Nat.reduceSub, Nat.succ_eq_add_one, Nat.zero_lt_succ, Nat.add_one_ne_zero, false_or, or_false, mJ0_coder_7d493_c, mJ0_coder_7d493_n, mJ0_coder_7d493_r, mJ0_coder_7d493_l, dJ0_coder_7d493_0, dJ0_coder_7d493_3, tg_3_10, cnd1_eq, dJ0_coder_7d493_6, dJ0_coder_7d493_7, dJ0_coder_7d493_10, tg_10_4, dJ0_coder_7d493_13, ic_1, dJ0_coder_7d493_14, st_aload_n, st_getfield, st_getstatic, st_goto, st_iconst, st_ifCond, st_ireturn]
    exact h
  · exact h.elim
def sp_J0_isLatin1_aae02 (Γ : Cx) : YSp := fun av σ K => match av with | [.ref a] => a = Γ.2.2.2.2.1 ∧ K (some (.int 1)) σ | _ => False
theorem mono_J0_isLatin1_aae02 {Γ : Cx} : Mono (sp_J0_isLatin1_aae02 Γ) := by
  intro av σ K K' hk h
  unfold sp_J0_isLatin1_aae02 at h ⊢
  split at h
  · exact ⟨h.1, hk _ _ h.2⟩
  · exact h.elim
theorem rv_J0_isLatin1_aae02 {Γ : Cx} : RecvS Γ (sp_J0_isLatin1_aae02 Γ) 0 := by
  intro av σ K h
  unfold sp_J0_isLatin1_aae02 at h
  split at h
  · exact ⟨[], by rw [h.1], rfl⟩
  · exact h.elim
theorem tg_3_14 : tgo 3 14 = some 17 := by decide
theorem tg_10_7 : tgo 10 7 = some 17 := by decide
theorem tg_14_4 : tgo 14 4 = some 18 := by decide
def mJ0_isLatin1_aae02 : Mt := (⟨0, 0, 0, 0⟩, RJ0, cJ0_isLatin1_aae02, 1, some .boolean, (0, 0), some false)
theorem mJ0_isLatin1_aae02_c : mJ0_isLatin1_aae02.2.2.1 = cJ0_isLatin1_aae02 := rfl
theorem mJ0_isLatin1_aae02_n : mJ0_isLatin1_aae02.2.2.2.1 = 1 := rfl
theorem mJ0_isLatin1_aae02_r : mJ0_isLatin1_aae02.2.2.2.2.1 = some .boolean := rfl
theorem mJ0_isLatin1_aae02_l : mJ0_isLatin1_aae02.2.2.2.2.2.2 = some false := rfl
def jJ0_isLatin1_aae02 (Γ : Cx) : List ((Nat × Nat) × Nat × Bool × YSp) := []
def kkJ0_isLatin1_aae02 : List (Nat × (Int32 ⊕ Int64)) := []
theorem kkJ0_isLatin1_aae02_ok : ∀ q ∈ kkJ0_isLatin1_aae02, conOK RJ0 q := all_nil
theorem uJ0_isLatin1_aae02 (Γ : Cx) : TbOK Γ mJ0_isLatin1_aae02 (fT [], cT kkJ0_isLatin1_aae02, kT (jJ0_isLatin1_aae02 Γ)) := tb_ok all_nil kkJ0_isLatin1_aae02_ok (all_nil)
set_option maxRecDepth 20000 in
theorem ok_J0_isLatin1_aae02 (Γ : Cx) : Ok Γ yJ0_isLatin1_aae02 mJ0_isLatin1_aae02 (sp_J0_isLatin1_aae02 Γ) := by
  refine ok_intro (by decide +kernel) rfl rfl ?_
  intro av σ K h
  unfold sp_J0_isLatin1_aae02 at h
  split at h
  · obtain ⟨rfl, h⟩ := h
    refine ⟨Nat.le_of_ble_eq_true rfl, yvc_ok (uJ0_isLatin1_aae02 Γ) (S := []) 40 _ _ _ _ ?_⟩
    simp only [lv_args, Value.category, i1ne0, show mJ0_isLatin1_aae02.2.1 = RJ0 from rfl, yvc_s, s1i, s2i, s1l, s2l, sil, s1r, sir, siir, slir, srir, svr, sd1, sd2, lg, lput, ldel, isL_i, isL_r, isL_l, jmp, obj, obj1, fI, fR, arI, arL, arR, hput, f4_0, f4_1, f4_2, f4_3, lc_0, lc_1, rok_i, rok_b, rok_y, strF, fput_1, fput_2, csum_nil, csum_i, csum_l, csum_r, va_up_self, bx_uu, Int.reduceAdd, List.elem_nil, List.elem_cons, List.take_succ_cons, List.take_zero, List.drop_succ_cons, List.drop_zero, List.take_nil, List.drop_nil, List.reverse_cons, List.reverse_nil, List.nil_append, List.cons_append, List.append_nil, Option.toList_some, Option.toList_none, List.getElem?_cons_zero, List.getElem?_cons_succ, List.set_cons_zero, List.set_cons_succ, List.length_cons, List.length_nil, reduceIte, reduceCtorEq, and_true, true_and, and_self, or_true, true_or, false_and, and_false, not_true_eq_false, not_false_eq_true, true_implies, false_implies, implies_true, Nat.reduceAdd, Nat.reduceLT, Nat.reduceEqDiff, Nat.reduceLeDiff, Nat.reduceBEq, Nat.zero_add, Nat.lt_add_one, Bool.false_eq_true, Bool.or_false, Bool.or_true, Bool.or_self, Nat.zero_ne_one, Nat.one_ne_zero, ite_true, ite_false, ne_eq, Nat.reduceSub, Nat.succ_eq_add_one, Nat.zero_lt_succ, Nat.add_one_ne_zero, false_or, or_false, mJ0_isLatin1_aae02_c, mJ0_isLatin1_aae02_n, mJ0_isLatin1_aae02_r, mJ0_isLatin1_aae02_l, dJ0_isLatin1_aae02_0, dJ0_isLatin1_aae02_3, tg_3_14, cnd1_eq, dJ0_isLatin1_aae02_6, dJ0_isLatin1_aae02_7, dJ0_isLatin1_aae02_10, tg_10_7, cnd1_ne, dJ0_isLatin1_aae02_13, ic_1, dJ0_isLatin1_aae02_14, tg_14_4, dJ0_isLatin1_aae02_17, ic_0, dJ0_isLatin1_aae02_18, st_aload_n, st_getfield, st_getstatic, st_goto, st_iconst, st_ifCond, st_ireturn]
    exact h
  · exact h.elim
def sp_J0_length_8abf5 (Γ : Cx) : YSp := fun av σ K => match av with | [.ref a] => a = Γ.2.2.2.2.1 ∧ K (some (.int 5)) σ | _ => False
theorem mono_J0_length_8abf5 {Γ : Cx} : Mono (sp_J0_length_8abf5 Γ) := by
  intro av σ K K' hk h
  unfold sp_J0_length_8abf5 at h ⊢
  split at h
  · exact ⟨h.1, hk _ _ h.2⟩
  · exact h.elim
theorem rv_J0_length_8abf5 {Γ : Cx} : RecvS Γ (sp_J0_length_8abf5 Γ) 0 := by
  intro av σ K h
  unfold sp_J0_length_8abf5 at h
  split at h
  · exact ⟨[], by rw [h.1], rfl⟩
  · exact h.elim
theorem sh5 : (5 : Int32) >>> ((0 : Int32) &&& 31) = 5 := by decide
theorem bw_376 : Cond.code yJ0_coder_7d493 cJ0_coder_7d493 1 (some .byte) ∈ BW := bw_i 376 (by decide +kernel) (by decide +kernel)
theorem bw_51 : Cond.initialized RJ0 ∈ BW := bw_i 51 (by decide +kernel) (by decide +kernel)
theorem no_J0_coder_7d493 : NameOK yJ0_coder_7d493 0 := by unfold NameOK; decide +kernel
theorem bw_373 : Cond.methodLink RJ0 335 yJ0_coder_7d493 ∈ BW := bw_i 373 (by decide +kernel) (by decide +kernel)
theorem bw_374 : Cond.instanceMethod yJ0_coder_7d493 ∈ BW := bw_i 374 (by decide +kernel) (by decide +kernel)
theorem bw_375 : Cond.selects RJ0 yJ0_coder_7d493 yJ0_coder_7d493 ∈ BW := bw_i 375 (by decide +kernel) (by decide +kernel)
def mJ0_length_8abf5 : Mt := (⟨1, 0, 0, 20⟩, RJ0, cJ0_length_8abf5, 1, some .int, (0, 0), some false)
theorem mJ0_length_8abf5_c : mJ0_length_8abf5.2.2.1 = cJ0_length_8abf5 := rfl
theorem mJ0_length_8abf5_n : mJ0_length_8abf5.2.2.2.1 = 1 := rfl
theorem mJ0_length_8abf5_r : mJ0_length_8abf5.2.2.2.2.1 = some .int := rfl
theorem mJ0_length_8abf5_l : mJ0_length_8abf5.2.2.2.2.2.2 = some false := rfl
def jJ0_length_8abf5 (Γ : Cx) : List ((Nat × Nat) × Nat × Bool × YSp) := [((0, 335), 1, true, sp_J0_coder_7d493 Γ)]
set_option maxRecDepth 20000 in
theorem jJ0_length_8abf5_0_335 (Γ : Cx) : kT (jJ0_length_8abf5 Γ) 0 335 = some (1, true, sp_J0_coder_7d493 Γ) := rfl
def kkJ0_length_8abf5 : List (Nat × (Int32 ⊕ Int64)) := []
theorem kkJ0_length_8abf5_ok : ∀ q ∈ kkJ0_length_8abf5, conOK RJ0 q := all_nil
theorem uJ0_length_8abf5 (Γ : Cx) : TbOK Γ mJ0_length_8abf5 (fT [], cT kkJ0_length_8abf5, kT (jJ0_length_8abf5 Γ)) := tb_ok all_nil kkJ0_length_8abf5_ok (all_cons ⟨call_VS (n := 0) rfl (ok_J0_coder_7d493 Γ) (rv_J0_coder_7d493 (Γ := Γ)) bw_376 bw_373 bw_374 bw_375 bw_51 no_J0_coder_7d493 ⟨⟨rfl, rfl⟩, ⟨by decide, by decide⟩, ⟨by decide, by decide⟩⟩, fun _ => mono_J0_coder_7d493 (Γ := Γ)⟩ (all_nil))
set_option maxRecDepth 20000 in
theorem ok_J0_length_8abf5 (Γ : Cx) : Ok Γ yJ0_length_8abf5 mJ0_length_8abf5 (sp_J0_length_8abf5 Γ) := by
  refine ok_intro (by decide +kernel) rfl rfl ?_
  intro av σ K h
  unfold sp_J0_length_8abf5 at h
  split at h
  · obtain ⟨rfl, h⟩ := h
    refine ⟨Nat.le_of_ble_eq_true rfl, yvc_ok (uJ0_length_8abf5 Γ) (S := []) 40 _ _ _ _ ?_⟩
    simp only [lv_args, Value.category, i1ne0, show mJ0_length_8abf5.2.1 = RJ0 from rfl, sp_J0_coder_7d493, sh5, yvc_s, s1i, s2i, s1l, s2l, sil, s1r, sir, siir, slir, srir, svr, sd1, sd2, lg, lput, ldel, isL_i, isL_r, isL_l, jmp, obj, obj1, fI, fR, arI, arL, arR, hput, f4_0, f4_1, f4_2, f4_3, lc_0, lc_1, rok_i, rok_b, rok_y, strF, fput_1, fput_2, csum_nil, csum_i, csum_l, csum_r, va_up_self, bx_uu, Int.reduceAdd, List.elem_nil, List.elem_cons, List.take_succ_cons, List.take_zero, List.drop_succ_cons, List.drop_zero, List.take_nil, List.drop_nil, List.reverse_cons, List.reverse_nil, List.nil_append, List.cons_append, List.append_nil, Option.toList_some, Option.toList_none, List.getElem?_cons_zero, List.getElem?_cons_succ, List.set_cons_zero, List.set_cons_succ, List.length_cons, List.length_nil, reduceIte, reduceCtorEq, and_true, true_and, and_self, or_true, true_or, false_and, and_false, not_true_eq_false, not_false_eq_true, true_implies, false_implies, implies_true, Nat.reduceAdd, Nat.reduceLT, Nat.reduceEqDiff, Nat.reduceLeDiff, Nat.reduceBEq, Nat.zero_add, Nat.lt_add_one, Bool.false_eq_true, Bool.or_false, Bool.or_true, Bool.or_self, Nat.zero_ne_one, Nat.one_ne_zero, ite_true, ite_false, ne_eq, Nat.reduceSub, Nat.succ_eq_add_one, Nat.zero_lt_succ, Nat.add_one_ne_zero, false_or, or_false, mJ0_length_8abf5_c, mJ0_length_8abf5_n, mJ0_length_8abf5_r, mJ0_length_8abf5_l, dJ0_length_8abf5_0, dJ0_length_8abf5_1, dJ0_length_8abf5_4, dJ0_length_8abf5_5, dJ0_length_8abf5_6, dJ0_length_8abf5_9, dJ0_length_8abf5_10, jJ0_length_8abf5_0_335, st_aload_n, st_arraylength, st_getfield, st_invokevirtual, st_ireturn, st_ishr]
    exact h
  · exact h.elim
def sp_J1_canEncode_9a6ad (_ : Cx) : YSp := fun av σ K => match av with | [.int c] => K (some (.int (bI (inr c 0 255)))) σ | _ => False
theorem mono_J1_canEncode_9a6ad {Γ : Cx} : Mono (sp_J1_canEncode_9a6ad Γ) := by
  intro av σ K K' hk h
  unfold sp_J1_canEncode_9a6ad at h ⊢
  split at h
  · exact hk _ _ h
  · exact h.elim
theorem rv_J1_canEncode_9a6ad {Γ : Cx} : Args (sp_J1_canEncode_9a6ad Γ) 1 := by
  intro av σ K h
  unfold sp_J1_canEncode_9a6ad at h
  split at h
  · rfl
  · exact h.elim
theorem tg_1_14 : tgo 1 14 = some 15 := by decide
theorem sc_255 : (Int16.ofInt 255).toInt32 = 255 := by decide
def mJ1_canEncode_9a6ad : Mt := (⟨0, 0, 0, 0⟩, RJ1, cJ1_canEncode_9a6ad, 1, some .boolean, (0, 0), some false)
theorem mJ1_canEncode_9a6ad_c : mJ1_canEncode_9a6ad.2.2.1 = cJ1_canEncode_9a6ad := rfl
theorem mJ1_canEncode_9a6ad_n : mJ1_canEncode_9a6ad.2.2.2.1 = 1 := rfl
theorem mJ1_canEncode_9a6ad_r : mJ1_canEncode_9a6ad.2.2.2.2.1 = some .boolean := rfl
theorem mJ1_canEncode_9a6ad_l : mJ1_canEncode_9a6ad.2.2.2.2.2.2 = some false := rfl
def jJ1_canEncode_9a6ad (Γ : Cx) : List ((Nat × Nat) × Nat × Bool × YSp) := []
def kkJ1_canEncode_9a6ad : List (Nat × (Int32 ⊕ Int64)) := []
theorem kkJ1_canEncode_9a6ad_ok : ∀ q ∈ kkJ1_canEncode_9a6ad, conOK RJ1 q := all_nil
theorem uJ1_canEncode_9a6ad (Γ : Cx) : TbOK Γ mJ1_canEncode_9a6ad (fT [], cT kkJ1_canEncode_9a6ad, kT (jJ1_canEncode_9a6ad Γ)) := tb_ok all_nil kkJ1_canEncode_9a6ad_ok (all_nil)
set_option maxRecDepth 20000 in
theorem ok_J1_canEncode_9a6ad (Γ : Cx) : Ok Γ yJ1_canEncode_9a6ad mJ1_canEncode_9a6ad (sp_J1_canEncode_9a6ad Γ) := by
  refine ok_intro (by decide +kernel) rfl rfl ?_
  intro av σ K h
  unfold sp_J1_canEncode_9a6ad at h
  split at h
  · next c =>
    refine ⟨Nat.le_of_ble_eq_true rfl, yvc_ok (uJ1_canEncode_9a6ad Γ) (S := []) 40 _ _ _ _ ?_⟩
    simp only [lv_args, Value.category, yvc_s, s1i, s2i, s1l, s2l, sil, s1r, sir, siir, slir, srir, svr, sd1, sd2, lg, lput, ldel, isL_i, isL_r, isL_l, jmp, obj, obj1, fI, fR, arI, arL, arR, hput, f4_0, f4_1, f4_2, f4_3, lc_0, lc_1, rok_i, rok_b, rok_y, strF, fput_1, fput_2, csum_nil, csum_i, csum_l, csum_r, va_up_self, bx_uu, Int.reduceAdd, List.elem_nil, List.elem_cons, List.take_succ_cons, List.take_zero, List.drop_succ_cons, List.drop_zero, List.take_nil, List.drop_nil, List.reverse_cons, List.reverse_nil, List.nil_append, List.cons_append, List.append_nil, Option.toList_some, Option.toList_none, List.getElem?_cons_zero, List.getElem?_cons_succ, List.set_cons_zero, List.set_cons_succ, List.length_cons, List.length_nil, reduceIte, reduceCtorEq, and_true, true_and, and_self, or_true, true_or, false_and, and_false, not_true_eq_false, not_false_eq_true, true_implies, false_implies, implies_true, Nat.reduceAdd, Nat.reduceLT, Nat.reduceEqDiff, Nat.reduceLeDiff, Nat.reduceBEq, Nat.zero_add, Nat.lt_add_one, Bool.false_eq_true, Bool.or_false, Bool.or_true, Bool.or_self, Nat.zero_ne_one, Nat.one_ne_zero, ite_true, ite_false, ne_eq, Nat.reduceSub, Nat.succ_eq_add_one, Nat.zero_lt_succ, Nat.add_one_ne_zero, false_or, or_false, mJ1_canEncode_9a6ad_c, mJ1_canEncode_9a6ad_n, mJ1_canEncode_9a6ad_r, mJ1_canEncode_9a6ad_l, dJ1_canEncode_9a6ad_0, dJ1_canEncode_9a6ad_1, tg_1_14, cnd1_lt, dJ1_canEncode_9a6ad_4, dJ1_canEncode_9a6ad_5, sc_255, dJ1_canEncode_9a6ad_8, tg_8_7, cnd2_gt, dJ1_canEncode_9a6ad_11, ic_1, dJ1_canEncode_9a6ad_12, tg_12_4, dJ1_canEncode_9a6ad_15, ic_0, dJ1_canEncode_9a6ad_16, st_goto, st_iconst, st_ifCond, st_if_icmp, st_iload_n, st_ireturn, st_sipush]
    refine ⟨fun c => ?_, fun c => ⟨fun d => ?_, fun d => ?_⟩⟩
    · rw [inr_no.mpr (fun z => (i_nle.mpr c) z.1)] at h
      exact h
    · rw [inr_no.mpr (fun z => (i_nle.mpr d) z.2)] at h
      exact h
    · rw [inr_iff.mpr ⟨i_nlt.mp c, i_nlt.mp d⟩] at h
      exact h
  · exact h.elim
def kI (b : Int32) : Int32 := if 100 = b then 0 else if 99 = b then 1 else if 111 = b then 2 else if 108 = b then 3 else if 98 = b then 4 else -1
def sp_J1_indexOfChar_4cfef (Γ : Cx) : YSp := fun av σ K => match av with | [.ref a, .int c, .int f, .int t] => (a = Γ.2.2.2.2.2.1 ∧ f = 0 ∧ t = 5) ∧ K (some (.int (kI c.toInt8.toInt32))) σ | _ => False
theorem mono_J1_indexOfChar_4cfef {Γ : Cx} : Mono (sp_J1_indexOfChar_4cfef Γ) := by
  intro av σ K K' hk h
  unfold sp_J1_indexOfChar_4cfef at h ⊢
  split at h
  · exact ⟨h.1, hk _ _ h.2⟩
  · exact h.elim
theorem rv_J1_indexOfChar_4cfef {Γ : Cx} : Args (sp_J1_indexOfChar_4cfef Γ) 4 := by
  intro av σ K h
  unfold sp_J1_indexOfChar_4cfef at h
  split at h
  · rfl
  · exact h.elim
theorem c50 : ¬ (5 : Int32) ≤ 0 := by decide
theorem c51 : ¬ (5 : Int32) ≤ 1 := by decide
theorem c52 : ¬ (5 : Int32) ≤ 2 := by decide
theorem c53 : ¬ (5 : Int32) ≤ 3 := by decide
theorem c54 : ¬ (5 : Int32) ≤ 4 := by decide
theorem c55 : (5 : Int32) ≤ 5 := by decide
theorem a01 : (0 : Int32) + 1 = 1 := by decide
theorem a11 : (1 : Int32) + 1 = 2 := by decide
theorem a21 : (2 : Int32) + 1 = 3 := by decide
theorem a31 : (3 : Int32) + 1 = 4 := by decide
theorem a41 : (4 : Int32) + 1 = 5 := by decide
theorem in0_5 : vp_in (0 : Int32) 5 := show vp_in (nI 0) 5 from vp_in_nI (by decide) (by decide)
theorem in1_5 : vp_in (1 : Int32) 5 := show vp_in (nI 1) 5 from vp_in_nI (by decide) (by decide)
theorem in2_5 : vp_in (2 : Int32) 5 := show vp_in (nI 2) 5 from vp_in_nI (by decide) (by decide)
theorem in3_5 : vp_in (3 : Int32) 5 := show vp_in (nI 3) 5 from vp_in_nI (by decide) (by decide)
theorem in4_5 : vp_in (4 : Int32) 5 := show vp_in (nI 4) 5 from vp_in_nI (by decide) (by decide)
theorem by0 : ([100, 99, 111, 108, 98] : List Int32).getD 0 0 = 100 := rfl
theorem by1 : ([100, 99, 111, 108, 98] : List Int32).getD 1 0 = 99 := rfl
theorem by2 : ([100, 99, 111, 108, 98] : List Int32).getD 2 0 = 111 := rfl
theorem by3 : ([100, 99, 111, 108, 98] : List Int32).getD 3 0 = 108 := rfl
theorem by4 : ([100, 99, 111, 108, 98] : List Int32).getD 4 0 = 98 := rfl
theorem tg_10_21 : tgo 10 21 = some 31 := by decide
theorem tg_19_6 : tgo 19 6 = some 25 := by decide
theorem tg_28_m21 : tgo 28 (-21) = some 7 := by decide
def mJ1_indexOfChar_4cfef : Mt := (⟨0, 0, 0, 0⟩, RJ1, cJ1_indexOfChar_4cfef, 6, some .int, (0, 0), some false)
theorem mJ1_indexOfChar_4cfef_c : mJ1_indexOfChar_4cfef.2.2.1 = cJ1_indexOfChar_4cfef := rfl
theorem mJ1_indexOfChar_4cfef_n : mJ1_indexOfChar_4cfef.2.2.2.1 = 6 := rfl
theorem mJ1_indexOfChar_4cfef_r : mJ1_indexOfChar_4cfef.2.2.2.2.1 = some .int := rfl
theorem mJ1_indexOfChar_4cfef_l : mJ1_indexOfChar_4cfef.2.2.2.2.2.2 = some false := rfl
def jJ1_indexOfChar_4cfef (Γ : Cx) : List ((Nat × Nat) × Nat × Bool × YSp) := []
def kkJ1_indexOfChar_4cfef : List (Nat × (Int32 ⊕ Int64)) := []
theorem kkJ1_indexOfChar_4cfef_ok : ∀ q ∈ kkJ1_indexOfChar_4cfef, conOK RJ1 q := all_nil
theorem uJ1_indexOfChar_4cfef (Γ : Cx) : TbOK Γ mJ1_indexOfChar_4cfef (fT [], cT kkJ1_indexOfChar_4cfef, kT (jJ1_indexOfChar_4cfef Γ)) := tb_ok all_nil kkJ1_indexOfChar_4cfef_ok (all_nil)
set_option maxRecDepth 20000 in
theorem ok_J1_indexOfChar_4cfef (Γ : Cx) : Ok Γ yJ1_indexOfChar_4cfef mJ1_indexOfChar_4cfef (sp_J1_indexOfChar_4cfef Γ) := by
  refine ok_intro (by decide +kernel) rfl rfl ?_
  intro av σ K h
  unfold sp_J1_indexOfChar_4cfef at h
  split at h
  · next a c f t =>
    obtain ⟨⟨rfl, rfl, rfl⟩, h⟩ := h
    refine ⟨Nat.le_of_ble_eq_true rfl, yvc_ok (uJ1_indexOfChar_4cfef Γ) (S := []) 80 _ _ _ _ ?_⟩
    simp only [lv_args, Value.category, c50, c51, c52, c53, c54, c55, a01, a11, a21, a31, a41, in0_5, in1_5, in2_5, in3_5, in4_5, n0, n1, n2, n3, n4, by0, by1, by2, by3, by4, yvc_s, s1i, s2i, s1l, s2l, sil, s1r, sir, siir, slir, srir, svr, sd1, sd2, lg, lput, ldel, isL_i, isL_r, isL_l, jmp, obj, obj1, fI, fR, arI, arL, arR, hput, f4_0, f4_1, f4_2, f4_3, lc_0, lc_1, rok_i, rok_b, rok_y, strF, fput_1, fput_2, csum_nil, csum_i, csum_l, csum_r, va_up_self, bx_uu, Int.reduceAdd, List.elem_nil, List.elem_cons, List.take_succ_cons, List.take_zero, List.drop_succ_cons, List.drop_zero, List.take_nil, List.drop_nil, List.reverse_cons, List.reverse_nil, List.nil_append, List.cons_append, List.append_nil, Option.toList_some, Option.toList_none, List.getElem?_cons_zero, List.getElem?_cons_succ, List.set_cons_zero, List.set_cons_succ, List.length_cons, List.length_nil, reduceIte, reduceCtorEq, and_true, true_and, and_self, or_true, true_or, false_and, and_false, not_true_eq_false, not_false_eq_true, true_implies, false_implies, implies_true, Nat.reduceAdd, Nat.reduceLT, Nat.reduceEqDiff, Nat.reduceLeDiff, Nat.reduceBEq, Nat.zero_add, Nat.lt_add_one, Bool.false_eq_true, Bool.or_false, Bool.or_true, Bool.or_self, Nat.zero_ne_one, Nat.one_ne_zero, ite_true, ite_false, ne_eq, Nat.reduceSub, Nat.succ_eq_add_one, Nat.zero_lt_succ, Nat.add_one_ne_zero, false_or, or_false, mJ1_indexOfChar_4cfef_c, mJ1_indexOfChar_4cfef_n, mJ1_indexOfChar_4cfef_r, mJ1_indexOfChar_4cfef_l, dJ1_indexOfChar_4cfef_0, dJ1_indexOfChar_4cfef_1, dJ1_indexOfChar_4cfef_2, dJ1_indexOfChar_4cfef_4, dJ1_indexOfChar_4cfef_5, dJ1_indexOfChar_4cfef_7, dJ1_indexOfChar_4cfef_9, dJ1_indexOfChar_4cfef_10, tg_10_21, cnd2_ge, dJ1_indexOfChar_4cfef_13, dJ1_indexOfChar_4cfef_14, dJ1_indexOfChar_4cfef_16, dJ1_indexOfChar_4cfef_17, dJ1_indexOfChar_4cfef_19, tg_19_6, cnd2_ne, dJ1_indexOfChar_4cfef_22, dJ1_indexOfChar_4cfef_24, dJ1_indexOfChar_4cfef_25, ic_1, dJ1_indexOfChar_4cfef_28, tg_28_m21, dJ1_indexOfChar_4cfef_31, ic_m1, dJ1_indexOfChar_4cfef_32, st_aload_n, st_baload, st_goto, st_i2b, st_iconst, st_if_icmp, st_iinc, st_iload, st_iload_n, st_ireturn, st_istore]
    unfold kI at h
    refine ⟨fun q0 => ⟨fun q1 => ⟨fun q2 => ⟨fun q3 => ⟨fun q4 => ?_, fun q4 => ?_⟩, fun q3 => ?_⟩, fun q2 => ?_⟩, fun q1 => ?_⟩, fun q0 => ?_⟩
    · rw [if_neg q0, if_neg q1, if_neg q2, if_neg q3, if_neg q4] at h
      exact h
    · rw [if_neg q0, if_neg q1, if_neg q2, if_neg q3, if_pos (Classical.not_not.mp q4)] at h
      exact h
    · rw [if_neg q0, if_neg q1, if_neg q2, if_pos (Classical.not_not.mp q3)] at h
      exact h
    · rw [if_neg q0, if_neg q1, if_pos (Classical.not_not.mp q2)] at h
      exact h
    · rw [if_neg q0, if_pos (Classical.not_not.mp q1)] at h
      exact h
    · rw [if_pos (Classical.not_not.mp q0)] at h
      exact h
  · exact h.elim
def kOf (c : Int32) : Int32 := if inr c 0 255 = true then kI c.toInt8.toInt32 else -1
def sp_J1_indexOf_4cfef (Γ : Cx) : YSp := fun av σ K => match av with | [.ref a, .int c, .int f, .int t] => (a = Γ.2.2.2.2.2.1 ∧ f = 0 ∧ t = 5) ∧ K (some (.int (kOf c))) σ | _ => False
theorem mono_J1_indexOf_4cfef {Γ : Cx} : Mono (sp_J1_indexOf_4cfef Γ) := by
  intro av σ K K' hk h
  unfold sp_J1_indexOf_4cfef at h ⊢
  split at h
  · exact ⟨h.1, hk _ _ h.2⟩
  · exact h.elim
theorem rv_J1_indexOf_4cfef {Γ : Cx} : Args (sp_J1_indexOf_4cfef Γ) 4 := by
  intro av σ K h
  unfold sp_J1_indexOf_4cfef at h
  split at h
  · rfl
  · exact h.elim
theorem mx00 : (if (0 : Int32) < 0 then (0 : Int32) else 0) = 0 := by decide
theorem mn55 : (if (5 : Int32) < 5 then (5 : Int32) else 5) = 5 := by decide
theorem l05 : (0 : Int32) < 5 := by decide
theorem bw_382 : Cond.code yJ1_canEncode_9a6ad cJ1_canEncode_9a6ad 1 (some .boolean) ∈ BW := bw_i 382 (by decide +kernel) (by decide +kernel)
theorem bw_52 : Cond.initialized RJ1 ∈ BW := bw_i 52 (by decide +kernel) (by decide +kernel)
theorem no_J1_canEncode_9a6ad : NameOK yJ1_canEncode_9a6ad 1 := by unfold NameOK; decide +kernel
theorem bw_380 : Cond.methodLink RJ1 88 yJ1_canEncode_9a6ad ∈ BW := bw_i 380 (by decide +kernel) (by decide +kernel)
theorem bw_381 : Cond.static yJ1_canEncode_9a6ad ∈ BW := bw_i 381 (by decide +kernel) (by decide +kernel)
theorem bw_383 : Cond.methodLink RJ1 92 Lib.Math.max.name ∈ BW := bw_i 383 (by decide +kernel) (by decide +kernel)
theorem bw_384 : Cond.static Lib.Math.max.name ∈ BW := bw_i 384 (by decide +kernel) (by decide +kernel)
theorem bw_385 : Cond.code Lib.Math.max.name Lib.Math.max.code 2 (some .int) ∈ BW := bw_i 385 (by decide +kernel) (by decide +kernel)
theorem bw_386 : Cond.methodLink RJ1 38 Lib.Math.min.name ∈ BW := bw_i 386 (by decide +kernel) (by decide +kernel)
theorem bw_391 : Cond.code yJ1_indexOfChar_4cfef cJ1_indexOfChar_4cfef 6 (some .int) ∈ BW := bw_i 391 (by decide +kernel) (by decide +kernel)
theorem no_J1_indexOfChar_4cfef : NameOK yJ1_indexOfChar_4cfef 4 := by unfold NameOK; decide +kernel
theorem bw_389 : Cond.methodLink RJ1 95 yJ1_indexOfChar_4cfef ∈ BW := bw_i 389 (by decide +kernel) (by decide +kernel)
theorem bw_390 : Cond.static yJ1_indexOfChar_4cfef ∈ BW := bw_i 390 (by decide +kernel) (by decide +kernel)
theorem tg_4_5 : tgo 4 5 = some 9 := by decide
theorem tg_24_5 : tgo 24 5 = some 29 := by decide
def mJ1_indexOf_4cfef : Mt := (⟨1, 0, 0, 25⟩, RJ1, cJ1_indexOf_4cfef, 4, some .int, (0, 0), some false)
theorem mJ1_indexOf_4cfef_c : mJ1_indexOf_4cfef.2.2.1 = cJ1_indexOf_4cfef := rfl
theorem mJ1_indexOf_4cfef_n : mJ1_indexOf_4cfef.2.2.2.1 = 4 := rfl
theorem mJ1_indexOf_4cfef_r : mJ1_indexOf_4cfef.2.2.2.2.1 = some .int := rfl
theorem mJ1_indexOf_4cfef_l : mJ1_indexOf_4cfef.2.2.2.2.2.2 = some false := rfl
def jJ1_indexOf_4cfef (Γ : Cx) : List ((Nat × Nat) × Nat × Bool × YSp) := [((1, 88), 1, true, sp_J1_canEncode_9a6ad Γ), ((1, 92), 2, true, sp_max), ((1, 38), 2, true, sp_min), ((1, 95), 4, true, sp_J1_indexOfChar_4cfef Γ)]
theorem jJ1_indexOf_4cfef_1_88 (Γ : Cx) : kT (jJ1_indexOf_4cfef Γ) 1 88 = some (1, true, sp_J1_canEncode_9a6ad Γ) := rfl
theorem jJ1_indexOf_4cfef_1_92 (Γ : Cx) : kT (jJ1_indexOf_4cfef Γ) 1 92 = some (2, true, sp_max) := rfl
theorem jJ1_indexOf_4cfef_1_38 (Γ : Cx) : kT (jJ1_indexOf_4cfef Γ) 1 38 = some (2, true, sp_min) := rfl
theorem jJ1_indexOf_4cfef_1_95 (Γ : Cx) : kT (jJ1_indexOf_4cfef Γ) 1 95 = some (4, true, sp_J1_indexOfChar_4cfef Γ) := rfl
def kkJ1_indexOf_4cfef : List (Nat × (Int32 ⊕ Int64)) := []
theorem kkJ1_indexOf_4cfef_ok : ∀ q ∈ kkJ1_indexOf_4cfef, conOK RJ1 q := all_nil
theorem uJ1_indexOf_4cfef (Γ : Cx) : TbOK Γ mJ1_indexOf_4cfef (fT [], cT kkJ1_indexOf_4cfef, kT (jJ1_indexOf_4cfef Γ)) := tb_ok all_nil kkJ1_indexOf_4cfef_ok (all_cons ⟨call_S (n := 1) (ok_J1_canEncode_9a6ad Γ) (rv_J1_canEncode_9a6ad (Γ := Γ)) bw_382 bw_380 bw_381 bw_52 no_J1_canEncode_9a6ad ⟨⟨rfl, rfl⟩, ⟨by decide, by decide⟩, ⟨by decide, by decide⟩⟩, fun _ => mono_J1_canEncode_9a6ad (Γ := Γ)⟩ (all_cons ⟨call_max bw_383 bw_384 bw_53 bw_385 (by decide +kernel), fun _ => mono_max⟩ (all_cons ⟨call_min bw_386 bw_387 bw_53 bw_388 (by decide +kernel), fun _ => mono_min⟩ (all_cons ⟨call_S (n := 4) (ok_J1_indexOfChar_4cfef Γ) (rv_J1_indexOfChar_4cfef (Γ := Γ)) bw_391 bw_389 bw_390 bw_52 no_J1_indexOfChar_4cfef ⟨⟨rfl, rfl⟩, ⟨by decide, by decide⟩, ⟨by decide, by decide⟩⟩, fun _ => mono_J1_indexOfChar_4cfef (Γ := Γ)⟩ (all_nil)))))
set_option maxRecDepth 20000 in
theorem ok_J1_indexOf_4cfef (Γ : Cx) : Ok Γ yJ1_indexOf_4cfef mJ1_indexOf_4cfef (sp_J1_indexOf_4cfef Γ) := by
  refine ok_intro (by decide +kernel) rfl rfl ?_
  intro av σ K h
  unfold sp_J1_indexOf_4cfef at h
  split at h
  · next a c f t =>
    obtain ⟨⟨rfl, rfl, rfl⟩, h⟩ := h
    refine ⟨Nat.le_of_ble_eq_true rfl, yvc_ok (uJ1_indexOf_4cfef Γ) (S := []) 80 _ _ _ _ ?_⟩
    simp only [lv_args, Value.category, sp_J1_canEncode_9a6ad, sp_J1_indexOfChar_4cfef, sp_max, sp_min, mx00, mn55, l05, bI_eq0, yvc_s, s1i, s2i, s1l, s2l, sil, s1r, sir, siir, slir, srir, svr, sd1, sd2, lg, lput, ldel, isL_i, isL_r, isL_l, jmp, obj, obj1, fI, fR, arI, arL, arR, hput, f4_0, f4_1, f4_2, f4_3, lc_0, lc_1, rok_i, rok_b, rok_y, strF, fput_1, fput_2, csum_nil, csum_i, csum_l, csum_r, va_up_self, bx_uu, Int.reduceAdd, List.elem_nil, List.elem_cons, List.take_succ_cons, List.take_zero, List.drop_succ_cons, List.drop_zero, List.take_nil, List.drop_nil, List.reverse_cons, List.reverse_nil, List.nil_append, List.cons_append, List.append_nil, Option.toList_some, Option.toList_none, List.getElem?_cons_zero, List.getElem?_cons_succ, List.set_cons_zero, List.set_cons_succ, List.length_cons, List.length_nil, reduceIte, reduceCtorEq, and_true, true_and, and_self, or_true, true_or, false_and, and_false, not_true_eq_false, not_false_eq_true, true_implies, false_implies, implies_true, Nat.reduceAdd, Nat.reduceLT, Nat.reduceEqDiff, Nat.reduceLeDiff, Nat.reduceBEq, Nat.zero_add, Nat.lt_add_one, Bool.false_eq_true, Bool.or_false, Bool.or_true, Bool.or_self, Nat.zero_ne_one, Nat.one_ne_zero, ite_true, ite_false, ne_eq, Nat.reduceSub, Nat.succ_eq_add_one, Nat.zero_lt_succ, Nat.add_one_ne_zero, false_or, or_false, mJ1_indexOf_4cfef_c, mJ1_indexOf_4cfef_n, mJ1_indexOf_4cfef_r, mJ1_indexOf_4cfef_l, dJ1_indexOf_4cfef_0, dJ1_indexOf_4cfef_1, dJ1_indexOf_4cfef_4, tg_4_5, cnd1_ne, dJ1_indexOf_4cfef_7, ic_m1, dJ1_indexOf_4cfef_8, dJ1_indexOf_4cfef_9, dJ1_indexOf_4cfef_10, ic_0, dJ1_indexOf_4cfef_11, dJ1_indexOf_4cfef_14, dJ1_indexOf_4cfef_15, dJ1_indexOf_4cfef_16, dJ1_indexOf_4cfef_17, dJ1_indexOf_4cfef_18, dJ1_indexOf_4cfef_21, dJ1_indexOf_4cfef_22, dJ1_indexOf_4cfef_23, dJ1_indexOf_4cfef_24, tg_24_5, cnd2_lt, dJ1_indexOf_4cfef_27, dJ1_indexOf_4cfef_28, dJ1_indexOf_4cfef_29, dJ1_indexOf_4cfef_30, dJ1_indexOf_4cfef_31, dJ1_indexOf_4cfef_32, dJ1_indexOf_4cfef_33, dJ1_indexOf_4cfef_36, jJ1_indexOf_4cfef_1_88, jJ1_indexOf_4cfef_1_92, jJ1_indexOf_4cfef_1_38, jJ1_indexOf_4cfef_1_95, st_aload_n, st_arraylength, st_iconst, st_ifCond, st_if_icmp, st_iload_n, st_invokestatic, st_ireturn, st_istore_n]
    unfold kOf at h
    refine ⟨fun c => ?_, fun c => ?_⟩
    · rw [if_pos (by cases q : inr _ 0 255 <;> simp_all)] at h
      exact h
    · rw [if_neg (by rw [Classical.not_not.mp c]; decide)] at h
      exact h
  · exact h.elim
def sp_J0_indexOf_7cf53 (Γ : Cx) : YSp := fun av σ K => match av with | [.ref a, .int c, .int f] => (a = Γ.2.2.2.2.1 ∧ f = 0) ∧ K (some (.int (kOf c))) σ | _ => False
theorem mono_J0_indexOf_7cf53 {Γ : Cx} : Mono (sp_J0_indexOf_7cf53 Γ) := by
  intro av σ K K' hk h
  unfold sp_J0_indexOf_7cf53 at h ⊢
  split at h
  · exact ⟨h.1, hk _ _ h.2⟩
  · exact h.elim
theorem rv_J0_indexOf_7cf53 {Γ : Cx} : RecvS Γ (sp_J0_indexOf_7cf53 Γ) 2 := by
  intro av σ K h
  unfold sp_J0_indexOf_7cf53 at h
  split at h
  · exact ⟨_, by rw [h.1.1], rfl⟩
  · exact h.elim
def sp_J2_indexOf_4cfef (_ : Cx) : YSp := fun _ _ _ => False
theorem mono_J2_indexOf_4cfef {Γ : Cx} : Mono (sp_J2_indexOf_4cfef Γ) := fun _ _ _ _ _ h => h
theorem rv_J2_indexOf_4cfef {Γ : Cx} : Args (sp_J2_indexOf_4cfef Γ) 4 := fun _ _ _ h => h.elim
theorem bw_397 : Cond.constant RJ2 227 (65536 : Int32) ∈ BW := bw_i 397 (by decide +kernel) (by decide +kernel)
theorem tg_17_5 : tgo 17 5 = some 22 := by decide
theorem tg_25_11 : tgo 25 11 = some 36 := by decide
def mJ2_indexOf_4cfef : Mt := (⟨0, 0, 0, 0⟩, RJ2, cJ2_indexOf_4cfef, 4, some .int, (0, 0), some false)
theorem mJ2_indexOf_4cfef_c : mJ2_indexOf_4cfef.2.2.1 = cJ2_indexOf_4cfef := rfl
theorem mJ2_indexOf_4cfef_n : mJ2_indexOf_4cfef.2.2.2.1 = 4 := rfl
theorem mJ2_indexOf_4cfef_r : mJ2_indexOf_4cfef.2.2.2.2.1 = some .int := rfl
theorem mJ2_indexOf_4cfef_l : mJ2_indexOf_4cfef.2.2.2.2.2.2 = some false := rfl
def jJ2_indexOf_4cfef (Γ : Cx) : List ((Nat × Nat) × Nat × Bool × YSp) := []
def kkJ2_indexOf_4cfef : List (Nat × (Int32 ⊕ Int64)) := [(227, .inl (65536 : Int32))]
theorem kkJ2_indexOf_4cfef_ok : ∀ q ∈ kkJ2_indexOf_4cfef, conOK RJ2 q := all_cons bw_397 (all_nil)
theorem kkJ2_indexOf_4cfef_227 : cT kkJ2_indexOf_4cfef 227 = some (.inl (65536 : Int32)) := by decide +kernel
theorem uJ2_indexOf_4cfef (Γ : Cx) : TbOK Γ mJ2_indexOf_4cfef (fT [], cT kkJ2_indexOf_4cfef, kT (jJ2_indexOf_4cfef Γ)) := tb_ok all_nil kkJ2_indexOf_4cfef_ok (all_nil)
set_option maxRecDepth 20000 in
theorem ok_J2_indexOf_4cfef (Γ : Cx) : Ok Γ yJ2_indexOf_4cfef mJ2_indexOf_4cfef (sp_J2_indexOf_4cfef Γ) := fun _ _ _ h => h.elim
theorem bw_366 : Cond.code yJ0_isLatin1_aae02 cJ0_isLatin1_aae02 1 (some .boolean) ∈ BW := bw_i 366 (by decide +kernel) (by decide +kernel)
theorem no_J0_isLatin1_aae02 : NameOK yJ0_isLatin1_aae02 0 := by unfold NameOK; decide +kernel
theorem bw_363 : Cond.methodLink RJ0 492 yJ0_isLatin1_aae02 ∈ BW := bw_i 363 (by decide +kernel) (by decide +kernel)
theorem bw_364 : Cond.instanceMethod yJ0_isLatin1_aae02 ∈ BW := bw_i 364 (by decide +kernel) (by decide +kernel)
theorem bw_365 : Cond.selects RJ0 yJ0_isLatin1_aae02 yJ0_isLatin1_aae02 ∈ BW := bw_i 365 (by decide +kernel) (by decide +kernel)
theorem bw_372 : Cond.code yJ0_length_8abf5 cJ0_length_8abf5 1 (some .int) ∈ BW := bw_i 372 (by decide +kernel) (by decide +kernel)
theorem no_J0_length_8abf5 : NameOK yJ0_length_8abf5 0 := by unfold NameOK; decide +kernel
theorem bw_369 : Cond.methodLink RJ0 505 yJ0_length_8abf5 ∈ BW := bw_i 369 (by decide +kernel) (by decide +kernel)
theorem bw_370 : Cond.instanceMethod yJ0_length_8abf5 ∈ BW := bw_i 370 (by decide +kernel) (by decide +kernel)
theorem bw_371 : Cond.selects RJ0 yJ0_length_8abf5 yJ0_length_8abf5 ∈ BW := bw_i 371 (by decide +kernel) (by decide +kernel)
theorem bw_379 : Cond.code yJ1_indexOf_4cfef cJ1_indexOf_4cfef 4 (some .int) ∈ BW := bw_i 379 (by decide +kernel) (by decide +kernel)
theorem no_J1_indexOf_4cfef : NameOK yJ1_indexOf_4cfef 4 := by unfold NameOK; decide +kernel
theorem bw_377 : Cond.methodLink RJ0 637 yJ1_indexOf_4cfef ∈ BW := bw_i 377 (by decide +kernel) (by decide +kernel)
theorem bw_378 : Cond.static yJ1_indexOf_4cfef ∈ BW := bw_i 378 (by decide +kernel) (by decide +kernel)
theorem bw_394 : Cond.code yJ2_indexOf_4cfef cJ2_indexOf_4cfef 4 (some .int) ∈ BW := bw_i 394 (by decide +kernel) (by decide +kernel)
theorem bw_54 : Cond.initialized RJ2 ∈ BW := bw_i 54 (by decide +kernel) (by decide +kernel)
theorem no_J2_indexOf_4cfef : NameOK yJ2_indexOf_4cfef 4 := by unfold NameOK; decide +kernel
theorem bw_392 : Cond.methodLink RJ0 640 yJ2_indexOf_4cfef ∈ BW := bw_i 392 (by decide +kernel) (by decide +kernel)
theorem bw_393 : Cond.static yJ2_indexOf_4cfef ∈ BW := bw_i 393 (by decide +kernel) (by decide +kernel)
theorem tg_4_19 : tgo 4 19 = some 23 := by decide
theorem tg_20_16 : tgo 20 16 = some 36 := by decide
def mJ0_indexOf_7cf53 : Mt := (⟨2, 0, 0, 48⟩, RJ0, cJ0_indexOf_7cf53, 3, some .int, (0, 0), some false)
theorem mJ0_indexOf_7cf53_c : mJ0_indexOf_7cf53.2.2.1 = cJ0_indexOf_7cf53 := rfl
theorem mJ0_indexOf_7cf53_n : mJ0_indexOf_7cf53.2.2.2.1 = 3 := rfl
theorem mJ0_indexOf_7cf53_r : mJ0_indexOf_7cf53.2.2.2.2.1 = some .int := rfl
theorem mJ0_indexOf_7cf53_l : mJ0_indexOf_7cf53.2.2.2.2.2.2 = some false := rfl
def jJ0_indexOf_7cf53 (Γ : Cx) : List ((Nat × Nat) × Nat × Bool × YSp) := [((0, 492), 1, true, sp_J0_isLatin1_aae02 Γ), ((0, 505), 1, true, sp_J0_length_8abf5 Γ), ((1, 637), 4, true, sp_J1_indexOf_4cfef Γ), ((1, 640), 4, true, sp_J2_indexOf_4cfef Γ)]
set_option maxRecDepth 20000 in
theorem jJ0_indexOf_7cf53_0_492 (Γ : Cx) : kT (jJ0_indexOf_7cf53 Γ) 0 492 = some (1, true, sp_J0_isLatin1_aae02 Γ) := rfl
set_option maxRecDepth 20000 in
theorem jJ0_indexOf_7cf53_0_505 (Γ : Cx) : kT (jJ0_indexOf_7cf53 Γ) 0 505 = some (1, true, sp_J0_length_8abf5 Γ) := rfl
set_option maxRecDepth 20000 in
theorem jJ0_indexOf_7cf53_1_637 (Γ : Cx) : kT (jJ0_indexOf_7cf53 Γ) 1 637 = some (4, true, sp_J1_indexOf_4cfef Γ) := rfl
set_option maxRecDepth 20000 in
theorem jJ0_indexOf_7cf53_1_640 (Γ : Cx) : kT (jJ0_indexOf_7cf53 Γ) 1 640 = some (4, true, sp_J2_indexOf_4cfef Γ) := rfl
def kkJ0_indexOf_7cf53 : List (Nat × (Int32 ⊕ Int64)) := []
theorem kkJ0_indexOf_7cf53_ok : ∀ q ∈ kkJ0_indexOf_7cf53, conOK RJ0 q := all_nil
theorem uJ0_indexOf_7cf53 (Γ : Cx) : TbOK Γ mJ0_indexOf_7cf53 (fT [], cT kkJ0_indexOf_7cf53, kT (jJ0_indexOf_7cf53 Γ)) := tb_ok all_nil kkJ0_indexOf_7cf53_ok (all_cons ⟨call_VS (n := 0) rfl (ok_J0_isLatin1_aae02 Γ) (rv_J0_isLatin1_aae02 (Γ := Γ)) bw_366 bw_363 bw_364 bw_365 bw_51 no_J0_isLatin1_aae02 ⟨⟨rfl, rfl⟩, ⟨by decide, by decide⟩, ⟨by decide, by decide⟩⟩, fun _ => mono_J0_isLatin1_aae02 (Γ := Γ)⟩ (all_cons ⟨call_VS (n := 0) rfl (ok_J0_length_8abf5 Γ) (rv_J0_length_8abf5 (Γ := Γ)) bw_372 bw_369 bw_370 bw_371 bw_51 no_J0_length_8abf5 ⟨⟨rfl, rfl⟩, ⟨by decide, by decide⟩, ⟨by decide, by decide⟩⟩, fun _ => mono_J0_length_8abf5 (Γ := Γ)⟩ (all_cons ⟨call_S (n := 4) (ok_J1_indexOf_4cfef Γ) (rv_J1_indexOf_4cfef (Γ := Γ)) bw_379 bw_377 bw_378 bw_52 no_J1_indexOf_4cfef ⟨⟨rfl, rfl⟩, ⟨by decide, by decide⟩, ⟨by decide, by decide⟩⟩, fun _ => mono_J1_indexOf_4cfef (Γ := Γ)⟩ (all_cons ⟨call_S (n := 4) (ok_J2_indexOf_4cfef Γ) (rv_J2_indexOf_4cfef (Γ := Γ)) bw_394 bw_392 bw_393 bw_54 no_J2_indexOf_4cfef ⟨⟨rfl, rfl⟩, ⟨by decide, by decide⟩, ⟨by decide, by decide⟩⟩, fun _ => mono_J2_indexOf_4cfef (Γ := Γ)⟩ (all_nil)))))
set_option maxRecDepth 20000 in
theorem ok_J0_indexOf_7cf53 (Γ : Cx) : Ok Γ yJ0_indexOf_7cf53 mJ0_indexOf_7cf53 (sp_J0_indexOf_7cf53 Γ) := by
  refine ok_intro (by decide +kernel) rfl rfl ?_
  intro av σ K h
  unfold sp_J0_indexOf_7cf53 at h
  split at h
  · next a c f =>
    obtain ⟨⟨rfl, rfl⟩, h⟩ := h
    refine ⟨Nat.le_of_ble_eq_true rfl, yvc_ok (uJ0_indexOf_7cf53 Γ) (S := []) 80 _ _ _ _ ?_⟩
    simp only [lv_args, Value.category, show mJ0_indexOf_7cf53.2.1 = RJ0 from rfl, sp_J0_isLatin1_aae02, sp_J0_length_8abf5, sp_J1_indexOf_4cfef, i1ne0, yvc_s, s1i, s2i, s1l, s2l, sil, s1r, sir, siir, slir, srir, svr, sd1, sd2, lg, lput, ldel, isL_i, isL_r, isL_l, jmp, obj, obj1, fI, fR, arI, arL, arR, hput, f4_0, f4_1, f4_2, f4_3, lc_0, lc_1, rok_i, rok_b, rok_y, strF, fput_1, fput_2, csum_nil, csum_i, csum_l, csum_r, va_up_self, bx_uu, Int.reduceAdd, List.elem_nil, List.elem_cons, List.take_succ_cons, List.take_zero, List.drop_succ_cons, List.drop_zero, List.take_nil, List.drop_nil, List.reverse_cons, List.reverse_nil, List.nil_append, List.cons_append, List.append_nil, Option.toList_some, Option.toList_none, List.getElem?_cons_zero, List.getElem?_cons_succ, List.set_cons_zero, List.set_cons_succ, List.length_cons, List.length_nil, reduceIte, reduceCtorEq, and_true, true_and, and_self, or_true, true_or, false_and, and_false, not_true_eq_false, not_false_eq_true, true_implies, false_implies, implies_true, Nat.reduceAdd, Nat.reduceLT, Nat.reduceEqDiff, Nat.reduceLeDiff, Nat.reduceBEq, Nat.zero_add, Nat.lt_add_one, Bool.false_eq_true, Bool.or_false, Bool.or_true, Bool.or_self, Nat.zero_ne_one, Nat.one_ne_zero, ite_true, ite_false, ne_eq, Nat.reduceSub, Nat.succ_eq_add_one, Nat.zero_lt_succ, Nat.add_one_ne_zero, false_or, or_false, mJ0_indexOf_7cf53_c, mJ0_indexOf_7cf53_n, mJ0_indexOf_7cf53_r, mJ0_indexOf_7cf53_l, dJ0_indexOf_7cf53_0, dJ0_indexOf_7cf53_1, dJ0_indexOf_7cf53_4, tg_4_19, cnd1_eq, dJ0_indexOf_7cf53_7, dJ0_indexOf_7cf53_8, dJ0_indexOf_7cf53_11, dJ0_indexOf_7cf53_12, dJ0_indexOf_7cf53_13, dJ0_indexOf_7cf53_14, dJ0_indexOf_7cf53_17, dJ0_indexOf_7cf53_20, tg_20_16, dJ0_indexOf_7cf53_23, dJ0_indexOf_7cf53_24, dJ0_indexOf_7cf53_27, dJ0_indexOf_7cf53_28, dJ0_indexOf_7cf53_29, dJ0_indexOf_7cf53_30, dJ0_indexOf_7cf53_33, dJ0_indexOf_7cf53_36, jJ0_indexOf_7cf53_0_492, jJ0_indexOf_7cf53_0_505, jJ0_indexOf_7cf53_1_637, jJ0_indexOf_7cf53_1_640, st_aload_n, st_getfield, st_goto, st_ifCond, st_iload_n, st_invokestatic, st_invokevirtual, st_ireturn]
    exact h
  · exact h.elim
def sp_J0_indexOf_0f7a4 (Γ : Cx) : YSp := fun av σ K => match av with | [.ref a, .int c] => a = Γ.2.2.2.2.1 ∧ K (some (.int (kOf c))) σ | _ => False
theorem mono_J0_indexOf_0f7a4 {Γ : Cx} : Mono (sp_J0_indexOf_0f7a4 Γ) := by
  intro av σ K K' hk h
  unfold sp_J0_indexOf_0f7a4 at h ⊢
  split at h
  · exact ⟨h.1, hk _ _ h.2⟩
  · exact h.elim
theorem rv_J0_indexOf_0f7a4 {Γ : Cx} : RecvS Γ (sp_J0_indexOf_0f7a4 Γ) 1 := by
  intro av σ K h
  unfold sp_J0_indexOf_0f7a4 at h
  split at h
  · exact ⟨_, by rw [h.1], rfl⟩
  · exact h.elim
theorem bw_362 : Cond.code yJ0_indexOf_7cf53 cJ0_indexOf_7cf53 3 (some .int) ∈ BW := bw_i 362 (by decide +kernel) (by decide +kernel)
theorem no_J0_indexOf_7cf53 : NameOK yJ0_indexOf_7cf53 2 := by unfold NameOK; decide +kernel
theorem bw_359 : Cond.methodLink RJ0 633 yJ0_indexOf_7cf53 ∈ BW := bw_i 359 (by decide +kernel) (by decide +kernel)
theorem bw_360 : Cond.instanceMethod yJ0_indexOf_7cf53 ∈ BW := bw_i 360 (by decide +kernel) (by decide +kernel)
theorem bw_361 : Cond.selects RJ0 yJ0_indexOf_7cf53 yJ0_indexOf_7cf53 ∈ BW := bw_i 361 (by decide +kernel) (by decide +kernel)
def mJ0_indexOf_0f7a4 : Mt := (⟨3, 0, 0, 70⟩, RJ0, cJ0_indexOf_0f7a4, 2, some .int, (0, 0), some false)
theorem mJ0_indexOf_0f7a4_c : mJ0_indexOf_0f7a4.2.2.1 = cJ0_indexOf_0f7a4 := rfl
theorem mJ0_indexOf_0f7a4_n : mJ0_indexOf_0f7a4.2.2.2.1 = 2 := rfl
theorem mJ0_indexOf_0f7a4_r : mJ0_indexOf_0f7a4.2.2.2.2.1 = some .int := rfl
theorem mJ0_indexOf_0f7a4_l : mJ0_indexOf_0f7a4.2.2.2.2.2.2 = some false := rfl
def jJ0_indexOf_0f7a4 (Γ : Cx) : List ((Nat × Nat) × Nat × Bool × YSp) := [((0, 633), 3, true, sp_J0_indexOf_7cf53 Γ)]
set_option maxRecDepth 20000 in
theorem jJ0_indexOf_0f7a4_0_633 (Γ : Cx) : kT (jJ0_indexOf_0f7a4 Γ) 0 633 = some (3, true, sp_J0_indexOf_7cf53 Γ) := rfl
def kkJ0_indexOf_0f7a4 : List (Nat × (Int32 ⊕ Int64)) := []
theorem kkJ0_indexOf_0f7a4_ok : ∀ q ∈ kkJ0_indexOf_0f7a4, conOK RJ0 q := all_nil
theorem uJ0_indexOf_0f7a4 (Γ : Cx) : TbOK Γ mJ0_indexOf_0f7a4 (fT [], cT kkJ0_indexOf_0f7a4, kT (jJ0_indexOf_0f7a4 Γ)) := tb_ok all_nil kkJ0_indexOf_0f7a4_ok (all_cons ⟨call_VS (n := 2) rfl (ok_J0_indexOf_7cf53 Γ) (rv_J0_indexOf_7cf53 (Γ := Γ)) bw_362 bw_359 bw_360 bw_361 bw_51 no_J0_indexOf_7cf53 ⟨⟨rfl, rfl⟩, ⟨by decide, by decide⟩, ⟨by decide, by decide⟩⟩, fun _ => mono_J0_indexOf_7cf53 (Γ := Γ)⟩ (all_nil))
set_option maxRecDepth 20000 in
theorem ok_J0_indexOf_0f7a4 (Γ : Cx) : Ok Γ yJ0_indexOf_0f7a4 mJ0_indexOf_0f7a4 (sp_J0_indexOf_0f7a4 Γ) := by
  refine ok_intro (by decide +kernel) rfl rfl ?_
  intro av σ K h
  unfold sp_J0_indexOf_0f7a4 at h
  split at h
  · next a c =>
    obtain ⟨rfl, h⟩ := h
    refine ⟨Nat.le_of_ble_eq_true rfl, yvc_ok (uJ0_indexOf_0f7a4 Γ) (S := []) 80 _ _ _ _ ?_⟩
    simp only [lv_args, Value.category, sp_J0_indexOf_7cf53, yvc_s, s1i, s2i, s1l, s2l, sil, s1r, sir, siir, slir, srir, svr, sd1, sd2, lg, lput, ldel, isL_i, isL_r, isL_l, jmp, obj, obj1, fI, fR, arI, arL, arR, hput, f4_0, f4_1, f4_2, f4_3, lc_0, lc_1, rok_i, rok_b, rok_y, strF, fput_1, fput_2, csum_nil, csum_i, csum_l, csum_r, va_up_self, bx_uu, Int.reduceAdd, List.elem_nil, List.elem_cons, List.take_succ_cons, List.take_zero, List.drop_succ_cons, List.drop_zero, List.take_nil, List.drop_nil, List.reverse_cons, List.reverse_nil, List.nil_append, List.cons_append, List.append_nil, Option.toList_some, Option.toList_none, List.getElem?_cons_zero, List.getElem?_cons_succ, List.set_cons_zero, List.set_cons_succ, List.length_cons, List.length_nil, reduceIte, reduceCtorEq, and_true, true_and, and_self, or_true, true_or, false_and, and_false, not_true_eq_false, not_false_eq_true, true_implies, false_implies, implies_true, Nat.reduceAdd, Nat.reduceLT, Nat.reduceEqDiff, Nat.reduceLeDiff, Nat.reduceBEq, Nat.zero_add, Nat.lt_add_one, Bool.false_eq_true, Bool.or_false, Bool.or_true, Bool.or_self, Nat.zero_ne_one, Nat.one_ne_zero, ite_true, ite_false, ne_eq, Nat.reduceSub, Nat.succ_eq_add_one, Nat.zero_lt_succ, Nat.add_one_ne_zero, false_or, or_false, mJ0_indexOf_0f7a4_c, mJ0_indexOf_0f7a4_n, mJ0_indexOf_0f7a4_r, mJ0_indexOf_0f7a4_l, dJ0_indexOf_0f7a4_0, dJ0_indexOf_0f7a4_1, dJ0_indexOf_0f7a4_2, ic_0, dJ0_indexOf_0f7a4_3, dJ0_indexOf_0f7a4_6, jJ0_indexOf_0f7a4_0_633, st_aload_n, st_iconst, st_iload_n, st_invokevirtual, st_ireturn]
    exact h
  · exact h.elim
