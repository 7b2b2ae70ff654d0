/-! ===== within, isDoor, isSheet, isLane ===== -/
theorem i_nlt {a b : Int32} : ¬ a < b ↔ b ≤ a := Int32.not_lt
theorem i_nle {a b : Int32} : ¬ a ≤ b ↔ b < a := Int32.not_le
def sp_X6_within (_ : Cx) : YSp := fun av σ K => match av with | [.int v, .int a, .int b] => K (some (.int (bI (inr v a b)))) σ | _ => False
theorem mono_X6_within {Γ : Cx} : Mono (sp_X6_within Γ) := by
  intro av σ K K' hk h
  unfold sp_X6_within at h ⊢
  split at h
  · exact hk _ _ h
  · exact h.elim
theorem rv_X6_within {Γ : Cx} : Args (sp_X6_within Γ) 3 := by
  intro av σ K h
  unfold sp_X6_within at h
  split at h
  · rfl
  · exact h.elim
theorem tg_2_12 : tgo 2 12 = some 14 := by decide
theorem tg_7_7 : tgo 7 7 = some 14 := by decide
theorem ic_1 : Int32.ofInt 1 = 1 := by decide
theorem tg_11_4 : tgo 11 4 = some 15 := by decide
theorem ic_0 : Int32.ofInt 0 = 0 := by decide
def mX6_within : Mt := (⟨0, 0, 0, 0⟩, RX6, cX6_within, 3, some .boolean, (0, 0), none)
theorem mX6_within_c : mX6_within.2.2.1 = cX6_within := rfl
theorem mX6_within_n : mX6_within.2.2.2.1 = 3 := rfl
theorem mX6_within_r : mX6_within.2.2.2.2.1 = some .boolean := rfl
theorem mX6_within_l : mX6_within.2.2.2.2.2.2 = none := rfl
def jX6_within (Γ : Cx) : List ((Nat × Nat) × Nat × Bool × YSp) := []
theorem uX6_within (Γ : Cx) : TbOK Γ mX6_within (fT fX6, cT kX6, kT (jX6_within Γ)) := tb_ok fX6_ok kX6_ok (all_nil)
set_option maxRecDepth 20000 in
theorem ok_X6_within (Γ : Cx) : Ok Γ yX6_within mX6_within (sp_X6_within Γ) := by
  refine ok_intro (by decide +kernel) rfl rfl ?_
  intro av σ K h
  unfold sp_X6_within at h
  split at h
  · next v a b =>
    refine ⟨Nat.le_of_ble_eq_true rfl, yvc_ok (uX6_within Γ) (S := []) 40 _ _ _ _ ?_⟩
    simp only [lv_args, Value.category, yvc_s, s1i, s2i, s1l, s2l, sil, s1r, sir, siir, slir, srir, svr, sd1, sd2, lg, lput, ldel, isL_i, isL_r, isL_l, jmp, obj, obj1, fI, fR, arI, arL, arR, hput, f4_0, f4_1, f4_2, f4_3, lc_0, lc_1, rok_i, rok_b, rok_y, strF, fput_1, fput_2, csum_nil, csum_i, csum_l, csum_r, va_up_self, bx_uu, Int.reduceAdd, List.elem_nil, List.elem_cons, List.take_succ_cons, List.take_zero, List.drop_succ_cons, List.drop_zero, List.take_nil, List.drop_nil, List.reverse_cons, List.reverse_nil, List.nil_append, List.cons_append, List.append_nil, Option.toList_some, Option.toList_none, List.getElem?_cons_zero, List.getElem?_cons_succ, List.set_cons_zero, List.set_cons_succ, List.length_cons, List.length_nil, reduceIte, reduceCtorEq, and_true, true_and, and_self, or_true, true_or, false_and, and_false, not_true_eq_false, not_false_eq_true, true_implies, false_implies, implies_true, Nat.reduceAdd, Nat.reduceLT, Nat.reduceEqDiff, Nat.reduceLeDiff, Nat.reduceBEq, Nat.zero_add, Nat.lt_add_one, Bool.false_eq_true, Bool.or_false, Bool.or_true, Bool.or_self, Nat.zero_ne_one, Nat.one_ne_zero, ite_true, ite_false, ne_eq, Nat.reduceSub, Nat.succ_eq_add_one, Nat.zero_lt_succ, Nat.add_one_ne_zero, false_or, or_false, mX6_within_c, mX6_within_n, mX6_within_r, mX6_within_l, dX6_within_0, dX6_within_1, dX6_within_2, tg_2_12, cnd2_lt, dX6_within_5, dX6_within_6, dX6_within_7, tg_7_7, cnd2_gt, dX6_within_10, ic_1, dX6_within_11, tg_11_4, dX6_within_14, ic_0, dX6_within_15, st_goto, st_iconst, st_if_icmp, st_iload_n, st_ireturn]
    refine ⟨fun c => ?_, fun c => ⟨fun d => ?_, fun d => ?_⟩⟩
    · rw [inr_no.mpr (fun z => (i_nle.mpr c) z.1)] at h
      exact h
    · rw [inr_no.mpr (fun z => (i_nle.mpr d) z.2)] at h
      exact h
    · rw [inr_iff.mpr ⟨i_nlt.mp c, i_nlt.mp d⟩] at h
      exact h
  · exact h.elim
def sp_X6_isDoor (_ : Cx) : YSp := fun av σ K => match av with | [.int v] => K (some (.int (bI (inr v 0 3)))) σ | _ => False
theorem mono_X6_isDoor {Γ : Cx} : Mono (sp_X6_isDoor Γ) := by
  intro av σ K K' hk h
  unfold sp_X6_isDoor at h ⊢
  split at h
  · exact hk _ _ h
  · exact h.elim
theorem rv_X6_isDoor {Γ : Cx} : Args (sp_X6_isDoor Γ) 1 := by
  intro av σ K h
  unfold sp_X6_isDoor at h
  split at h
  · rfl
  · exact h.elim
theorem bw_241 : Cond.code yX6_within cX6_within 3 (some .boolean) ∈ BW := bw_i 241 (by decide +kernel) (by decide +kernel)
theorem bw_42 : Cond.initialized RX6 ∈ BW := bw_i 42 (by decide +kernel) (by decide +kernel)
theorem no_X6_within : NameOK yX6_within 3 := by unfold NameOK; decide +kernel
theorem bw_239 : Cond.methodLink RX6 57 yX6_within ∈ BW := bw_i 239 (by decide +kernel) (by decide +kernel)
theorem bw_240 : Cond.static yX6_within ∈ BW := bw_i 240 (by decide +kernel) (by decide +kernel)
theorem ic_3 : Int32.ofInt 3 = 3 := by decide
def mX6_isDoor : Mt := (⟨1, 0, 0, 22⟩, RX6, cX6_isDoor, 1, some .boolean, (0, 0), none)
theorem mX6_isDoor_c : mX6_isDoor.2.2.1 = cX6_isDoor := rfl
theorem mX6_isDoor_n : mX6_isDoor.2.2.2.1 = 1 := rfl
theorem mX6_isDoor_r : mX6_isDoor.2.2.2.2.1 = some .boolean := rfl
theorem mX6_isDoor_l : mX6_isDoor.2.2.2.2.2.2 = none := rfl
def jX6_isDoor (Γ : Cx) : List ((Nat × Nat) × Nat × Bool × YSp) := [((1, 57), 3, true, sp_X6_within Γ)]
theorem jX6_isDoor_1_57 (Γ : Cx) : kT (jX6_isDoor Γ) 1 57 = some (3, true, sp_X6_within Γ) := rfl
theorem uX6_isDoor (Γ : Cx) : TbOK Γ mX6_isDoor (fT fX6, cT kX6, kT (jX6_isDoor Γ)) := tb_ok fX6_ok kX6_ok (all_cons ⟨call_S (n := 3) (ok_X6_within Γ) (rv_X6_within (Γ := Γ)) bw_241 bw_239 bw_240 bw_42 no_X6_within ⟨⟨rfl, rfl⟩, ⟨by decide, by decide⟩, ⟨by decide, by decide⟩⟩, fun _ => mono_X6_within (Γ := Γ)⟩ (all_nil))
set_option maxRecDepth 20000 in
theorem ok_X6_isDoor (Γ : Cx) : Ok Γ yX6_isDoor mX6_isDoor (sp_X6_isDoor Γ) := by
  refine ok_intro (by decide +kernel) rfl rfl ?_
  intro av σ K h
  unfold sp_X6_isDoor at h
  split at h
  · next v =>
    refine ⟨Nat.le_of_ble_eq_true rfl, yvc_ok (uX6_isDoor Γ) (S := []) 40 _ _ _ _ ?_⟩
    simp only [lv_args, Value.category, sp_X6_within, yvc_s, s1i, s2i, s1l, s2l, sil, s1r, sir, siir, slir, srir, svr, sd1, sd2, lg, lput, ldel, isL_i, isL_r, isL_l, jmp, obj, obj1, fI, fR, arI, arL, arR, hput, f4_0, f4_1, f4_2, f4_3, lc_0, lc_1, rok_i, rok_b, rok_y, strF, fput_1, fput_2, csum_nil, csum_i, csum_l, csum_r, va_up_self, bx_uu, Int.reduceAdd, List.elem_nil, List.elem_cons, List.take_succ_cons, List.take_zero, List.drop_succ_cons, List.drop_zero, List.take_nil, List.drop_nil, List.reverse_cons, List.reverse_nil, List.nil_append, List.cons_append, List.append_nil, Option.toList_some, Option.toList_none, List.getElem?_cons_zero, List.getElem?_cons_succ, List.set_cons_zero, List.set_cons_succ, List.length_cons, List.length_nil, reduceIte, reduceCtorEq, and_true, true_and, and_self, or_true, true_or, false_and, and_false, not_true_eq_false, not_false_eq_true, true_implies, false_implies, implies_true, Nat.reduceAdd, Nat.reduceLT, Nat.reduceEqDiff, Nat.reduceLeDiff, Nat.reduceBEq, Nat.zero_add, Nat.lt_add_one, Bool.false_eq_true, Bool.or_false, Bool.or_true, Bool.or_self, Nat.zero_ne_one, Nat.one_ne_zero, ite_true, ite_false, ne_eq, Nat.reduceSub, Nat.succ_eq_add_one, Nat.zero_lt_succ, Nat.add_one_ne_zero, false_or, or_false, mX6_isDoor_c, mX6_isDoor_n, mX6_isDoor_r, mX6_isDoor_l, dX6_isDoor_0, dX6_isDoor_1, ic_0, dX6_isDoor_2, ic_3, dX6_isDoor_3, dX6_isDoor_6, jX6_isDoor_1_57, st_iconst, st_iload_n, st_invokestatic, st_ireturn]
    exact ⟨bI_01, h⟩
  · exact h.elim
def sp_X6_isSheet : Cx → YSp := sp_X6_isDoor
theorem mono_X6_isSheet {Γ : Cx} : Mono (sp_X6_isSheet Γ) := mono_X6_isDoor
theorem rv_X6_isSheet {Γ : Cx} : Args (sp_X6_isSheet Γ) 1 := rv_X6_isDoor
def mX6_isSheet : Mt := (⟨1, 0, 0, 22⟩, RX6, cX6_isSheet, 1, some .boolean, (0, 0), none)
theorem mX6_isSheet_c : mX6_isSheet.2.2.1 = cX6_isSheet := rfl
theorem mX6_isSheet_n : mX6_isSheet.2.2.2.1 = 1 := rfl
theorem mX6_isSheet_r : mX6_isSheet.2.2.2.2.1 = some .boolean := rfl
theorem mX6_isSheet_l : mX6_isSheet.2.2.2.2.2.2 = none := rfl
def jX6_isSheet (Γ : Cx) : List ((Nat × Nat) × Nat × Bool × YSp) := [((1, 57), 3, true, sp_X6_within Γ)]
theorem jX6_isSheet_1_57 (Γ : Cx) : kT (jX6_isSheet Γ) 1 57 = some (3, true, sp_X6_within Γ) := rfl
theorem uX6_isSheet (Γ : Cx) : TbOK Γ mX6_isSheet (fT fX6, cT kX6, kT (jX6_isSheet Γ)) := tb_ok fX6_ok kX6_ok (all_cons ⟨call_S (n := 3) (ok_X6_within Γ) (rv_X6_within (Γ := Γ)) bw_241 bw_239 bw_240 bw_42 no_X6_within ⟨⟨rfl, rfl⟩, ⟨by decide, by decide⟩, ⟨by decide, by decide⟩⟩, fun _ => mono_X6_within (Γ := Γ)⟩ (all_nil))
set_option maxRecDepth 20000 in
theorem ok_X6_isSheet (Γ : Cx) : Ok Γ yX6_isSheet mX6_isSheet (sp_X6_isSheet Γ) := by
  refine ok_intro (by decide +kernel) rfl rfl ?_
  intro av σ K h
  unfold sp_X6_isSheet sp_X6_isDoor at h
  split at h
  · next v =>
    refine ⟨Nat.le_of_ble_eq_true rfl, yvc_ok (uX6_isSheet Γ) (S := []) 40 _ _ _ _ ?_⟩
    simp only [lv_args, Value.category, sp_X6_within, yvc_s, s1i, s2i, s1l, s2l, sil, s1r, sir, siir, slir, srir, svr, sd1, sd2, lg, lput, ldel, isL_i, isL_r, isL_l, jmp, obj, obj1, fI, fR, arI, arL, arR, hput, f4_0, f4_1, f4_2, f4_3, lc_0, lc_1, rok_i, rok_b, rok_y, strF, fput_1, fput_2, csum_nil, csum_i, csum_l, csum_r, va_up_self, bx_uu, Int.reduceAdd, List.elem_nil, List.elem_cons, List.take_succ_cons, List.take_zero, List.drop_succ_cons, List.drop_zero, List.take_nil, List.drop_nil, List.reverse_cons, List.reverse_nil, List.nil_append, List.cons_append, List.append_nil, Option.toList_some, Option.toList_none, List.getElem?_cons_zero, List.getElem?_cons_succ, List.set_cons_zero, List.set_cons_succ, List.length_cons, List.length_nil, reduceIte, reduceCtorEq, and_true, true_and, and_self, or_true, true_or, false_and, and_false, not_true_eq_false, not_false_eq_true, true_implies, false_implies, implies_true, Nat.reduceAdd, Nat.reduceLT, Nat.reduceEqDiff, Nat.reduceLeDiff, Nat.reduceBEq, Nat.zero_add, Nat.lt_add_one, Bool.false_eq_true, Bool.or_false, Bool.or_true, Bool.or_self, Nat.zero_ne_one, Nat.one_ne_zero, ite_true, ite_false, ne_eq, Nat.reduceSub, Nat.succ_eq_add_one, Nat.zero_lt_succ, Nat.add_one_ne_zero, false_or, or_false, mX6_isSheet_c, mX6_isSheet_n, mX6_isSheet_r, mX6_isSheet_l, dX6_isSheet_0, dX6_isSheet_1, ic_0, dX6_isSheet_2, ic_3, dX6_isSheet_3, dX6_isSheet_6, jX6_isSheet_1_57, st_iconst, st_iload_n, st_invokestatic, st_ireturn]
    exact ⟨bI_01, h⟩
  · exact h.elim
def sp_X6_isLane : Cx → YSp := sp_X6_isDoor
theorem mono_X6_isLane {Γ : Cx} : Mono (sp_X6_isLane Γ) := mono_X6_isDoor
theorem rv_X6_isLane {Γ : Cx} : Args (sp_X6_isLane Γ) 1 := rv_X6_isDoor
def mX6_isLane : Mt := (⟨1, 0, 0, 22⟩, RX6, cX6_isLane, 1, some .boolean, (0, 0), none)
theorem mX6_isLane_c : mX6_isLane.2.2.1 = cX6_isLane := rfl
theorem mX6_isLane_n : mX6_isLane.2.2.2.1 = 1 := rfl
theorem mX6_isLane_r : mX6_isLane.2.2.2.2.1 = some .boolean := rfl
theorem mX6_isLane_l : mX6_isLane.2.2.2.2.2.2 = none := rfl
def jX6_isLane (Γ : Cx) : List ((Nat × Nat) × Nat × Bool × YSp) := [((1, 57), 3, true, sp_X6_within Γ)]
theorem jX6_isLane_1_57 (Γ : Cx) : kT (jX6_isLane Γ) 1 57 = some (3, true, sp_X6_within Γ) := rfl
theorem uX6_isLane (Γ : Cx) : TbOK Γ mX6_isLane (fT fX6, cT kX6, kT (jX6_isLane Γ)) := tb_ok fX6_ok kX6_ok (all_cons ⟨call_S (n := 3) (ok_X6_within Γ) (rv_X6_within (Γ := Γ)) bw_241 bw_239 bw_240 bw_42 no_X6_within ⟨⟨rfl, rfl⟩, ⟨by decide, by decide⟩, ⟨by decide, by decide⟩⟩, fun _ => mono_X6_within (Γ := Γ)⟩ (all_nil))
set_option maxRecDepth 20000 in
theorem ok_X6_isLane (Γ : Cx) : Ok Γ yX6_isLane mX6_isLane (sp_X6_isLane Γ) := by
  refine ok_intro (by decide +kernel) rfl rfl ?_
  intro av σ K h
  unfold sp_X6_isLane sp_X6_isDoor at h
  split at h
  · next v =>
    refine ⟨Nat.le_of_ble_eq_true rfl, yvc_ok (uX6_isLane Γ) (S := []) 40 _ _ _ _ ?_⟩
    simp only [lv_args, Value.category, sp_X6_within, yvc_s, s1i, s2i, s1l, s2l, sil, s1r, sir, siir, slir, srir, svr, sd1, sd2, lg, lput, ldel, isL_i, isL_r, isL_l, jmp, obj, obj1, fI, fR, arI, arL, arR, hput, f4_0, f4_1, f4_2, f4_3, lc_0, lc_1, rok_i, rok_b, rok_y, strF, fput_1, fput_2, csum_nil, csum_i, csum_l, csum_r, va_up_self, bx_uu, Int.reduceAdd, List.elem_nil, List.elem_cons, List.take_succ_cons, List.take_zero, List.drop_succ_cons, List.drop_zero, List.take_nil, List.drop_nil, List.reverse_cons, List.reverse_nil, List.nil_append, List.cons_append, List.append_nil, Option.toList_some, Option.toList_none, List.getElem?_cons_zero, List.getElem?_cons_succ, List.set_cons_zero, List.set_cons_succ, List.length_cons, List.length_nil, reduceIte, reduceCtorEq, and_true, true_and, and_self, or_true, true_or, false_and, and_false, not_true_eq_false, not_false_eq_true, true_implies, false_implies, implies_true, Nat.reduceAdd, Nat.reduceLT, Nat.reduceEqDiff, Nat.reduceLeDiff, Nat.reduceBEq, Nat.zero_add, Nat.lt_add_one, Bool.false_eq_true, Bool.or_false, Bool.or_true, Bool.or_self, Nat.zero_ne_one, Nat.one_ne_zero, ite_true, ite_false, ne_eq, Nat.reduceSub, Nat.succ_eq_add_one, Nat.zero_lt_succ, Nat.add_one_ne_zero, false_or, or_false, mX6_isLane_c, mX6_isLane_n, mX6_isLane_r, mX6_isLane_l, dX6_isLane_0, dX6_isLane_1, ic_0, dX6_isLane_2, ic_3, dX6_isLane_3, dX6_isLane_6, jX6_isLane_1_57, st_iconst, st_iload_n, st_invokestatic, st_ireturn]
    exact ⟨bI_01, h⟩
  · exact h.elim
/-! ===== Integer.bitCount: as its instructions compute ===== -/
def ush (x y : Int32) : Int32 := (x.toUInt32 >>> (y.toUInt32 &&& Int32.toUInt32 31)).toInt32
def bc1 (x : Int32) : Int32 := x - (ush x 1 &&& 1431655765)
def bc2 (x : Int32) : Int32 := (x &&& 858993459) + (ush x 2 &&& 858993459)
def bc3 (x : Int32) : Int32 := (x + ush x 4) &&& 252645135
def bc4 (x : Int32) : Int32 := x + ush x 8
def bc5 (x : Int32) : Int32 := (x + ush x 16) &&& 63
def bcE (x : Int32) : Int32 := bc5 (bc4 (bc3 (bc2 (bc1 x))))
def sp_J6_bitCount_0f7a4 (_ : Cx) : YSp := fun av σ K => match av with | [.int v] => K (some (.int (bcE v))) σ | _ => False
theorem mono_J6_bitCount_0f7a4 {Γ : Cx} : Mono (sp_J6_bitCount_0f7a4 Γ) := by
  intro av σ K K' hk h
  unfold sp_J6_bitCount_0f7a4 at h ⊢
  split at h
  · exact hk _ _ h
  · exact h.elim
theorem rv_J6_bitCount_0f7a4 {Γ : Cx} : Args (sp_J6_bitCount_0f7a4 Γ) 1 := by
  intro av σ K h
  unfold sp_J6_bitCount_0f7a4 at h
  split at h
  · rfl
  · exact h.elim
theorem bw_303 : Cond.constant RJ6 265 (1431655765 : Int32) ∈ BW := bw_i 303 (by decide +kernel) (by decide +kernel)
theorem bw_304 : Cond.constant RJ6 266 (858993459 : Int32) ∈ BW := bw_i 304 (by decide +kernel) (by decide +kernel)
theorem bw_305 : Cond.constant RJ6 267 (252645135 : Int32) ∈ BW := bw_i 305 (by decide +kernel) (by decide +kernel)
theorem ic_2 : Int32.ofInt 2 = 2 := by decide
theorem ic_4 : Int32.ofInt 4 = 4 := by decide
theorem bc_8 : (Int8.ofInt 8).toInt32 = 8 := by decide
theorem bc_16 : (Int8.ofInt 16).toInt32 = 16 := by decide
theorem bc_63 : (Int8.ofInt 63).toInt32 = 63 := by decide
def mJ6_bitCount_0f7a4 : Mt := (⟨0, 0, 0, 0⟩, RJ6, cJ6_bitCount_0f7a4, 1, some .int, (0, 0), none)
theorem mJ6_bitCount_0f7a4_c : mJ6_bitCount_0f7a4.2.2.1 = cJ6_bitCount_0f7a4 := rfl
theorem mJ6_bitCount_0f7a4_n : mJ6_bitCount_0f7a4.2.2.2.1 = 1 := rfl
theorem mJ6_bitCount_0f7a4_r : mJ6_bitCount_0f7a4.2.2.2.2.1 = some .int := rfl
theorem mJ6_bitCount_0f7a4_l : mJ6_bitCount_0f7a4.2.2.2.2.2.2 = none := rfl
def jJ6_bitCount_0f7a4 (Γ : Cx) : List ((Nat × Nat) × Nat × Bool × YSp) := []
def kkJ6_bitCount_0f7a4 : List (Nat × (Int32 ⊕ Int64)) := [(265, .inl (1431655765 : Int32)), (266, .inl (858993459 : Int32)), (267, .inl (252645135 : Int32))]
theorem kkJ6_bitCount_0f7a4_ok : ∀ q ∈ kkJ6_bitCount_0f7a4, conOK RJ6 q := all_cons bw_303 (all_cons bw_304 (all_cons bw_305 (all_nil)))
theorem kkJ6_bitCount_0f7a4_265 : cT kkJ6_bitCount_0f7a4 265 = some (.inl (1431655765 : Int32)) := by decide +kernel
theorem kkJ6_bitCount_0f7a4_266 : cT kkJ6_bitCount_0f7a4 266 = some (.inl (858993459 : Int32)) := by decide +kernel
theorem kkJ6_bitCount_0f7a4_267 : cT kkJ6_bitCount_0f7a4 267 = some (.inl (252645135 : Int32)) := by decide +kernel
theorem uJ6_bitCount_0f7a4 (Γ : Cx) : TbOK Γ mJ6_bitCount_0f7a4 (fT [], cT kkJ6_bitCount_0f7a4, kT (jJ6_bitCount_0f7a4 Γ)) := tb_ok all_nil kkJ6_bitCount_0f7a4_ok (all_nil)
set_option maxRecDepth 20000 in
theorem ok_J6_bitCount_0f7a4 (Γ : Cx) : Ok Γ yJ6_bitCount_0f7a4 mJ6_bitCount_0f7a4 (sp_J6_bitCount_0f7a4 Γ) := by
  refine ok_intro (by decide +kernel) rfl rfl ?_
  intro av σ K h
  unfold sp_J6_bitCount_0f7a4 at h
  split at h
  · next v =>
    refine ⟨Nat.le_of_ble_eq_true rfl, yvc_ok (uJ6_bitCount_0f7a4 Γ) (S := []) 60 _ _ _ _ ?_⟩
    simp only [lv_args, Value.category, yvc_s, s1i, s2i, s1l, s2l, sil, s1r, sir, siir, slir, srir, svr, sd1, sd2, lg, lput, ldel, isL_i, isL_r, isL_l, jmp, obj, obj1, fI, fR, arI, arL, arR, hput, f4_0, f4_1, f4_2, f4_3, lc_0, lc_1, rok_i, rok_b, rok_y, strF, fput_1, fput_2, csum_nil, csum_i, csum_l, csum_r, va_up_self, bx_uu, Int.reduceAdd, List.elem_nil, List.elem_cons, List.take_succ_cons, List.take_zero, List.drop_succ_cons, List.drop_zero, List.take_nil, List.drop_nil, List.reverse_cons, List.reverse_nil, List.nil_append, List.cons_append, List.append_nil, Option.toList_some, Option.toList_none, List.getElem?_cons_zero, List.getElem?_cons_succ, List.set_cons_zero, List.set_cons_succ, List.length_cons, List.length_nil, reduceIte, reduceCtorEq, and_true, true_and, and_self, or_true, true_or, false_and, and_false, not_true_eq_false, not_false_eq_true, true_implies, false_implies, implies_true, Nat.reduceAdd, Nat.reduceLT, Nat.reduceEqDiff, Nat.reduceLeDiff, Nat.reduceBEq, Nat.zero_add, Nat.lt_add_one, Bool.false_eq_true, Bool.or_false, Bool.or_true, Bool.or_self, Nat.zero_ne_one, Nat.one_ne_zero, ite_true, ite_false, ne_eq, Nat.reduceSub, Nat.succ_eq_add_one, Nat.zero_lt_succ, Nat.add_one_ne_zero, false_or, or_false, mJ6_bitCount_0f7a4_c, mJ6_bitCount_0f7a4_n, mJ6_bitCount_0f7a4_r, mJ6_bitCount_0f7a4_l, dJ6_bitCount_0f7a4_0, dJ6_bitCount_0f7a4_1, dJ6_bitCount_0f7a4_2, ic_1, dJ6_bitCount_0f7a4_3, dJ6_bitCount_0f7a4_4, kkJ6_bitCount_0f7a4_265, dJ6_bitCount_0f7a4_7, dJ6_bitCount_0f7a4_8, dJ6_bitCount_0f7a4_9, dJ6_bitCount_0f7a4_10, dJ6_bitCount_0f7a4_11, kkJ6_bitCount_0f7a4_266, dJ6_bitCount_0f7a4_14, dJ6_bitCount_0f7a4_15, dJ6_bitCount_0f7a4_16, ic_2, dJ6_bitCount_0f7a4_17, dJ6_bitCount_0f7a4_18, dJ6_bitCount_0f7a4_21, dJ6_bitCount_0f7a4_22, dJ6_bitCount_0f7a4_23, dJ6_bitCount_0f7a4_24, dJ6_bitCount_0f7a4_25, dJ6_bitCount_0f7a4_26, ic_4, dJ6_bitCount_0f7a4_27, dJ6_bitCount_0f7a4_28, dJ6_bitCount_0f7a4_29, kkJ6_bitCount_0f7a4_267, dJ6_bitCount_0f7a4_32, dJ6_bitCount_0f7a4_33, dJ6_bitCount_0f7a4_34, dJ6_bitCount_0f7a4_35, dJ6_bitCount_0f7a4_36, bc_8, dJ6_bitCount_0f7a4_38, dJ6_bitCount_0f7a4_39, dJ6_bitCount_0f7a4_40, dJ6_bitCount_0f7a4_41, dJ6_bitCount_0f7a4_42, dJ6_bitCount_0f7a4_43, bc_16, dJ6_bitCount_0f7a4_45, dJ6_bitCount_0f7a4_46, dJ6_bitCount_0f7a4_47, dJ6_bitCount_0f7a4_48, dJ6_bitCount_0f7a4_49, bc_63, dJ6_bitCount_0f7a4_51, dJ6_bitCount_0f7a4_52, st_bipush, st_iadd, st_iand, st_iconst, st_iload_n, st_ireturn, st_istore_n, st_isub, st_iushr, st_ldc_w]
    exact h
  · exact h.elim
