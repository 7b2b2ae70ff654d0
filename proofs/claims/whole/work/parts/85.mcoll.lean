/-! ===== YawnKeysModel: isCollege, college ===== -/
/-- what a college well read has come to -/
def MR (cs : CS) (s : MS) : Prop := s.1 22 = cs.2.2.2.2.2.2.2.1 ∧ cs.2.2.2.2.2.2.1 ≤ 5 ∧ PA cs.2.2.2.2.2.2.1 cs.2.2.1 cs.1 s ∧ ∀ d, d < 4 → s.2.1 25 (20 + d) = cs.2.1 d ∧ (cs.2.1 d = -4 ∨ ∃ q, q < cs.2.2.2.2.2.2.1 ∧ cs.2.1 d = nI q)
def sp_X7_isCollege (Γ : Cx) : YSp := fun av σ K => ∃ (l : Nat → Int32) (len : Nat) (t : CS) (ok : Bool) (p : Nat) (cs : CS), mq Γ [] (fun s => RT (l, len) (s.1 14) (s.2.1 15) ∧ RdR l len t ok p cs) (fun s s' r => SFp s s' ∧ s'.1 21 = nI p ∧ r = some (.int (bI ok)) ∧ (ok = true → MR cs s')) av σ K
theorem rv_X7_isCollege {Γ : Cx} : Recv (sp_X7_isCollege Γ) 0 7 := by
  intro av σ K h
  obtain ⟨l, len, t, ok, p, cs, h⟩ := h
  obtain ⟨q, fs, h1, h2, h3⟩ := rv_mq h
  exact ⟨q, _, fs, h1, rfl, h2, h3⟩
theorem bw_869 : Cond.code yX7_number cX7_number 2 (some .boolean) ∈ BW := bw_i 869 (by decide +kernel) (by decide +kernel)
theorem no_X7_number : NameOK yX7_number 0 := by unfold NameOK; decide +kernel
theorem bw_866 : Cond.methodLink RX7 162 yX7_number ∈ BW := bw_i 866 (by decide +kernel) (by decide +kernel)
theorem bw_868 : Cond.instanceMethod yX7_number ∈ BW := bw_i 868 (by decide +kernel) (by decide +kernel)
theorem bw_23 : Cond.selects RX7 yX7_number yX7_number ∈ BW := bw_i 23 (by decide +kernel) (by decide +kernel)
theorem bw_882 : Cond.code yX7_one cX7_one 4 (some .boolean) ∈ BW := bw_i 882 (by decide +kernel) (by decide +kernel)
theorem no_X7_one : NameOK yX7_one 0 := by unfold NameOK; decide +kernel
theorem bw_879 : Cond.methodLink RX7 166 yX7_one ∈ BW := bw_i 879 (by decide +kernel) (by decide +kernel)
theorem bw_881 : Cond.instanceMethod yX7_one ∈ BW := bw_i 881 (by decide +kernel) (by decide +kernel)
theorem bw_25 : Cond.selects RX7 yX7_one yX7_one ∈ BW := bw_i 25 (by decide +kernel) (by decide +kernel)
theorem bw_891 : Cond.code yX7_keys cX7_keys 3 (some .boolean) ∈ BW := bw_i 891 (by decide +kernel) (by decide +kernel)
theorem no_X7_keys : NameOK yX7_keys 0 := by unfold NameOK; decide +kernel
theorem bw_888 : Cond.methodLink RX7 169 yX7_keys ∈ BW := bw_i 888 (by decide +kernel) (by decide +kernel)
theorem bw_890 : Cond.instanceMethod yX7_keys ∈ BW := bw_i 890 (by decide +kernel) (by decide +kernel)
theorem bw_26 : Cond.selects RX7 yX7_keys yX7_keys ∈ BW := bw_i 26 (by decide +kernel) (by decide +kernel)
theorem tg_27_28 : tgo 27 28 = some 55 := by decide
theorem tg_35_20 : tgo 35 20 = some 55 := by decide
theorem tg_42_5 : tgo 42 5 = some 47 := by decide
theorem tg_52_m28 : tgo 52 (-28) = some 24 := by decide
theorem tg_58_21 : tgo 58 21 = some 79 := by decide
theorem tg_65_14 : tgo 65 14 = some 79 := by decide
theorem tg_72_7 : tgo 72 7 = some 79 := by decide
def mX7_isCollege : Mt := (⟨3, 0, 0, 66⟩, RX7, cX7_isCollege, 2, some .boolean, (0, 0), none)
theorem mX7_isCollege_c : mX7_isCollege.2.2.1 = cX7_isCollege := rfl
theorem mX7_isCollege_n : mX7_isCollege.2.2.2.1 = 2 := rfl
theorem mX7_isCollege_r : mX7_isCollege.2.2.2.2.1 = some .boolean := rfl
theorem mX7_isCollege_l : mX7_isCollege.2.2.2.2.2.2 = none := rfl
def jX7_isCollege (Γ : Cx) : List ((Nat × Nat) × Nat × Bool × YSp) := [((0, 162), 1, false, sp_X7_number Γ), ((0, 142), 1, false, sp_X7_next Γ), ((0, 166), 1, false, sp_X7_one Γ), ((0, 169), 1, false, sp_X7_keys Γ)]
theorem jX7_isCollege_0_162 (Γ : Cx) : kT (jX7_isCollege Γ) 0 162 = some (1, false, sp_X7_number Γ) := rfl
theorem jX7_isCollege_0_142 (Γ : Cx) : kT (jX7_isCollege Γ) 0 142 = some (1, false, sp_X7_next Γ) := rfl
theorem jX7_isCollege_0_166 (Γ : Cx) : kT (jX7_isCollege Γ) 0 166 = some (1, false, sp_X7_one Γ) := rfl
theorem jX7_isCollege_0_169 (Γ : Cx) : kT (jX7_isCollege Γ) 0 169 = some (1, false, sp_X7_keys Γ) := rfl
theorem uX7_isCollege (Γ : Cx) : TbOK Γ mX7_isCollege (fT fX7, cT kX7, kT (jX7_isCollege Γ)) := tb_ok fX7_ok kX7_ok (all_cons ⟨call_V (n := 0) (T := TX7) (N := 26) (ok_X7_number Γ) (rv_X7_number (Γ := Γ)) rfl bw_869 bw_866 bw_868 bw_23 bw_49 no_X7_number ⟨⟨rfl, rfl⟩, ⟨by decide, by decide⟩, ⟨by decide, by decide⟩⟩, fun z => by cases z⟩ (all_cons ⟨call_V (n := 0) (T := TX7) (N := 26) (ok_X7_next Γ) (rv_X7_next (Γ := Γ)) rfl bw_873 bw_870 bw_872 bw_24 bw_49 no_X7_next ⟨⟨rfl, rfl⟩, ⟨by decide, by decide⟩, ⟨by decide, by decide⟩⟩, fun z => by cases z⟩ (all_cons ⟨call_V (n := 0) (T := TX7) (N := 26) (ok_X7_one Γ) (rv_X7_one (Γ := Γ)) rfl bw_882 bw_879 bw_881 bw_25 bw_49 no_X7_one ⟨⟨rfl, rfl⟩, ⟨by decide, by decide⟩, ⟨by decide, by decide⟩⟩, fun z => by cases z⟩ (all_cons ⟨call_V (n := 0) (T := TX7) (N := 26) (ok_X7_keys Γ) (rv_X7_keys (Γ := Γ)) rfl bw_891 bw_888 bw_890 bw_26 bw_49 no_X7_keys ⟨⟨rfl, rfl⟩, ⟨by decide, by decide⟩, ⟨by decide, by decide⟩⟩, fun z => by cases z⟩ (all_nil)))))
set_option maxRecDepth 20000 in
theorem ok_X7_isCollege (Γ : Cx) : Ok Γ yX7_isCollege mX7_isCollege (sp_X7_isCollege Γ) := by
  refine ok_intro (by decide +kernel) rfl rfl ?_
  intro av σ K h
  obtain ⟨l, len, t, ok, p, cs, lab, ⟨a, ad⟩, ⟨sc, ar, it⟩, rfl, hM, ⟨hT, hR⟩, h⟩ := h
  simp only at h hT
  have hno : ∀ (σ3 : Hp) (s3 : MS), ok = false → SFp (sc, ar, it) s3 → s3.1 21 = nI p → frm (fL lab 30) σ σ3 → Mod Γ lab (a, ad) s3 σ3 → K (some (.int 0)) σ3 := by
    intro σ3 s3 hok hF h21 hf hM3
    subst hok
    exact h σ3 s3 _ ⟨hF, h21, rfl, fun z => by cases z⟩ hf hM3
  have hyes : ∀ (σ3 : Hp) (s3 : MS), ok = true → SFp (sc, ar, it) s3 → s3.1 21 = nI p → MR cs s3 → frm (fL lab 30) σ σ3 → Mod Γ lab (a, ad) s3 σ3 → K (some (.int 1)) σ3 := by
    intro σ3 s3 hok hF h21 hR3 hf hM3
    subst hok
    exact h σ3 s3 _ ⟨hF, h21, rfl, fun _ => hR3⟩ hf hM3
  clear h
  have hM2 := hM.putO (upd (upd sc 23 (nI 0)) 20 (nI 0))
  have hf2 := hM.frO (e := ME ad (upd (upd sc 23 (nI 0)) 20 (nI 0)))
  have hF2 : SFp (sc, ar, it) (upd (upd sc 23 (nI 0)) 20 (nI 0), ar, it) := ⟨rfl, fun j hj => (pk_un (by omega)).trans (pk_un (by omega)), fun _ _ => rfl⟩
  have hT2 := hF2.rt hT
  have g20 : (upd (upd sc 23 (nI 0)) 20 (nI 0)) 20 = nI 0 := rfl
  have g23 : (upd (upd sc 23 (nI 0)) 20 (nI 0)) 23 = nI 0 := rfl
  obtain ⟨⟨m1, -⟩, e1, -⟩ := id hM
  simp only [ME, hput] at m1 e1 hM2 hf2
  refine ⟨Nat.le_of_ble_eq_true rfl, yvc_ok (uX7_isCollege Γ) (S := []) 60 _ _ _ _ ?_⟩
  simp only [lv_args, Value.category, m1, e1, yvc_s, s1i, s2i, s1l, s2l, sil, s1r, sir, siir, slir, srir, svr, sd1, sd2, lg, lput, ldel, isL_i, isL_r, isL_l, jmp, obj, obj1, fI, fR, arI, arL, arR, hput, f4_0, f4_1, f4_2, f4_3, lc_0, lc_1, rok_i, rok_b, rok_y, strF, fput_1, fput_2, csum_nil, csum_i, csum_l, csum_r, va_up_self, bx_uu, Int.reduceAdd, List.elem_nil, List.elem_cons, List.take_succ_cons, List.take_zero, List.drop_succ_cons, List.drop_zero, List.take_nil, List.drop_nil, List.reverse_cons, List.reverse_nil, List.nil_append, List.cons_append, List.append_nil, Option.toList_some, Option.toList_none, List.getElem?_cons_zero, List.getElem?_cons_succ, List.set_cons_zero, List.set_cons_succ, List.length_cons, List.length_nil, reduceIte, reduceCtorEq, and_true, true_and, and_self, or_true, true_or, false_and, and_false, not_true_eq_false, not_false_eq_true, true_implies, false_implies, implies_true, Nat.reduceAdd, Nat.reduceLT, Nat.reduceEqDiff, Nat.reduceLeDiff, Nat.reduceBEq, Nat.zero_add, Nat.lt_add_one, Bool.false_eq_true, Bool.or_false, Bool.or_true, Bool.or_self, Nat.zero_ne_one, Nat.one_ne_zero, ite_true, ite_false, ne_eq, Nat.reduceSub, Nat.succ_eq_add_one, Nat.zero_lt_succ, Nat.add_one_ne_zero, false_or, or_false, mX7_isCollege_c, mX7_isCollege_n, mX7_isCollege_r, mX7_isCollege_l, dX7_isCollege_0, dX7_isCollege_1, ic_0, dX7_isCollege_2, fl_7_155_7, dX7_isCollege_5, dX7_isCollege_6, dX7_isCollege_7, fl_7_132_7, dX7_isCollege_10, dX7_isCollege_11, dX7_isCollege_14, tg_14_5, cnd1_ne, dX7_isCollege_17, dX7_isCollege_18, dX7_isCollege_19, dX7_isCollege_20, dX7_isCollege_23, dX7_isCollege_24, dX7_isCollege_25, bc_47, dX7_isCollege_27, tg_27_28, cnd2_ne, dX7_isCollege_30, dX7_isCollege_31, dX7_isCollege_34, ic_5, dX7_isCollege_35, tg_35_20, cnd2_ge, dX7_isCollege_38, dX7_isCollege_39, dX7_isCollege_42, tg_42_5, dX7_isCollege_45, dX7_isCollege_46, dX7_isCollege_47, dX7_isCollege_48, dX7_isCollege_51, dX7_isCollege_52, tg_52_m28, dX7_isCollege_55, dX7_isCollege_56, bc_59, dX7_isCollege_58, tg_58_21, dX7_isCollege_61, dX7_isCollege_62, dX7_isCollege_65, tg_65_14, cnd1_le, dX7_isCollege_68, dX7_isCollege_69, dX7_isCollege_72, tg_72_7, cnd1_eq, dX7_isCollege_75, ic_1, dX7_isCollege_76, tg_76_4, dX7_isCollege_79, dX7_isCollege_80, jX7_isCollege_0_162, jX7_isCollege_0_142, jX7_isCollege_0_166, jX7_isCollege_0_169, st_aload_n, st_bipush, st_getfield, st_goto, st_iconst, st_ifCond, st_if_icmp, st_iload_n, st_invokevirtual, st_ireturn, st_istore_n, st_putfield]
  refine ⟨l, len, 0, lab, (a, ad), (upd (upd sc 23 (nI 0)) 20 (nI 0), ar, it), rfl, ?_, ⟨g20, Nat.zero_le _, hT2⟩, ?_⟩
  · exact hM2
  rintro σ3 s3 r3 ⟨hF3, k23, k21, hk, rfl⟩ hf3 hM3
  have hF3 := hF2.tr hF3
  have hf3 : frm (fL lab 30) σ σ3 := hf2.tr hf3
  have k23 : s3.1 23 = nI 0 := k23.trans g23
  refine yvc_ok (uX7_isCollege Γ) (S := [19]) 60 _ _ _ _ ?_
  simp only [bI_eq0, Bool.not_eq_false, yvc_s, s1i, s2i, s1l, s2l, sil, s1r, sir, siir, slir, srir, svr, sd1, sd2, lg, lput, ldel, isL_i, isL_r, isL_l, jmp, obj, obj1, fI, fR, arI, arL, arR, hput, f4_0, f4_1, f4_2, f4_3, lc_0, lc_1, rok_i, rok_b, rok_y, strF, fput_1, fput_2, csum_nil, csum_i, csum_l, csum_r, va_up_self, bx_uu, Int.reduceAdd, List.elem_nil, List.elem_cons, List.take_succ_cons, List.take_zero, List.drop_succ_cons, List.drop_zero, List.take_nil, List.drop_nil, List.reverse_cons, List.reverse_nil, List.nil_append, List.cons_append, List.append_nil, Option.toList_some, Option.toList_none, List.getElem?_cons_zero, List.getElem?_cons_succ, List.set_cons_zero, List.set_cons_succ, List.length_cons, List.length_nil, reduceIte, reduceCtorEq, and_true, true_and, and_self, or_true, true_or, false_and, and_false, not_true_eq_false, not_false_eq_true, true_implies, false_implies, implies_true, Nat.reduceAdd, Nat.reduceLT, Nat.reduceEqDiff, Nat.reduceLeDiff, Nat.reduceBEq, Nat.zero_add, Nat.lt_add_one, Bool.false_eq_true, Bool.or_false, Bool.or_true, Bool.or_self, Nat.zero_ne_one, Nat.one_ne_zero, ite_true, ite_false, ne_eq, Nat.reduceSub, Nat.succ_eq_add_one, Nat.zero_lt_succ, Nat.add_one_ne_zero, false_or, or_false, mX7_isCollege_c, mX7_isCollege_n, mX7_isCollege_r, mX7_isCollege_l, dX7_isCollege_0, dX7_isCollege_1, ic_0, dX7_isCollege_2, fl_7_155_7, dX7_isCollege_5, dX7_isCollege_6, dX7_isCollege_7, fl_7_132_7, dX7_isCollege_10, dX7_isCollege_11, dX7_isCollege_14, tg_14_5, cnd1_ne, dX7_isCollege_17, dX7_isCollege_18, dX7_isCollege_19, dX7_isCollege_20, dX7_isCollege_23, dX7_isCollege_24, dX7_isCollege_25, bc_47, dX7_isCollege_27, tg_27_28, cnd2_ne, dX7_isCollege_30, dX7_isCollege_31, dX7_isCollege_34, ic_5, dX7_isCollege_35, tg_35_20, cnd2_ge, dX7_isCollege_38, dX7_isCollege_39, dX7_isCollege_42, tg_42_5, dX7_isCollege_45, dX7_isCollege_46, dX7_isCollege_47, dX7_isCollege_48, dX7_isCollege_51, dX7_isCollege_52, tg_52_m28, dX7_isCollege_55, dX7_isCollege_56, bc_59, dX7_isCollege_58, tg_58_21, dX7_isCollege_61, dX7_isCollege_62, dX7_isCollege_65, tg_65_14, cnd1_le, dX7_isCollege_68, dX7_isCollege_69, dX7_isCollege_72, tg_72_7, cnd1_eq, dX7_isCollege_75, ic_1, dX7_isCollege_76, tg_76_4, dX7_isCollege_79, dX7_isCollege_80, jX7_isCollege_0_162, jX7_isCollege_0_142, jX7_isCollege_0_166, jX7_isCollege_0_169, st_aload_n, st_bipush, st_getfield, st_goto, st_iconst, st_ifCond, st_if_icmp, st_iload_n, st_invokevirtual, st_ireturn, st_istore_n, st_putfield]
  refine And.symm ⟨fun c => ?_, fun c => ?_⟩
  · have c := Bool.not_eq_true _ ▸ c
    rcases hR with ⟨-, hok, hp⟩ | ⟨z, -⟩
    · refine hno σ3 s3 hok hF3 ?_ hf3 hM3
      rw [k21, hp]
      unfold rR at c ⊢
      by_cases d : inr (rn l len 2 (nx l len 0) 0).1 1 20 = true
      · rw [if_pos d] at c; cases c
      · rw [if_neg d]
    · rw [z] at c; cases c
  obtain ⟨k20, k22⟩ := hk c
  have hle := rR_le (l := l) (Nat.zero_le len)
  rcases hR with ⟨z, -⟩ | ⟨-, r, hr, hR⟩
  · rw [z] at c; cases c
  obtain ⟨pos0, hpos0⟩ : ∃ q, (rR l len 0).2.2 = q := ⟨_, rfl⟩
  rw [hpos0] at hr hle k20
  have e22 : (rRs t (rR l len 0)).2.2.2.2.2.2.2.1 = (rR l len 0).2.1 := by unfold rRs; rw [if_pos c]
  -- behind the people
  have fin : ∀ (T : PT) (q : Nat) (s4 : MS) (σ4 : Hp), r = (true, T) → (T.2.2.2 = q ∨ T.1 = 5) → nx l len T.2.2.2 = q → T.1 ≤ 5 → q ≤ len → PA T.1 T.2.1 T.2.2.1 s4 → s4.1 20 = nI (q + 1) → s4.1 21 = nI q → s4.1 22 = (rR l len 0).2.1 → SFp (sc, ar, it) s4 → frm (fL lab 30) σ σ4 → Mod Γ lab (a, ad) s4 σ4 → YG Γ mX7_isCollege K 55 [(0, .ref a), (1, .int (mlt l len q))] [] σ4 := by
    intro T q s4 σ4 hrT hpo hnx hT5 hql hPA f20 f21 f22 hF4 hf4 hM4
    subst hrT
    simp only [okP, Bool.true_and] at hR
    have hT4 := hF4.rt hT
    have hml := mlt_ltr (p := q) hT4
    have hc59 := mq_c hml (c := 59) (by decide) (by decide)
    obtain ⟨a1, a2, a3, a4⟩ := id hPA
    obtain ⟨⟨m1, -⟩, e1, -⟩ := id hM4
    obtain ⟨sc4, ar4, it4⟩ := s4
    simp only [ME] at m1 e1 a1
    rw [a1] at e1
    refine yvc_ok (uX7_isCollege Γ) (S := []) 60 _ _ _ _ ?_
    simp only [m1, e1, ← hc59, le0P hT5, Classical.not_not, yvc_s, s1i, s2i, s1l, s2l, sil, s1r, sir, siir, slir, srir, svr, sd1, sd2, lg, lput, ldel, isL_i, isL_r, isL_l, jmp, obj, obj1, fI, fR, arI, arL, arR, hput, f4_0, f4_1, f4_2, f4_3, lc_0, lc_1, rok_i, rok_b, rok_y, strF, fput_1, fput_2, csum_nil, csum_i, csum_l, csum_r, va_up_self, bx_uu, Int.reduceAdd, List.elem_nil, List.elem_cons, List.take_succ_cons, List.take_zero, List.drop_succ_cons, List.drop_zero, List.take_nil, List.drop_nil, List.reverse_cons, List.reverse_nil, List.nil_append, List.cons_append, List.append_nil, Option.toList_some, Option.toList_none, List.getElem?_cons_zero, List.getElem?_cons_succ, List.set_cons_zero, List.set_cons_succ, List.length_cons, List.length_nil, reduceIte, reduceCtorEq, and_true, true_and, and_self, or_true, true_or, false_and, and_false, not_true_eq_false, not_false_eq_true, true_implies, false_implies, implies_true, Nat.reduceAdd, Nat.reduceLT, Nat.reduceEqDiff, Nat.reduceLeDiff, Nat.reduceBEq, Nat.zero_add, Nat.lt_add_one, Bool.false_eq_true, Bool.or_false, Bool.or_true, Bool.or_self, Nat.zero_ne_one, Nat.one_ne_zero, ite_true, ite_false, ne_eq, Nat.reduceSub, Nat.succ_eq_add_one, Nat.zero_lt_succ, Nat.add_one_ne_zero, false_or, or_false, mX7_isCollege_c, mX7_isCollege_n, mX7_isCollege_r, mX7_isCollege_l, dX7_isCollege_0, dX7_isCollege_1, ic_0, dX7_isCollege_2, fl_7_155_7, dX7_isCollege_5, dX7_isCollege_6, dX7_isCollege_7, fl_7_132_7, dX7_isCollege_10, dX7_isCollege_11, dX7_isCollege_14, tg_14_5, cnd1_ne, dX7_isCollege_17, dX7_isCollege_18, dX7_isCollege_19, dX7_isCollege_20, dX7_isCollege_23, dX7_isCollege_24, dX7_isCollege_25, bc_47, dX7_isCollege_27, tg_27_28, cnd2_ne, dX7_isCollege_30, dX7_isCollege_31, dX7_isCollege_34, ic_5, dX7_isCollege_35, tg_35_20, cnd2_ge, dX7_isCollege_38, dX7_isCollege_39, dX7_isCollege_42, tg_42_5, dX7_isCollege_45, dX7_isCollege_46, dX7_isCollege_47, dX7_isCollege_48, dX7_isCollege_51, dX7_isCollege_52, tg_52_m28, dX7_isCollege_55, dX7_isCollege_56, bc_59, dX7_isCollege_58, tg_58_21, dX7_isCollege_61, dX7_isCollege_62, dX7_isCollege_65, tg_65_14, cnd1_le, dX7_isCollege_68, dX7_isCollege_69, dX7_isCollege_72, tg_72_7, cnd1_eq, dX7_isCollege_75, ic_1, dX7_isCollege_76, tg_76_4, dX7_isCollege_79, dX7_isCollege_80, jX7_isCollege_0_162, jX7_isCollege_0_142, jX7_isCollege_0_166, jX7_isCollege_0_169, st_aload_n, st_bipush, st_getfield, st_goto, st_iconst, st_ifCond, st_if_icmp, st_iload_n, st_invokevirtual, st_ireturn, st_istore_n, st_putfield]
    rcases hR with ⟨d0, hok, hp⟩ | ⟨d0, k, hk, hR⟩
    · have d0 : ¬ 0 < T.1 := of_decide_eq_false d0
      have hq : T.2.2.2 = q := hpo.resolve_right (by omega)
      have hz := hno σ4 _ hok hF4 (by rw [hp, hq]; exact f21) hf4 hM4
      exact ⟨fun _ => hz, fun _ => ⟨fun _ => hz, fun z => absurd z d0⟩⟩
    · have d0 : 0 < T.1 := of_decide_eq_true d0
      unfold rK at hk
      rw [hnx] at hk
      refine And.symm ⟨fun c59 => ⟨fun z => absurd d0 z, fun _ => ?_⟩, fun c59 => ?_⟩
      · rw [if_pos c59] at hk
        have hlt := c47_lt c59 (by decide)
        refine ⟨l, len, q + 1, T.1, t.2.1, lab, (a, ad), (sc4, ar4, it4), rfl, hM4, ⟨f20, hlt, hT5, a1, hT4⟩, ?_⟩
        rintro σ5 s5 r5 ⟨hF5, b22, b23, b24, b25, hcase⟩ hf5 hM5
        rw [← hk] at hcase
        simp only at b22 b23 b24 b25
        rcases hcase with ⟨w1, w2, rfl⟩ | ⟨w1, w2, w3, rfl⟩
        · rcases hR with ⟨-, hok, hp⟩ | ⟨z, -⟩
          · have hz := hno σ5 s5 hok (hF4.tr hF5) (by rw [hp]; exact w2) (hf4.tr hf5) hM5
            refine yvc_ok (uX7_isCollege Γ) (S := []) 60 _ _ _ _ ?_
            simp only [yvc_s, s1i, s2i, s1l, s2l, sil, s1r, sir, siir, slir, srir, svr, sd1, sd2, lg, lput, ldel, isL_i, isL_r, isL_l, jmp, obj, obj1, fI, fR, arI, arL, arR, hput, f4_0, f4_1, f4_2, f4_3, lc_0, lc_1, rok_i, rok_b, rok_y, strF, fput_1, fput_2, csum_nil, csum_i, csum_l, csum_r, va_up_self, bx_uu, Int.reduceAdd, List.elem_nil, List.elem_cons, List.take_succ_cons, List.take_zero, List.drop_succ_cons, List.drop_zero, List.take_nil, List.drop_nil, List.reverse_cons, List.reverse_nil, List.nil_append, List.cons_append, List.append_nil, Option.toList_some, Option.toList_none, List.getElem?_cons_zero, List.getElem?_cons_succ, List.set_cons_zero, List.set_cons_succ, List.length_cons, List.length_nil, reduceIte, reduceCtorEq, and_true, true_and, and_self, or_true, true_or, false_and, and_false, not_true_eq_false, not_false_eq_true, true_implies, false_implies, implies_true, Nat.reduceAdd, Nat.reduceLT, Nat.reduceEqDiff, Nat.reduceLeDiff, Nat.reduceBEq, Nat.zero_add, Nat.lt_add_one, Bool.false_eq_true, Bool.or_false, Bool.or_true, Bool.or_self, Nat.zero_ne_one, Nat.one_ne_zero, ite_true, ite_false, ne_eq, Nat.reduceSub, Nat.succ_eq_add_one, Nat.zero_lt_succ, Nat.add_one_ne_zero, false_or, or_false, mX7_isCollege_c, mX7_isCollege_n, mX7_isCollege_r, mX7_isCollege_l, dX7_isCollege_0, dX7_isCollege_1, ic_0, dX7_isCollege_2, fl_7_155_7, dX7_isCollege_5, dX7_isCollege_6, dX7_isCollege_7, fl_7_132_7, dX7_isCollege_10, dX7_isCollege_11, dX7_isCollege_14, tg_14_5, cnd1_ne, dX7_isCollege_17, dX7_isCollege_18, dX7_isCollege_19, dX7_isCollege_20, dX7_isCollege_23, dX7_isCollege_24, dX7_isCollege_25, bc_47, dX7_isCollege_27, tg_27_28, cnd2_ne, dX7_isCollege_30, dX7_isCollege_31, dX7_isCollege_34, ic_5, dX7_isCollege_35, tg_35_20, cnd2_ge, dX7_isCollege_38, dX7_isCollege_39, dX7_isCollege_42, tg_42_5, dX7_isCollege_45, dX7_isCollege_46, dX7_isCollege_47, dX7_isCollege_48, dX7_isCollege_51, dX7_isCollege_52, tg_52_m28, dX7_isCollege_55, dX7_isCollege_56, bc_59, dX7_isCollege_58, tg_58_21, dX7_isCollege_61, dX7_isCollege_62, dX7_isCollege_65, tg_65_14, cnd1_le, dX7_isCollege_68, dX7_isCollege_69, dX7_isCollege_72, tg_72_7, cnd1_eq, dX7_isCollege_75, ic_1, dX7_isCollege_76, tg_76_4, dX7_isCollege_79, dX7_isCollege_80, jX7_isCollege_0_162, jX7_isCollege_0_142, jX7_isCollege_0_166, jX7_isCollege_0_169, st_aload_n, st_bipush, st_getfield, st_goto, st_iconst, st_ifCond, st_if_icmp, st_iload_n, st_invokevirtual, st_ireturn, st_istore_n, st_putfield]
            exact hz
          · rw [z] at w1; cases w1
        · rcases hR with ⟨z, -⟩ | ⟨-, hp, hok, hcs⟩
          · rw [z] at w1; cases w1
          · refine yvc_ok (uX7_isCollege Γ) (S := []) 60 _ _ _ _ ?_
            simp only [bI_eq0, Bool.not_eq_false, yvc_s, s1i, s2i, s1l, s2l, sil, s1r, sir, siir, slir, srir, svr, sd1, sd2, lg, lput, ldel, isL_i, isL_r, isL_l, jmp, obj, obj1, fI, fR, arI, arL, arR, hput, f4_0, f4_1, f4_2, f4_3, lc_0, lc_1, rok_i, rok_b, rok_y, strF, fput_1, fput_2, csum_nil, csum_i, csum_l, csum_r, va_up_self, bx_uu, Int.reduceAdd, List.elem_nil, List.elem_cons, List.take_succ_cons, List.take_zero, List.drop_succ_cons, List.drop_zero, List.take_nil, List.drop_nil, List.reverse_cons, List.reverse_nil, List.nil_append, List.cons_append, List.append_nil, Option.toList_some, Option.toList_none, List.getElem?_cons_zero, List.getElem?_cons_succ, List.set_cons_zero, List.set_cons_succ, List.length_cons, List.length_nil, reduceIte, reduceCtorEq, and_true, true_and, and_self, or_true, true_or, false_and, and_false, not_true_eq_false, not_false_eq_true, true_implies, false_implies, implies_true, Nat.reduceAdd, Nat.reduceLT, Nat.reduceEqDiff, Nat.reduceLeDiff, Nat.reduceBEq, Nat.zero_add, Nat.lt_add_one, Bool.false_eq_true, Bool.or_false, Bool.or_true, Bool.or_self, Nat.zero_ne_one, Nat.one_ne_zero, ite_true, ite_false, ne_eq, Nat.reduceSub, Nat.succ_eq_add_one, Nat.zero_lt_succ, Nat.add_one_ne_zero, false_or, or_false, mX7_isCollege_c, mX7_isCollege_n, mX7_isCollege_r, mX7_isCollege_l, dX7_isCollege_0, dX7_isCollege_1, ic_0, dX7_isCollege_2, fl_7_155_7, dX7_isCollege_5, dX7_isCollege_6, dX7_isCollege_7, fl_7_132_7, dX7_isCollege_10, dX7_isCollege_11, dX7_isCollege_14, tg_14_5, cnd1_ne, dX7_isCollege_17, dX7_isCollege_18, dX7_isCollege_19, dX7_isCollege_20, dX7_isCollege_23, dX7_isCollege_24, dX7_isCollege_25, bc_47, dX7_isCollege_27, tg_27_28, cnd2_ne, dX7_isCollege_30, dX7_isCollege_31, dX7_isCollege_34, ic_5, dX7_isCollege_35, tg_35_20, cnd2_ge, dX7_isCollege_38, dX7_isCollege_39, dX7_isCollege_42, tg_42_5, dX7_isCollege_45, dX7_isCollege_46, dX7_isCollege_47, dX7_isCollege_48, dX7_isCollege_51, dX7_isCollege_52, tg_52_m28, dX7_isCollege_55, dX7_isCollege_56, bc_59, dX7_isCollege_58, tg_58_21, dX7_isCollege_61, dX7_isCollege_62, dX7_isCollege_65, tg_65_14, cnd1_le, dX7_isCollege_68, dX7_isCollege_69, dX7_isCollege_72, tg_72_7, cnd1_eq, dX7_isCollege_75, ic_1, dX7_isCollege_76, tg_76_4, dX7_isCollege_79, dX7_isCollege_80, jX7_isCollege_0_162, jX7_isCollege_0_142, jX7_isCollege_0_166, jX7_isCollege_0_169, st_aload_n, st_bipush, st_getfield, st_goto, st_iconst, st_ifCond, st_if_icmp, st_iload_n, st_invokevirtual, st_ireturn, st_istore_n, st_putfield]
            refine ⟨fun z => ?_, fun z => ?_⟩
            · exact hno σ5 s5 (hok.trans z) (hF4.tr hF5) (by rw [hp]; exact w2) (hf4.tr hf5) hM5
            · refine hyes σ5 s5 (hok.trans z) (hF4.tr hF5) (by rw [hp]; exact w2) ?_ (hf4.tr hf5) hM5
              have hkk := ksl_k (l := l) (len := len) hT5 4 0 t.2.1 (q + 1) (by rw [← hk]; exact w1) (fun j hj => absurd hj (Nat.not_lt_zero _))
              rw [← hk] at hkk
              rw [hcs]
              refine ⟨?_, hT5, ⟨?_, ?_, ?_, a4⟩, fun d hd => ⟨w3 d hd, hkk d (by omega)⟩⟩
              · show s5.1 22 = (rRs t (rR l len 0)).2.2.2.2.2.2.2.1
                rw [e22, b22]
                exact f22
              · rw [b23]; exact a1
              · rw [b24]; exact a2
              · intro j hj
                have hj : j < 4 * T.1 := hj
                rw [b25 j (by omega)]
                exact a3 j hj
      · rw [if_neg c59] at hk
        subst hk
        rcases hR with ⟨-, hok, hp⟩ | ⟨z, -⟩
        · exact hno σ4 _ hok hF4 (by rw [hp]; exact f21) hf4 hM4
        · cases z
  have loop : ∀ (n : Nat) (T : PT) (q : Nat) (s4 : MS) (σ4 : Hp), T.1 + n = 5 → T.2.2.2 ≤ len → nx l len T.2.2.2 = q → ppl l len n T = r → PA T.1 T.2.1 T.2.2.1 s4 → s4.1 20 = nI (q + 1) → s4.1 21 = nI q → s4.1 22 = (rR l len 0).2.1 → SFp (sc, ar, it) s4 → frm (fL lab 30) σ σ4 → Mod Γ lab (a, ad) s4 σ4 → YG Γ mX7_isCollege K 24 [(0, .ref a), (1, .int (mlt l len q))] [] σ4 := by
    intro n
    induction n with
    | zero =>
      intro T q s4 σ4 hn hq hnx hpp hPA f20 f21 f22 hF4 hf4 hM4
      have hql := nx_le (l := l) hq
      rw [hnx] at hql
      have hfin := fin T q s4 σ4 hpp.symm (Or.inr (by omega)) hnx (by omega) hql hPA f20 f21 f22 hF4 hf4 hM4
      obtain ⟨a1, a2, a3, a4⟩ := hPA
      obtain ⟨⟨m1, -⟩, e1, -⟩ := hM4
      obtain ⟨sc4, ar4, it4⟩ := s4
      simp only [ME] at m1 e1 a1
      rw [a1] at e1
      have h5 : (5 : Int32) ≤ nI T.1 := by rw [show T.1 = 5 by omega]; exact ge5
      refine yvc1_ok (uX7_isCollege Γ) (S := [24, 55]) 60 ?_
      simp only [yvc1, m1, e1, h5, yvc_s, s1i, s2i, s1l, s2l, sil, s1r, sir, siir, slir, srir, svr, sd1, sd2, lg, lput, ldel, isL_i, isL_r, isL_l, jmp, obj, obj1, fI, fR, arI, arL, arR, hput, f4_0, f4_1, f4_2, f4_3, lc_0, lc_1, rok_i, rok_b, rok_y, strF, fput_1, fput_2, csum_nil, csum_i, csum_l, csum_r, va_up_self, bx_uu, Int.reduceAdd, List.elem_nil, List.elem_cons, List.take_succ_cons, List.take_zero, List.drop_succ_cons, List.drop_zero, List.take_nil, List.drop_nil, List.reverse_cons, List.reverse_nil, List.nil_append, List.cons_append, List.append_nil, Option.toList_some, Option.toList_none, List.getElem?_cons_zero, List.getElem?_cons_succ, List.set_cons_zero, List.set_cons_succ, List.length_cons, List.length_nil, reduceIte, reduceCtorEq, and_true, true_and, and_self, or_true, true_or, false_and, and_false, not_true_eq_false, not_false_eq_true, true_implies, false_implies, implies_true, Nat.reduceAdd, Nat.reduceLT, Nat.reduceEqDiff, Nat.reduceLeDiff, Nat.reduceBEq, Nat.zero_add, Nat.lt_add_one, Bool.false_eq_true, Bool.or_false, Bool.or_true, Bool.or_self, Nat.zero_ne_one, Nat.one_ne_zero, ite_true, ite_false, ne_eq, Nat.reduceSub, Nat.succ_eq_add_one, Nat.zero_lt_succ, Nat.add_one_ne_zero, false_or, or_false, mX7_isCollege_c, mX7_isCollege_n, mX7_isCollege_r, mX7_isCollege_l, dX7_isCollege_0, dX7_isCollege_1, ic_0, dX7_isCollege_2, fl_7_155_7, dX7_isCollege_5, dX7_isCollege_6, dX7_isCollege_7, fl_7_132_7, dX7_isCollege_10, dX7_isCollege_11, dX7_isCollege_14, tg_14_5, cnd1_ne, dX7_isCollege_17, dX7_isCollege_18, dX7_isCollege_19, dX7_isCollege_20, dX7_isCollege_23, dX7_isCollege_24, dX7_isCollege_25, bc_47, dX7_isCollege_27, tg_27_28, cnd2_ne, dX7_isCollege_30, dX7_isCollege_31, dX7_isCollege_34, ic_5, dX7_isCollege_35, tg_35_20, cnd2_ge, dX7_isCollege_38, dX7_isCollege_39, dX7_isCollege_42, tg_42_5, dX7_isCollege_45, dX7_isCollege_46, dX7_isCollege_47, dX7_isCollege_48, dX7_isCollege_51, dX7_isCollege_52, tg_52_m28, dX7_isCollege_55, dX7_isCollege_56, bc_59, dX7_isCollege_58, tg_58_21, dX7_isCollege_61, dX7_isCollege_62, dX7_isCollege_65, tg_65_14, cnd1_le, dX7_isCollege_68, dX7_isCollege_69, dX7_isCollege_72, tg_72_7, cnd1_eq, dX7_isCollege_75, ic_1, dX7_isCollege_76, tg_76_4, dX7_isCollege_79, dX7_isCollege_80, jX7_isCollege_0_162, jX7_isCollege_0_142, jX7_isCollege_0_166, jX7_isCollege_0_169, st_aload_n, st_bipush, st_getfield, st_goto, st_iconst, st_ifCond, st_if_icmp, st_iload_n, st_invokevirtual, st_ireturn, st_istore_n, st_putfield]
      exact ⟨fun _ => hfin, fun _ => hfin⟩
    | succ n ih =>
      intro T q s4 σ4 hn hq hnx hpp hPA f20 f21 f22 hF4 hf4 hM4
      have hql := nx_le (l := l) hq
      have hT4 := hF4.rt hT
      have hml := mlt_ltr (p := q) hT4
      have hc47 := mq_c hml (c := 47) (by decide) (by decide)
      rw [ppl] at hpp
      rw [hnx] at hpp hql
      have hnn : nx l len q = q := by rw [← hnx]; exact nx_nx _ _ rfl
      obtain ⟨a1, a2, a3, a4⟩ := id hPA
      obtain ⟨⟨m1, -⟩, e1, -⟩ := id hM4
      have a1' := a1
      have hfin := fun hh => fin (T.1, T.2.1, T.2.2.1, q) q s4 σ4 hh (Or.inl rfl) hnn (by simp only; omega) hql hPA f20 f21 f22 hF4 hf4 hM4
      simp only [ME] at m1 e1
      rw [a1] at e1
      have h5 := lt5 (show T.1 < 5 by omega)
      refine yvc1_ok (uX7_isCollege Γ) (S := [24, 55]) 60 ?_
      simp only [yvc1, m1, e1, h5, ← hc47, yvc_s, s1i, s2i, s1l, s2l, sil, s1r, sir, siir, slir, srir, svr, sd1, sd2, lg, lput, ldel, isL_i, isL_r, isL_l, jmp, obj, obj1, fI, fR, arI, arL, arR, hput, f4_0, f4_1, f4_2, f4_3, lc_0, lc_1, rok_i, rok_b, rok_y, strF, fput_1, fput_2, csum_nil, csum_i, csum_l, csum_r, va_up_self, bx_uu, Int.reduceAdd, List.elem_nil, List.elem_cons, List.take_succ_cons, List.take_zero, List.drop_succ_cons, List.drop_zero, List.take_nil, List.drop_nil, List.reverse_cons, List.reverse_nil, List.nil_append, List.cons_append, List.append_nil, Option.toList_some, Option.toList_none, List.getElem?_cons_zero, List.getElem?_cons_succ, List.set_cons_zero, List.set_cons_succ, List.length_cons, List.length_nil, reduceIte, reduceCtorEq, and_true, true_and, and_self, or_true, true_or, false_and, and_false, not_true_eq_false, not_false_eq_true, true_implies, false_implies, implies_true, Nat.reduceAdd, Nat.reduceLT, Nat.reduceEqDiff, Nat.reduceLeDiff, Nat.reduceBEq, Nat.zero_add, Nat.lt_add_one, Bool.false_eq_true, Bool.or_false, Bool.or_true, Bool.or_self, Nat.zero_ne_one, Nat.one_ne_zero, ite_true, ite_false, ne_eq, Nat.reduceSub, Nat.succ_eq_add_one, Nat.zero_lt_succ, Nat.add_one_ne_zero, false_or, or_false, mX7_isCollege_c, mX7_isCollege_n, mX7_isCollege_r, mX7_isCollege_l, dX7_isCollege_0, dX7_isCollege_1, ic_0, dX7_isCollege_2, fl_7_155_7, dX7_isCollege_5, dX7_isCollege_6, dX7_isCollege_7, fl_7_132_7, dX7_isCollege_10, dX7_isCollege_11, dX7_isCollege_14, tg_14_5, cnd1_ne, dX7_isCollege_17, dX7_isCollege_18, dX7_isCollege_19, dX7_isCollege_20, dX7_isCollege_23, dX7_isCollege_24, dX7_isCollege_25, bc_47, dX7_isCollege_27, tg_27_28, cnd2_ne, dX7_isCollege_30, dX7_isCollege_31, dX7_isCollege_34, ic_5, dX7_isCollege_35, tg_35_20, cnd2_ge, dX7_isCollege_38, dX7_isCollege_39, dX7_isCollege_42, tg_42_5, dX7_isCollege_45, dX7_isCollege_46, dX7_isCollege_47, dX7_isCollege_48, dX7_isCollege_51, dX7_isCollege_52, tg_52_m28, dX7_isCollege_55, dX7_isCollege_56, bc_59, dX7_isCollege_58, tg_58_21, dX7_isCollege_61, dX7_isCollege_62, dX7_isCollege_65, tg_65_14, cnd1_le, dX7_isCollege_68, dX7_isCollege_69, dX7_isCollege_72, tg_72_7, cnd1_eq, dX7_isCollege_75, ic_1, dX7_isCollege_76, tg_76_4, dX7_isCollege_79, dX7_isCollege_80, jX7_isCollege_0_162, jX7_isCollege_0_142, jX7_isCollege_0_166, jX7_isCollege_0_169, st_aload_n, st_bipush, st_getfield, st_goto, st_iconst, st_ifCond, st_if_icmp, st_iload_n, st_invokevirtual, st_ireturn, st_istore_n, st_putfield]
      refine ⟨fun cc => ?_, fun cc => ?_⟩
      · rw [if_neg cc] at hpp
        exact hfin hpp.symm
      · have cc := Classical.not_not.mp cc
        rw [if_pos cc] at hpp
        have hlt := c47_lt cc (by decide)
        have hle1 : (onP l len (T.1, T.2.1, T.2.2.1, q + 1)).2.2.2.2 ≤ len := onP_le hlt
        have hPP : (onP l len (T.1, T.2.1, T.2.2.1, q + 1)).1 = true → (onP l len (T.1, T.2.1, T.2.2.1, q + 1)).2.1 = T.1 + 1 := onP_P
        refine ⟨l, len, (T.1, T.2.1, T.2.2.1, q + 1), lab, (a, ad), s4, rfl, hM4, ⟨f20, hlt, by simp only; omega, hPA, hT4⟩, ?_⟩
        rintro σ5 s5 r5 ⟨hF5, b22, rfl, b21, bT⟩ hf5 hM5
        generalize onP l len (T.1, T.2.1, T.2.2.1, q + 1) = o at hpp hle1 hPP b21 bT ⊢
        refine yvc_ok (uX7_isCollege Γ) (S := [24, 55]) 60 _ _ _ _ ?_
        simp only [bI_eq0, Bool.not_eq_false, yvc_s, s1i, s2i, s1l, s2l, sil, s1r, sir, siir, slir, srir, svr, sd1, sd2, lg, lput, ldel, isL_i, isL_r, isL_l, jmp, obj, obj1, fI, fR, arI, arL, arR, hput, f4_0, f4_1, f4_2, f4_3, lc_0, lc_1, rok_i, rok_b, rok_y, strF, fput_1, fput_2, csum_nil, csum_i, csum_l, csum_r, va_up_self, bx_uu, Int.reduceAdd, List.elem_nil, List.elem_cons, List.take_succ_cons, List.take_zero, List.drop_succ_cons, List.drop_zero, List.take_nil, List.drop_nil, List.reverse_cons, List.reverse_nil, List.nil_append, List.cons_append, List.append_nil, Option.toList_some, Option.toList_none, List.getElem?_cons_zero, List.getElem?_cons_succ, List.set_cons_zero, List.set_cons_succ, List.length_cons, List.length_nil, reduceIte, reduceCtorEq, and_true, true_and, and_self, or_true, true_or, false_and, and_false, not_true_eq_false, not_false_eq_true, true_implies, false_implies, implies_true, Nat.reduceAdd, Nat.reduceLT, Nat.reduceEqDiff, Nat.reduceLeDiff, Nat.reduceBEq, Nat.zero_add, Nat.lt_add_one, Bool.false_eq_true, Bool.or_false, Bool.or_true, Bool.or_self, Nat.zero_ne_one, Nat.one_ne_zero, ite_true, ite_false, ne_eq, Nat.reduceSub, Nat.succ_eq_add_one, Nat.zero_lt_succ, Nat.add_one_ne_zero, false_or, or_false, mX7_isCollege_c, mX7_isCollege_n, mX7_isCollege_r, mX7_isCollege_l, dX7_isCollege_0, dX7_isCollege_1, ic_0, dX7_isCollege_2, fl_7_155_7, dX7_isCollege_5, dX7_isCollege_6, dX7_isCollege_7, fl_7_132_7, dX7_isCollege_10, dX7_isCollege_11, dX7_isCollege_14, tg_14_5, cnd1_ne, dX7_isCollege_17, dX7_isCollege_18, dX7_isCollege_19, dX7_isCollege_20, dX7_isCollege_23, dX7_isCollege_24, dX7_isCollege_25, bc_47, dX7_isCollege_27, tg_27_28, cnd2_ne, dX7_isCollege_30, dX7_isCollege_31, dX7_isCollege_34, ic_5, dX7_isCollege_35, tg_35_20, cnd2_ge, dX7_isCollege_38, dX7_isCollege_39, dX7_isCollege_42, tg_42_5, dX7_isCollege_45, dX7_isCollege_46, dX7_isCollege_47, dX7_isCollege_48, dX7_isCollege_51, dX7_isCollege_52, tg_52_m28, dX7_isCollege_55, dX7_isCollege_56, bc_59, dX7_isCollege_58, tg_58_21, dX7_isCollege_61, dX7_isCollege_62, dX7_isCollege_65, tg_65_14, cnd1_le, dX7_isCollege_68, dX7_isCollege_69, dX7_isCollege_72, tg_72_7, cnd1_eq, dX7_isCollege_75, ic_1, dX7_isCollege_76, tg_76_4, dX7_isCollege_79, dX7_isCollege_80, jX7_isCollege_0_162, jX7_isCollege_0_142, jX7_isCollege_0_166, jX7_isCollege_0_169, st_aload_n, st_bipush, st_getfield, st_goto, st_iconst, st_ifCond, st_if_icmp, st_iload_n, st_invokevirtual, st_ireturn, st_istore_n, st_putfield]
        refine ⟨fun c2 => ?_, fun c2 => ?_⟩
        · obtain ⟨b20, bPA⟩ := bT c2
          rw [if_pos c2] at hpp
          have hT5 := (hF4.tr hF5).rt hT
          refine ⟨l, len, o.2.2.2.2, lab, (a, ad), s5, rfl, hM5, ⟨b20, hle1, hT5⟩, ?_⟩
          rintro σ6 s6 r6 ⟨hs6, rfl⟩ hf6 hM6
          have hi := ih o.2 (nx l len o.2.2.2.2) s6 σ6 (by rw [hPP c2]; omega) hle1 rfl hpp (by rw [hs6]; exact bPA) (by rw [hs6]; rfl) (by rw [hs6]; rfl) (by rw [hs6]; exact b22.trans f22) (by rw [hs6]; exact (hF4.tr hF5).tr nxS_fp) ((hf4.tr hf5).tr hf6) hM6
          refine yvc_ok (uX7_isCollege Γ) (S := [24, 55]) 60 _ _ _ _ ?_
          simp only [yvc_s, s1i, s2i, s1l, s2l, sil, s1r, sir, siir, slir, srir, svr, sd1, sd2, lg, lput, ldel, isL_i, isL_r, isL_l, jmp, obj, obj1, fI, fR, arI, arL, arR, hput, f4_0, f4_1, f4_2, f4_3, lc_0, lc_1, rok_i, rok_b, rok_y, strF, fput_1, fput_2, csum_nil, csum_i, csum_l, csum_r, va_up_self, bx_uu, Int.reduceAdd, List.elem_nil, List.elem_cons, List.take_succ_cons, List.take_zero, List.drop_succ_cons, List.drop_zero, List.take_nil, List.drop_nil, List.reverse_cons, List.reverse_nil, List.nil_append, List.cons_append, List.append_nil, Option.toList_some, Option.toList_none, List.getElem?_cons_zero, List.getElem?_cons_succ, List.set_cons_zero, List.set_cons_succ, List.length_cons, List.length_nil, reduceIte, reduceCtorEq, and_true, true_and, and_self, or_true, true_or, false_and, and_false, not_true_eq_false, not_false_eq_true, true_implies, false_implies, implies_true, Nat.reduceAdd, Nat.reduceLT, Nat.reduceEqDiff, Nat.reduceLeDiff, Nat.reduceBEq, Nat.zero_add, Nat.lt_add_one, Bool.false_eq_true, Bool.or_false, Bool.or_true, Bool.or_self, Nat.zero_ne_one, Nat.one_ne_zero, ite_true, ite_false, ne_eq, Nat.reduceSub, Nat.succ_eq_add_one, Nat.zero_lt_succ, Nat.add_one_ne_zero, false_or, or_false, mX7_isCollege_c, mX7_isCollege_n, mX7_isCollege_r, mX7_isCollege_l, dX7_isCollege_0, dX7_isCollege_1, ic_0, dX7_isCollege_2, fl_7_155_7, dX7_isCollege_5, dX7_isCollege_6, dX7_isCollege_7, fl_7_132_7, dX7_isCollege_10, dX7_isCollege_11, dX7_isCollege_14, tg_14_5, cnd1_ne, dX7_isCollege_17, dX7_isCollege_18, dX7_isCollege_19, dX7_isCollege_20, dX7_isCollege_23, dX7_isCollege_24, dX7_isCollege_25, bc_47, dX7_isCollege_27, tg_27_28, cnd2_ne, dX7_isCollege_30, dX7_isCollege_31, dX7_isCollege_34, ic_5, dX7_isCollege_35, tg_35_20, cnd2_ge, dX7_isCollege_38, dX7_isCollege_39, dX7_isCollege_42, tg_42_5, dX7_isCollege_45, dX7_isCollege_46, dX7_isCollege_47, dX7_isCollege_48, dX7_isCollege_51, dX7_isCollege_52, tg_52_m28, dX7_isCollege_55, dX7_isCollege_56, bc_59, dX7_isCollege_58, tg_58_21, dX7_isCollege_61, dX7_isCollege_62, dX7_isCollege_65, tg_65_14, cnd1_le, dX7_isCollege_68, dX7_isCollege_69, dX7_isCollege_72, tg_72_7, cnd1_eq, dX7_isCollege_75, ic_1, dX7_isCollege_76, tg_76_4, dX7_isCollege_79, dX7_isCollege_80, jX7_isCollege_0_162, jX7_isCollege_0_142, jX7_isCollege_0_166, jX7_isCollege_0_169, st_aload_n, st_bipush, st_getfield, st_goto, st_iconst, st_ifCond, st_if_icmp, st_iload_n, st_invokevirtual, st_ireturn, st_istore_n, st_putfield]
          exact hi
        · have c2 := Bool.not_eq_true _ ▸ c2
          rw [if_neg (by rw [c2]; decide)] at hpp
          subst hpp
          rcases hR with ⟨-, hok, hp⟩ | ⟨z, -⟩
          · exact hno σ5 s5 hok (hF4.tr hF5) (by rw [hp]; exact b21 c2) (hf4.tr hf5) hM5
          · simp only [okP, Bool.false_and] at z
            cases z
  have hT3 := hF3.rt hT
  refine yvc1_ok (uX7_isCollege Γ) (S := [19]) 60 ?_
  simp only [yvc1, yvc_s, s1i, s2i, s1l, s2l, sil, s1r, sir, siir, slir, srir, svr, sd1, sd2, lg, lput, ldel, isL_i, isL_r, isL_l, jmp, obj, obj1, fI, fR, arI, arL, arR, hput, f4_0, f4_1, f4_2, f4_3, lc_0, lc_1, rok_i, rok_b, rok_y, strF, fput_1, fput_2, csum_nil, csum_i, csum_l, csum_r, va_up_self, bx_uu, Int.reduceAdd, List.elem_nil, List.elem_cons, List.take_succ_cons, List.take_zero, List.drop_succ_cons, List.drop_zero, List.take_nil, List.drop_nil, List.reverse_cons, List.reverse_nil, List.nil_append, List.cons_append, List.append_nil, Option.toList_some, Option.toList_none, List.getElem?_cons_zero, List.getElem?_cons_succ, List.set_cons_zero, List.set_cons_succ, List.length_cons, List.length_nil, reduceIte, reduceCtorEq, and_true, true_and, and_self, or_true, true_or, false_and, and_false, not_true_eq_false, not_false_eq_true, true_implies, false_implies, implies_true, Nat.reduceAdd, Nat.reduceLT, Nat.reduceEqDiff, Nat.reduceLeDiff, Nat.reduceBEq, Nat.zero_add, Nat.lt_add_one, Bool.false_eq_true, Bool.or_false, Bool.or_true, Bool.or_self, Nat.zero_ne_one, Nat.one_ne_zero, ite_true, ite_false, ne_eq, Nat.reduceSub, Nat.succ_eq_add_one, Nat.zero_lt_succ, Nat.add_one_ne_zero, false_or, or_false, mX7_isCollege_c, mX7_isCollege_n, mX7_isCollege_r, mX7_isCollege_l, dX7_isCollege_0, dX7_isCollege_1, ic_0, dX7_isCollege_2, fl_7_155_7, dX7_isCollege_5, dX7_isCollege_6, dX7_isCollege_7, fl_7_132_7, dX7_isCollege_10, dX7_isCollege_11, dX7_isCollege_14, tg_14_5, cnd1_ne, dX7_isCollege_17, dX7_isCollege_18, dX7_isCollege_19, dX7_isCollege_20, dX7_isCollege_23, dX7_isCollege_24, dX7_isCollege_25, bc_47, dX7_isCollege_27, tg_27_28, cnd2_ne, dX7_isCollege_30, dX7_isCollege_31, dX7_isCollege_34, ic_5, dX7_isCollege_35, tg_35_20, cnd2_ge, dX7_isCollege_38, dX7_isCollege_39, dX7_isCollege_42, tg_42_5, dX7_isCollege_45, dX7_isCollege_46, dX7_isCollege_47, dX7_isCollege_48, dX7_isCollege_51, dX7_isCollege_52, tg_52_m28, dX7_isCollege_55, dX7_isCollege_56, bc_59, dX7_isCollege_58, tg_58_21, dX7_isCollege_61, dX7_isCollege_62, dX7_isCollege_65, tg_65_14, cnd1_le, dX7_isCollege_68, dX7_isCollege_69, dX7_isCollege_72, tg_72_7, cnd1_eq, dX7_isCollege_75, ic_1, dX7_isCollege_76, tg_76_4, dX7_isCollege_79, dX7_isCollege_80, jX7_isCollege_0_162, jX7_isCollege_0_142, jX7_isCollege_0_166, jX7_isCollege_0_169, st_aload_n, st_bipush, st_getfield, st_goto, st_iconst, st_ifCond, st_if_icmp, st_iload_n, st_invokevirtual, st_ireturn, st_istore_n, st_putfield]
  refine ⟨l, len, pos0, lab, (a, ad), s3, rfl, hM3, ⟨k20, hle, hT3⟩, ?_⟩
  rintro σ4 s4 r4 ⟨hs4, rfl⟩ hf4 hM4
  have hl := loop 5 (0, t.2.2.1, t.1, pos0) (nx l len pos0) s4 σ4 rfl hle rfl hr.symm (by rw [hs4]; exact ⟨k23, fun q hq => absurd hq (Nat.not_lt_zero _), fun q hq => absurd hq (Nat.not_lt_zero _), fun q hq => absurd hq (Nat.not_lt_zero _)⟩) (by rw [hs4]; rfl) (by rw [hs4]; rfl) (by rw [hs4]; exact k22) (by rw [hs4]; exact hF3.tr nxS_fp) (hf3.tr hf4) hM4
  refine yvc_ok (uX7_isCollege Γ) (S := [24]) 60 _ _ _ _ ?_
  simp only [yvc_s, s1i, s2i, s1l, s2l, sil, s1r, sir, siir, slir, srir, svr, sd1, sd2, lg, lput, ldel, isL_i, isL_r, isL_l, jmp, obj, obj1, fI, fR, arI, arL, arR, hput, f4_0, f4_1, f4_2, f4_3, lc_0, lc_1, rok_i, rok_b, rok_y, strF, fput_1, fput_2, csum_nil, csum_i, csum_l, csum_r, va_up_self, bx_uu, Int.reduceAdd, List.elem_nil, List.elem_cons, List.take_succ_cons, List.take_zero, List.drop_succ_cons, List.drop_zero, List.take_nil, List.drop_nil, List.reverse_cons, List.reverse_nil, List.nil_append, List.cons_append, List.append_nil, Option.toList_some, Option.toList_none, List.getElem?_cons_zero, List.getElem?_cons_succ, List.set_cons_zero, List.set_cons_succ, List.length_cons, List.length_nil, reduceIte, reduceCtorEq, and_true, true_and, and_self, or_true, true_or, false_and, and_false, not_true_eq_false, not_false_eq_true, true_implies, false_implies, implies_true, Nat.reduceAdd, Nat.reduceLT, Nat.reduceEqDiff, Nat.reduceLeDiff, Nat.reduceBEq, Nat.zero_add, Nat.lt_add_one, Bool.false_eq_true, Bool.or_false, Bool.or_true, Bool.or_self, Nat.zero_ne_one, Nat.one_ne_zero, ite_true, ite_false, ne_eq, Nat.reduceSub, Nat.succ_eq_add_one, Nat.zero_lt_succ, Nat.add_one_ne_zero, false_or, or_false, mX7_isCollege_c, mX7_isCollege_n, mX7_isCollege_r, mX7_isCollege_l, dX7_isCollege_0, dX7_isCollege_1, ic_0, dX7_isCollege_2, fl_7_155_7, dX7_isCollege_5, dX7_isCollege_6, dX7_isCollege_7, fl_7_132_7, dX7_isCollege_10, dX7_isCollege_11, dX7_isCollege_14, tg_14_5, cnd1_ne, dX7_isCollege_17, dX7_isCollege_18, dX7_isCollege_19, dX7_isCollege_20, dX7_isCollege_23, dX7_isCollege_24, dX7_isCollege_25, bc_47, dX7_isCollege_27, tg_27_28, cnd2_ne, dX7_isCollege_30, dX7_isCollege_31, dX7_isCollege_34, ic_5, dX7_isCollege_35, tg_35_20, cnd2_ge, dX7_isCollege_38, dX7_isCollege_39, dX7_isCollege_42, tg_42_5, dX7_isCollege_45, dX7_isCollege_46, dX7_isCollege_47, dX7_isCollege_48, dX7_isCollege_51, dX7_isCollege_52, tg_52_m28, dX7_isCollege_55, dX7_isCollege_56, bc_59, dX7_isCollege_58, tg_58_21, dX7_isCollege_61, dX7_isCollege_62, dX7_isCollege_65, tg_65_14, cnd1_le, dX7_isCollege_68, dX7_isCollege_69, dX7_isCollege_72, tg_72_7, cnd1_eq, dX7_isCollege_75, ic_1, dX7_isCollege_76, tg_76_4, dX7_isCollege_79, dX7_isCollege_80, jX7_isCollege_0_162, jX7_isCollege_0_142, jX7_isCollege_0_166, jX7_isCollege_0_169, st_aload_n, st_bipush, st_getfield, st_goto, st_iconst, st_ifCond, st_if_icmp, st_iload_n, st_invokevirtual, st_ireturn, st_istore_n, st_putfield]
  exact hl
