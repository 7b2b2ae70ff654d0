/-! ===== YawnKeysModel: doors, a day ===== -/
theorem Mod.neA {Γ : Cx} {lab : Nat → Nat} {A : Nat × (Nat → Nat)} {s : MS} {σ : Hp} (h : Mod Γ lab A s σ) {k : Nat} (hk : isA k = true) (f : Nat → va_E) (x : va_E) : va_up f (A.2 k) x A.1 = f A.1 := va_up_ne f x (ne_of h.2.1 (h.2.2.2.1 k hk).2.2 mE_iA)
theorem Mod.neO {Γ : Cx} {lab : Nat → Nat} {A : Nat × (Nat → Nat)} {s : MS} {σ : Hp} (h : Mod Γ lab A s σ) {k : Nat} (hk : isA k = true) (f : Nat → va_E) (x : va_E) : va_up f A.1 x (A.2 k) = f (A.2 k) := va_up_ne f x (fun e => ne_of h.2.1 (h.2.2.2.1 k hk).2.2 mE_iA e.symm)
def sp_X7_goDoor (Γ : Cx) : YSp := fun av σ K => ∃ (d : Nat) (c : CS), mq Γ [.int (nI d)] (fun s => SD s c ∧ WfC c ∧ WR c.2.2.2.2.2.2.1 c.1 ∧ d < 4 ∧ s.1 19 = c.2.2.2.2.2.2.2.2) (fun s s' r => SFr s s' ∧ SD s' (t1 c d) ∧ s'.1 19 = (t1 c d).2.2.2.2.2.2.2.2 ∧ r = none) av σ K
theorem rv_X7_goDoor {Γ : Cx} : Recv (sp_X7_goDoor Γ) 1 7 := by
  intro av σ K h
  obtain ⟨d, c, h⟩ := h
  obtain ⟨q, fs, h1, h2, h3⟩ := rv_mq h
  exact ⟨q, _, fs, h1, rfl, h2, h3⟩
theorem bw_851 : Cond.code yX7_leastOf cX7_leastOf 4 (some .int) ∈ BW := bw_i 851 (by decide +kernel) (by decide +kernel)
theorem no_X7_leastOf : NameOK yX7_leastOf 1 := by unfold NameOK; decide +kernel
theorem bw_848 : Cond.methodLink RX7 82 yX7_leastOf ∈ BW := bw_i 848 (by decide +kernel) (by decide +kernel)
theorem bw_850 : Cond.instanceMethod yX7_leastOf ∈ BW := bw_i 850 (by decide +kernel) (by decide +kernel)
theorem bw_21 : Cond.selects RX7 yX7_leastOf yX7_leastOf ∈ BW := bw_i 21 (by decide +kernel) (by decide +kernel)
theorem tg_13_4 : tgo 13 4 = some 17 := by decide
theorem tg_33_40 : tgo 33 40 = some 73 := by decide
theorem bc_25 : (Int8.ofInt 25).toInt32 = 25 := by decide
theorem tg_70_34 : tgo 70 34 = some 104 := by decide
theorem tg_87_17 : tgo 87 17 = some 104 := by decide
def mX7_goDoor : Mt := (⟨1, 0, 0, 23⟩, RX7, cX7_goDoor, 3, none, (0, 0), none)
theorem mX7_goDoor_c : mX7_goDoor.2.2.1 = cX7_goDoor := rfl
theorem mX7_goDoor_n : mX7_goDoor.2.2.2.1 = 3 := rfl
theorem mX7_goDoor_r : mX7_goDoor.2.2.2.2.1 = none := rfl
theorem mX7_goDoor_l : mX7_goDoor.2.2.2.2.2.2 = none := rfl
def jX7_goDoor (Γ : Cx) : List ((Nat × Nat) × Nat × Bool × YSp) := [((0, 82), 2, false, sp_X7_leastOf Γ)]
theorem jX7_goDoor_0_82 (Γ : Cx) : kT (jX7_goDoor Γ) 0 82 = some (2, false, sp_X7_leastOf Γ) := rfl
theorem uX7_goDoor (Γ : Cx) : TbOK Γ mX7_goDoor (fT fX7, cT kX7, kT (jX7_goDoor Γ)) := tb_ok fX7_ok kX7_ok (all_cons ⟨call_V (n := 1) (T := TX7) (N := 26) (ok_X7_leastOf Γ) (rv_X7_leastOf (Γ := Γ)) rfl bw_851 bw_848 bw_850 bw_21 bw_49 no_X7_leastOf ⟨⟨rfl, rfl⟩, ⟨by decide, by decide⟩, ⟨by decide, by decide⟩⟩, fun z => by cases z⟩ (all_nil))
set_option maxRecDepth 20000 in
theorem ok_X7_goDoor (Γ : Cx) : Ok Γ yX7_goDoor mX7_goDoor (sp_X7_goDoor Γ) := by
  refine ok_intro (by decide +kernel) rfl rfl ?_
  intro av σ K h
  obtain ⟨d, c, lab, ⟨a, ad⟩, ⟨sc, ar, it⟩, rfl, hM, ⟨hS, hW, hR, hd, hg⟩, h⟩ := h
  simp only at h hM hg
  obtain ⟨⟨m1, -⟩, e1, -⟩ := id hM
  obtain ⟨m4, e4⟩ := hM.arr 4 rfl
  simp only [ME, iA, lenM] at m1 e1 m4 e4
  have hrow := id hS.2
  have hP := hW.1
  have hrule : sc 1 = c.2.2.2.2.2.2.2.1 := hS.1.2.1
  simp only [mom] at hrow
  obtain ⟨i1, i2⟩ := ix20 hd
  have hkp : ar 4 (20 + d) = c.2.1 d := hrow.2.1 d hd
  have n1 := fun f x => hM.neA (k := 4) rfl f x
  simp only at n1
  refine ⟨Nat.le_of_ble_eq_true rfl, yvc_ok (uX7_goDoor Γ) (S := [17]) 60 _ _ _ _ ?_⟩
  simp only [lv_args, Value.category, m1, e1, m4, e4, i1, i2, hkp, yvc_s, s1i, s2i, s1l, s2l, sil, s1r, sir, siir, slir, srir, svr, sd1, sd2, lg, lput, ldel, isL_i, isL_r, isL_l, jmp, obj, obj1, fI, fR, arI, arL, arR, hput, f4_0, f4_1, f4_2, f4_3, lc_0, lc_1, rok_i, rok_b, rok_y, strF, fput_1, fput_2, csum_nil, csum_i, csum_l, csum_r, va_up_self, bx_uu, Int.reduceAdd, List.elem_nil, List.elem_cons, List.take_succ_cons, List.take_zero, List.drop_succ_cons, List.drop_zero, List.take_nil, List.drop_nil, List.reverse_cons, List.reverse_nil, List.nil_append, List.cons_append, List.append_nil, Option.toList_some, Option.toList_none, List.getElem?_cons_zero, List.getElem?_cons_succ, List.set_cons_zero, List.set_cons_succ, List.length_cons, List.length_nil, reduceIte, reduceCtorEq, and_true, true_and, and_self, or_true, true_or, false_and, and_false, not_true_eq_false, not_false_eq_true, true_implies, false_implies, implies_true, Nat.reduceAdd, Nat.reduceLT, Nat.reduceEqDiff, Nat.reduceLeDiff, Nat.reduceBEq, Nat.zero_add, Nat.lt_add_one, Bool.false_eq_true, Bool.or_false, Bool.or_true, Bool.or_self, Nat.zero_ne_one, Nat.one_ne_zero, ite_true, ite_false, ne_eq, Nat.reduceSub, Nat.succ_eq_add_one, Nat.zero_lt_succ, Nat.add_one_ne_zero, false_or, or_false, mX7_goDoor_c, mX7_goDoor_n, mX7_goDoor_r, mX7_goDoor_l, dX7_goDoor_0, dX7_goDoor_1, fl_7_20_7, dX7_goDoor_4, bc_20, dX7_goDoor_6, dX7_goDoor_7, dX7_goDoor_8, dX7_goDoor_9, dX7_goDoor_10, dX7_goDoor_11, bc_m4, dX7_goDoor_13, tg_13_4, cnd2_ne, dX7_goDoor_16, dX7_goDoor_17, dX7_goDoor_18, dX7_goDoor_21, ic_4, dX7_goDoor_22, dX7_goDoor_23, dX7_goDoor_24, dX7_goDoor_25, dX7_goDoor_26, dX7_goDoor_27, dX7_goDoor_28, fl_7_7_7, dX7_goDoor_31, dX7_goDoor_32, dX7_goDoor_33, tg_33_40, cnd2_lt, dX7_goDoor_36, dX7_goDoor_37, dX7_goDoor_40, dX7_goDoor_41, dX7_goDoor_42, dX7_goDoor_43, dX7_goDoor_44, dX7_goDoor_45, ic_0, dX7_goDoor_46, dX7_goDoor_47, dX7_goDoor_48, dX7_goDoor_51, bc_25, dX7_goDoor_53, dX7_goDoor_54, dX7_goDoor_55, ic_1, dX7_goDoor_56, dX7_goDoor_57, dX7_goDoor_58, dX7_goDoor_59, dX7_goDoor_60, fl_7_79_7, dX7_goDoor_63, dX7_goDoor_64, dX7_goDoor_65, dX7_goDoor_66, dX7_goDoor_67, dX7_goDoor_70, tg_70_34, dX7_goDoor_73, dX7_goDoor_74, dX7_goDoor_77, dX7_goDoor_78, dX7_goDoor_79, dX7_goDoor_80, dX7_goDoor_81, dX7_goDoor_82, dX7_goDoor_83, dX7_goDoor_84, dX7_goDoor_87, tg_87_17, dX7_goDoor_90, dX7_goDoor_91, dX7_goDoor_94, dX7_goDoor_96, dX7_goDoor_97, dX7_goDoor_98, dX7_goDoor_99, dX7_goDoor_100, dX7_goDoor_103, dX7_goDoor_104, jX7_goDoor_0_82, st_aload_n, st_bipush, st_dup, st_dup2, st_getfield, st_goto, st_iadd, st_iaload, st_iastore, st_iconst, st_if_icmp, st_iload_n, st_imul, st_invokevirtual, st_ior, st_ishl, st_istore_n, st_putfield, st_return]
  refine ⟨fun z => ?_, fun z => ?_⟩
  · obtain ⟨q, hq, hk⟩ := (hW.2 d hd).resolve_left z
    obtain ⟨i3, i4⟩ := ix4 (show q < 5 by omega) hd
    have hw : ar 4 (4 * q + d) = c.1 (4 * q + d) := hrow.1 _ (by omega)
    have ht : t1 c d = tk c d := by unfold t1; rw [if_neg z]
    have hR1 := fun s' σ' h1 h2 h3 => h σ' s' none ⟨h1, h2, h3, rfl⟩
    rw [ht, tk, hk, ix_n (show q < 5 by omega) hd] at hR1
    rw [hk]
    have hx : (upd (ar 4) (4 * q + d) 0) 25 = c.2.2.2.2.1 := by rw [pk_un (by omega)]; exact hrow.2.2.2.1
    refine yvc1_ok (uX7_goDoor Γ) (S := [17]) 90 ?_
    simp only [yvc1, m1, e1, m4, e4, n1, i1, i2, i3, i4, hw, hrule, hx, in25_27, n25, yvc_s, s1i, s2i, s1l, s2l, sil, s1r, sir, siir, slir, srir, svr, sd1, sd2, lg, lput, ldel, isL_i, isL_r, isL_l, jmp, obj, obj1, fI, fR, arI, arL, arR, hput, f4_0, f4_1, f4_2, f4_3, lc_0, lc_1, rok_i, rok_b, rok_y, strF, fput_1, fput_2, csum_nil, csum_i, csum_l, csum_r, va_up_self, bx_uu, Int.reduceAdd, List.elem_nil, List.elem_cons, List.take_succ_cons, List.take_zero, List.drop_succ_cons, List.drop_zero, List.take_nil, List.drop_nil, List.reverse_cons, List.reverse_nil, List.nil_append, List.cons_append, List.append_nil, Option.toList_some, Option.toList_none, List.getElem?_cons_zero, List.getElem?_cons_succ, List.set_cons_zero, List.set_cons_succ, List.length_cons, List.length_nil, reduceIte, reduceCtorEq, and_true, true_and, and_self, or_true, true_or, false_and, and_false, not_true_eq_false, not_false_eq_true, true_implies, false_implies, implies_true, Nat.reduceAdd, Nat.reduceLT, Nat.reduceEqDiff, Nat.reduceLeDiff, Nat.reduceBEq, Nat.zero_add, Nat.lt_add_one, Bool.false_eq_true, Bool.or_false, Bool.or_true, Bool.or_self, Nat.zero_ne_one, Nat.one_ne_zero, ite_true, ite_false, ne_eq, Nat.reduceSub, Nat.succ_eq_add_one, Nat.zero_lt_succ, Nat.add_one_ne_zero, false_or, or_false, mX7_goDoor_c, mX7_goDoor_n, mX7_goDoor_r, mX7_goDoor_l, dX7_goDoor_0, dX7_goDoor_1, fl_7_20_7, dX7_goDoor_4, bc_20, dX7_goDoor_6, dX7_goDoor_7, dX7_goDoor_8, dX7_goDoor_9, dX7_goDoor_10, dX7_goDoor_11, bc_m4, dX7_goDoor_13, tg_13_4, cnd2_ne, dX7_goDoor_16, dX7_goDoor_17, dX7_goDoor_18, dX7_goDoor_21, ic_4, dX7_goDoor_22, dX7_goDoor_23, dX7_goDoor_24, dX7_goDoor_25, dX7_goDoor_26, dX7_goDoor_27, dX7_goDoor_28, fl_7_7_7, dX7_goDoor_31, dX7_goDoor_32, dX7_goDoor_33, tg_33_40, cnd2_lt, dX7_goDoor_36, dX7_goDoor_37, dX7_goDoor_40, dX7_goDoor_41, dX7_goDoor_42, dX7_goDoor_43, dX7_goDoor_44, dX7_goDoor_45, ic_0, dX7_goDoor_46, dX7_goDoor_47, dX7_goDoor_48, dX7_goDoor_51, bc_25, dX7_goDoor_53, dX7_goDoor_54, dX7_goDoor_55, ic_1, dX7_goDoor_56, dX7_goDoor_57, dX7_goDoor_58, dX7_goDoor_59, dX7_goDoor_60, fl_7_79_7, dX7_goDoor_63, dX7_goDoor_64, dX7_goDoor_65, dX7_goDoor_66, dX7_goDoor_67, dX7_goDoor_70, tg_70_34, dX7_goDoor_73, dX7_goDoor_74, dX7_goDoor_77, dX7_goDoor_78, dX7_goDoor_79, dX7_goDoor_80, dX7_goDoor_81, dX7_goDoor_82, dX7_goDoor_83, dX7_goDoor_84, dX7_goDoor_87, tg_87_17, dX7_goDoor_90, dX7_goDoor_91, dX7_goDoor_94, dX7_goDoor_96, dX7_goDoor_97, dX7_goDoor_98, dX7_goDoor_99, dX7_goDoor_100, dX7_goDoor_103, dX7_goDoor_104, jX7_goDoor_0_82, st_aload_n, st_bipush, st_dup, st_dup2, st_getfield, st_goto, st_iadd, st_iaload, st_iastore, st_iconst, st_if_icmp, st_iload_n, st_imul, st_invokevirtual, st_ior, st_ishl, st_istore_n, st_putfield, st_return]
    refine ⟨fun y => ?_, fun y => ?_⟩
    · rw [if_pos y] at hR1
      refine ⟨fun x => ?_, fun x => ?_⟩
      · rw [if_pos x] at hR1
        exact hR1 _ _ SFr.rf hS hg frm.rf hM
      · rw [if_neg x] at hR1
        refine ⟨d, c, lab, (a, ad), (sc, ar, it), rfl, hM, ⟨hS, hW, hR, hd⟩, ?_⟩
        have hM2 := hM.putA (k := 4) rfl (upd (ar 4) (20 + d) (lst c.1 (nI d) c.2.2.2.2.2.2.1).1)
        have hk2 := hR1 _ _ SFr.side (hS.fr SFr.side rfl rfl rfl (by simp only [updA_at]; exact hS.2.k hP hd _)) hg (hM.frA (k := 4) rfl) hM2
        simp only [iA, lenM, hput] at hk2
        refine yvc_ok (uX7_goDoor Γ) (S := [17]) 60 _ _ _ _ ?_
        simp only [m4, e4, i1, i2, yvc_s, s1i, s2i, s1l, s2l, sil, s1r, sir, siir, slir, srir, svr, sd1, sd2, lg, lput, ldel, isL_i, isL_r, isL_l, jmp, obj, obj1, fI, fR, arI, arL, arR, hput, f4_0, f4_1, f4_2, f4_3, lc_0, lc_1, rok_i, rok_b, rok_y, strF, fput_1, fput_2, csum_nil, csum_i, csum_l, csum_r, va_up_self, bx_uu, Int.reduceAdd, List.elem_nil, List.elem_cons, List.take_succ_cons, List.take_zero, List.drop_succ_cons, List.drop_zero, List.take_nil, List.drop_nil, List.reverse_cons, List.reverse_nil, List.nil_append, List.cons_append, List.append_nil, Option.toList_some, Option.toList_none, List.getElem?_cons_zero, List.getElem?_cons_succ, List.set_cons_zero, List.set_cons_succ, List.length_cons, List.length_nil, reduceIte, reduceCtorEq, and_true, true_and, and_self, or_true, true_or, false_and, and_false, not_true_eq_false, not_false_eq_true, true_implies, false_implies, implies_true, Nat.reduceAdd, Nat.reduceLT, Nat.reduceEqDiff, Nat.reduceLeDiff, Nat.reduceBEq, Nat.zero_add, Nat.lt_add_one, Bool.false_eq_true, Bool.or_false, Bool.or_true, Bool.or_self, Nat.zero_ne_one, Nat.one_ne_zero, ite_true, ite_false, ne_eq, Nat.reduceSub, Nat.succ_eq_add_one, Nat.zero_lt_succ, Nat.add_one_ne_zero, false_or, or_false, mX7_goDoor_c, mX7_goDoor_n, mX7_goDoor_r, mX7_goDoor_l, dX7_goDoor_0, dX7_goDoor_1, fl_7_20_7, dX7_goDoor_4, bc_20, dX7_goDoor_6, dX7_goDoor_7, dX7_goDoor_8, dX7_goDoor_9, dX7_goDoor_10, dX7_goDoor_11, bc_m4, dX7_goDoor_13, tg_13_4, cnd2_ne, dX7_goDoor_16, dX7_goDoor_17, dX7_goDoor_18, dX7_goDoor_21, ic_4, dX7_goDoor_22, dX7_goDoor_23, dX7_goDoor_24, dX7_goDoor_25, dX7_goDoor_26, dX7_goDoor_27, dX7_goDoor_28, fl_7_7_7, dX7_goDoor_31, dX7_goDoor_32, dX7_goDoor_33, tg_33_40, cnd2_lt, dX7_goDoor_36, dX7_goDoor_37, dX7_goDoor_40, dX7_goDoor_41, dX7_goDoor_42, dX7_goDoor_43, dX7_goDoor_44, dX7_goDoor_45, ic_0, dX7_goDoor_46, dX7_goDoor_47, dX7_goDoor_48, dX7_goDoor_51, bc_25, dX7_goDoor_53, dX7_goDoor_54, dX7_goDoor_55, ic_1, dX7_goDoor_56, dX7_goDoor_57, dX7_goDoor_58, dX7_goDoor_59, dX7_goDoor_60, fl_7_79_7, dX7_goDoor_63, dX7_goDoor_64, dX7_goDoor_65, dX7_goDoor_66, dX7_goDoor_67, dX7_goDoor_70, tg_70_34, dX7_goDoor_73, dX7_goDoor_74, dX7_goDoor_77, dX7_goDoor_78, dX7_goDoor_79, dX7_goDoor_80, dX7_goDoor_81, dX7_goDoor_82, dX7_goDoor_83, dX7_goDoor_84, dX7_goDoor_87, tg_87_17, dX7_goDoor_90, dX7_goDoor_91, dX7_goDoor_94, dX7_goDoor_96, dX7_goDoor_97, dX7_goDoor_98, dX7_goDoor_99, dX7_goDoor_100, dX7_goDoor_103, dX7_goDoor_104, jX7_goDoor_0_82, st_aload_n, st_bipush, st_dup, st_dup2, st_getfield, st_goto, st_iadd, st_iaload, st_iastore, st_iconst, st_if_icmp, st_iload_n, st_imul, st_invokevirtual, st_ior, st_ishl, st_istore_n, st_putfield, st_return]
        exact hk2
    · rw [if_neg y] at hR1
      have hM2 := (hM.putA (k := 4) rfl (upd (upd (ar 4) (4 * q + d) 0) 25 (c.2.2.2.2.1 + 1))).putO (upd sc 19 (sc 19 ||| (1 <<< (nI d &&& 31))))
      have hfr : SFr (sc, ar, it) (upd sc 19 (sc 19 ||| (1 <<< (nI d &&& 31))), updA ar 4 (upd (upd (ar 4) (4 * q + d) 0) 25 (c.2.2.2.2.1 + 1)), it) := SFr.side.tr SFr.gn
      have hk2 := hR1 _ _ hfr (hS.fr hfr rfl rfl rfl (by simp only [updA_at]; exact (hS.2.w hP (show 4 * q + d < 4 * c.2.2.2.2.2.2.1 by omega) 0).gone hP _)) (by simp only [pk_us, hg]) ((hM.frA (k := 4) rfl).tr (hM.putA (k := 4) rfl (upd (upd (ar 4) (4 * q + d) 0) 25 (c.2.2.2.2.1 + 1))).frO) hM2
      simp only [iA, lenM, hput, ME] at hk2
      rw [← hrule]
      exact hk2
  · have z := Classical.not_not.mp z
    have ht : t1 c d = c := by unfold t1; rw [if_pos z]
    rw [ht] at h
    exact h σ _ none ⟨SFr.rf, hS, hg, rfl⟩ frm.rf hM

/-- the side row is this college, somewhere in a day -/
def SJ (s : MS) (c : CS) : Prop := SD s c ∧ WfC c ∧ WR c.2.2.2.2.2.2.1 c.1
def dayK (c : CS) : Prop := ∃ D, CJ D c ∧ D < 2 ^ 30
theorem row0 {c : CS} : mom (gd0 c) = mom c := rfl
def sp_X7_goDay (Γ : Cx) : YSp := fun av σ K => ∃ c : CS, mq Γ [] (fun s => SD s c ∧ dayK c) (fun s s' r => SFr s s' ∧ SD s' (dayC c) ∧ s'.1 19 = (dayC c).2.2.2.2.2.2.2.2 ∧ r = none) av σ K
theorem rv_X7_goDay {Γ : Cx} : Recv (sp_X7_goDay Γ) 0 7 := by
  intro av σ K h
  obtain ⟨c, h⟩ := h
  obtain ⟨q, fs, h1, h2, h3⟩ := rv_mq h
  exact ⟨q, _, fs, h1, rfl, h2, h3⟩
theorem bw_839 : Cond.code yX7_more cX7_more 6 (some .int) ∈ BW := bw_i 839 (by decide +kernel) (by decide +kernel)
theorem no_X7_more : NameOK yX7_more 2 := by unfold NameOK; decide +kernel
theorem bw_836 : Cond.methodLink RX7 85 yX7_more ∈ BW := bw_i 836 (by decide +kernel) (by decide +kernel)
theorem bw_838 : Cond.instanceMethod yX7_more ∈ BW := bw_i 838 (by decide +kernel) (by decide +kernel)
theorem bw_18 : Cond.selects RX7 yX7_more yX7_more ∈ BW := bw_i 18 (by decide +kernel) (by decide +kernel)
theorem bw_920 : Cond.code yX7_talkTo cX7_talkTo 5 none ∈ BW := bw_i 920 (by decide +kernel) (by decide +kernel)
theorem no_X7_talkTo : NameOK yX7_talkTo 3 := by unfold NameOK; decide +kernel
theorem bw_917 : Cond.methodLink RX7 89 yX7_talkTo ∈ BW := bw_i 917 (by decide +kernel) (by decide +kernel)
theorem bw_919 : Cond.instanceMethod yX7_talkTo ∈ BW := bw_i 919 (by decide +kernel) (by decide +kernel)
theorem bw_31 : Cond.selects RX7 yX7_talkTo yX7_talkTo ∈ BW := bw_i 31 (by decide +kernel) (by decide +kernel)
theorem bw_924 : Cond.code yX7_goDoor cX7_goDoor 3 none ∈ BW := bw_i 924 (by decide +kernel) (by decide +kernel)
theorem no_X7_goDoor : NameOK yX7_goDoor 1 := by unfold NameOK; decide +kernel
theorem bw_921 : Cond.methodLink RX7 93 yX7_goDoor ∈ BW := bw_i 921 (by decide +kernel) (by decide +kernel)
theorem bw_923 : Cond.instanceMethod yX7_goDoor ∈ BW := bw_i 923 (by decide +kernel) (by decide +kernel)
theorem bw_32 : Cond.selects RX7 yX7_goDoor yX7_goDoor ∈ BW := bw_i 32 (by decide +kernel) (by decide +kernel)
theorem tg_9_47 : tgo 9 47 = some 56 := by decide
theorem tg_32_17 : tgo 32 17 = some 49 := by decide
theorem tg_53_m46 : tgo 53 (-46) = some 7 := by decide
theorem tg_60_43 : tgo 60 43 = some 103 := by decide
theorem tg_74_23 : tgo 74 23 = some 97 := by decide
theorem tg_100_m42 : tgo 100 (-42) = some 58 := by decide
theorem tg_107_14 : tgo 107 14 = some 121 := by decide
theorem tg_118_m13 : tgo 118 (-13) = some 105 := by decide
def mX7_goDay : Mt := (⟨2, 0, 0, 48⟩, RX7, cX7_goDay, 2, none, (0, 0), none)
theorem mX7_goDay_c : mX7_goDay.2.2.1 = cX7_goDay := rfl
theorem mX7_goDay_n : mX7_goDay.2.2.2.1 = 2 := rfl
theorem mX7_goDay_r : mX7_goDay.2.2.2.2.1 = none := rfl
theorem mX7_goDay_l : mX7_goDay.2.2.2.2.2.2 = none := rfl
def jX7_goDay (Γ : Cx) : List ((Nat × Nat) × Nat × Bool × YSp) := [((0, 85), 3, false, sp_X7_more Γ), ((0, 89), 4, false, sp_X7_talkTo Γ), ((0, 93), 2, false, sp_X7_goDoor Γ)]
theorem jX7_goDay_0_85 (Γ : Cx) : kT (jX7_goDay Γ) 0 85 = some (3, false, sp_X7_more Γ) := rfl
theorem jX7_goDay_0_89 (Γ : Cx) : kT (jX7_goDay Γ) 0 89 = some (4, false, sp_X7_talkTo Γ) := rfl
theorem jX7_goDay_0_93 (Γ : Cx) : kT (jX7_goDay Γ) 0 93 = some (2, false, sp_X7_goDoor Γ) := rfl
theorem uX7_goDay (Γ : Cx) : TbOK Γ mX7_goDay (fT fX7, cT kX7, kT (jX7_goDay Γ)) := tb_ok fX7_ok kX7_ok (all_cons ⟨call_V (n := 2) (T := TX7) (N := 26) (ok_X7_more Γ) (rv_X7_more (Γ := Γ)) rfl bw_839 bw_836 bw_838 bw_18 bw_49 no_X7_more ⟨⟨rfl, rfl⟩, ⟨by decide, by decide⟩, ⟨by decide, by decide⟩⟩, fun z => by cases z⟩ (all_cons ⟨call_V (n := 3) (T := TX7) (N := 26) (ok_X7_talkTo Γ) (rv_X7_talkTo (Γ := Γ)) rfl bw_920 bw_917 bw_919 bw_31 bw_49 no_X7_talkTo ⟨⟨rfl, rfl⟩, ⟨by decide, by decide⟩, ⟨by decide, by decide⟩⟩, fun z => by cases z⟩ (all_cons ⟨call_V (n := 1) (T := TX7) (N := 26) (ok_X7_goDoor Γ) (rv_X7_goDoor (Γ := Γ)) rfl bw_924 bw_921 bw_923 bw_32 bw_49 no_X7_goDoor ⟨⟨rfl, rfl⟩, ⟨by decide, by decide⟩, ⟨by decide, by decide⟩⟩, fun z => by cases z⟩ (all_nil))))
def mrs (c : CS) (f : Nat → Int32) : Nat → Nat → Int32
  | 0 => f
  | n + 1 => upd (mrs c f n) n (growth c n)
theorem mrs_at {c : CS} {f : Nat → Int32} : ∀ {n j : Nat}, j < n → mrs c f n j = growth c j
  | 0, _, h => absurd h (by omega)
  | n + 1, j, h => by
    rw [mrs]
    by_cases e : j = n
    · subst e; rw [pk_us]
    · rw [pk_un e]; exact mrs_at (by omega)
theorem g1_neg {s : CS} {d : Nat} (h : ¬ s.2.1 d = -4) : g1 s d = (wmore s.1 (s.2.1 d) (nI d) (growth s d), s.2) := by unfold g1; rw [if_neg h]
theorem g1_pos {s : CS} {d : Nat} (h : s.2.1 d = -4) : g1 s d = s := by unfold g1; rw [if_pos h]
set_option maxRecDepth 20000 in
theorem ok_X7_goDay (Γ : Cx) : Ok Γ yX7_goDay mX7_goDay (sp_X7_goDay Γ) := by
  refine ok_intro (by decide +kernel) rfl rfl ?_
  intro av σ K h
  obtain ⟨c, lab, ⟨a, ad⟩, s, rfl, hM, ⟨hS, D, hJ, hD⟩, h⟩ := h
  simp only at h
  have hP := hJ.1.1
  -- the tests
  have loop3 : ∀ n j : Nat, j + n = 4 → ∀ (s1 : MS) (σ1 : Hp), frm (fL lab 30) σ σ1 → Mod Γ lab (a, ad) s1 σ1 → SFr s s1 → SD s1 (tN (gd0 (gN c 4)) j) → s1.1 19 = (tN (gd0 (gN c 4)) j).2.2.2.2.2.2.2.2 → YG Γ mX7_goDay K 105 [(0, .ref a), (1, .int (nI j))] [] σ1 := by
    have hdef : dayC c = dayUp (tN (gd0 (gN c 4)) 4) := by unfold dayC; rfl
    rw [hdef] at h
    have h0 : WfC (gd0 (gN c 4)) ∧ WR (gd0 (gN c 4)).2.2.2.2.2.2.1 (gd0 (gN c 4)).1 := by
      have a1 := gN_wf hJ.1 4
      have a2 := gN_wr hJ.1 hJ.2.1 4 (Nat.le_refl _)
      have a3 := gN_eq c 4
      generalize gN c 4 = y at a1 a2 a3 ⊢
      refine ⟨gd0_wf a1, ?_⟩
      show WR y.2.2.2.2.2.2.1 y.1
      rw [a3]
      exact a2
    generalize gd0 (gN c 4) = y at h h0 ⊢
    intro n
    induction n with
    | zero =>
      intro j hj s1 σ1 hf hM1 hF hS1 hg1
      obtain rfl : j = 4 := by omega
      have hP1 := (tN_wf h0.1 4).1.1
      generalize tN y 4 = z at h hS1 hg1 hP1
      obtain ⟨sc, ar, it⟩ := s1
      simp only at hg1
      have hM2 := hM1.putA (k := 4) rfl (upd (ar 4) 24 (ar 4 24 + 1))
      have h24 : ar 4 24 = z.2.2.2.1 := hS1.2.2.2.1
      have hk := h _ _ none ⟨hF.tr SFr.side, hS1.fr (c' := dayUp z) SFr.side rfl rfl rfl (by simp only [updA_at]; rw [h24]; exact hS1.2.day hP1 _), hg1, rfl⟩ (hf.tr (hM1.frA (k := 4) rfl)) hM2
      obtain ⟨⟨m1, -⟩, e1, -⟩ := id hM1
      obtain ⟨m4, e4⟩ := hM1.arr 4 rfl
      simp only [ME, iA, lenM, hput] at m1 e1 m4 e4 hk
      refine yvc1_ok (uX7_goDay Γ) (S := [105]) 40 ?_
      simp only [yvc1, ge4, m1, e1, m4, e4, in24_27, n24, yvc_s, s1i, s2i, s1l, s2l, sil, s1r, sir, siir, slir, srir, svr, sd1, sd2, lg, lput, ldel, isL_i, isL_r, isL_l, jmp, obj, obj1, fI, fR, arI, arL, arR, hput, f4_0, f4_1, f4_2, f4_3, lc_0, lc_1, rok_i, rok_b, rok_y, strF, fput_1, fput_2, csum_nil, csum_i, csum_l, csum_r, va_up_self, bx_uu, Int.reduceAdd, List.elem_nil, List.elem_cons, List.take_succ_cons, List.take_zero, List.drop_succ_cons, List.drop_zero, List.take_nil, List.drop_nil, List.reverse_cons, List.reverse_nil, List.nil_append, List.cons_append, List.append_nil, Option.toList_some, Option.toList_none, List.getElem?_cons_zero, List.getElem?_cons_succ, List.set_cons_zero, List.set_cons_succ, List.length_cons, List.length_nil, reduceIte, reduceCtorEq, and_true, true_and, and_self, or_true, true_or, false_and, and_false, not_true_eq_false, not_false_eq_true, true_implies, false_implies, implies_true, Nat.reduceAdd, Nat.reduceLT, Nat.reduceEqDiff, Nat.reduceLeDiff, Nat.reduceBEq, Nat.zero_add, Nat.lt_add_one, Bool.false_eq_true, Bool.or_false, Bool.or_true, Bool.or_self, Nat.zero_ne_one, Nat.one_ne_zero, ite_true, ite_false, ne_eq, Nat.reduceSub, Nat.succ_eq_add_one, Nat.zero_lt_succ, Nat.add_one_ne_zero, false_or, or_false, mX7_goDay_c, mX7_goDay_n, mX7_goDay_r, mX7_goDay_l, dX7_goDay_0, dX7_goDay_1, ic_0, dX7_goDay_2, fl_7_79_7, dX7_goDay_5, dX7_goDay_6, dX7_goDay_7, dX7_goDay_8, ic_4, dX7_goDay_9, tg_9_47, cnd2_ge, dX7_goDay_12, dX7_goDay_13, fl_7_51_7, dX7_goDay_16, dX7_goDay_17, dX7_goDay_18, fl_7_20_7, dX7_goDay_21, bc_20, dX7_goDay_23, dX7_goDay_24, dX7_goDay_25, dX7_goDay_26, bc_m4, dX7_goDay_28, tg_28_7, cnd2_ne, dX7_goDay_31, dX7_goDay_32, tg_32_17, dX7_goDay_35, dX7_goDay_36, dX7_goDay_37, dX7_goDay_40, dX7_goDay_42, dX7_goDay_43, dX7_goDay_44, dX7_goDay_45, dX7_goDay_46, dX7_goDay_49, dX7_goDay_50, ic_1, dX7_goDay_53, tg_53_m46, dX7_goDay_56, dX7_goDay_57, dX7_goDay_58, dX7_goDay_59, dX7_goDay_60, tg_60_43, dX7_goDay_63, dX7_goDay_64, dX7_goDay_67, dX7_goDay_69, dX7_goDay_70, dX7_goDay_71, dX7_goDay_72, dX7_goDay_74, tg_74_23, cnd2_eq, dX7_goDay_77, dX7_goDay_78, dX7_goDay_79, dX7_goDay_82, dX7_goDay_84, dX7_goDay_85, dX7_goDay_86, dX7_goDay_87, dX7_goDay_88, dX7_goDay_89, dX7_goDay_92, dX7_goDay_93, dX7_goDay_94, dX7_goDay_97, dX7_goDay_100, tg_100_m42, dX7_goDay_103, dX7_goDay_104, dX7_goDay_105, dX7_goDay_106, dX7_goDay_107, tg_107_14, dX7_goDay_110, dX7_goDay_111, dX7_goDay_112, dX7_goDay_115, dX7_goDay_118, tg_118_m13, dX7_goDay_121, dX7_goDay_122, dX7_goDay_125, bc_24, dX7_goDay_127, dX7_goDay_128, dX7_goDay_129, dX7_goDay_130, dX7_goDay_131, dX7_goDay_132, jX7_goDay_0_85, jX7_goDay_0_89, jX7_goDay_0_93, st_aload_n, st_bipush, st_dup2, st_getfield, st_goto, st_iadd, st_iaload, st_iastore, st_iconst, st_if_icmp, st_iinc, st_iload_n, st_invokevirtual, st_istore_n, st_putfield, st_return]
      exact hk
    | succ n ih =>
      intro j hj s1 σ1 hf hM1 hF hS1 hg1
      obtain ⟨c1, -, -⟩ := lt4 (show j < 4 by omega)
      refine yvc1_ok (uX7_goDay Γ) (S := [105]) 40 ?_
      simp only [yvc1, c1, yvc_s, s1i, s2i, s1l, s2l, sil, s1r, sir, siir, slir, srir, svr, sd1, sd2, lg, lput, ldel, isL_i, isL_r, isL_l, jmp, obj, obj1, fI, fR, arI, arL, arR, hput, f4_0, f4_1, f4_2, f4_3, lc_0, lc_1, rok_i, rok_b, rok_y, strF, fput_1, fput_2, csum_nil, csum_i, csum_l, csum_r, va_up_self, bx_uu, Int.reduceAdd, List.elem_nil, List.elem_cons, List.take_succ_cons, List.take_zero, List.drop_succ_cons, List.drop_zero, List.take_nil, List.drop_nil, List.reverse_cons, List.reverse_nil, List.nil_append, List.cons_append, List.append_nil, Option.toList_some, Option.toList_none, List.getElem?_cons_zero, List.getElem?_cons_succ, List.set_cons_zero, List.set_cons_succ, List.length_cons, List.length_nil, reduceIte, reduceCtorEq, and_true, true_and, and_self, or_true, true_or, false_and, and_false, not_true_eq_false, not_false_eq_true, true_implies, false_implies, implies_true, Nat.reduceAdd, Nat.reduceLT, Nat.reduceEqDiff, Nat.reduceLeDiff, Nat.reduceBEq, Nat.zero_add, Nat.lt_add_one, Bool.false_eq_true, Bool.or_false, Bool.or_true, Bool.or_self, Nat.zero_ne_one, Nat.one_ne_zero, ite_true, ite_false, ne_eq, Nat.reduceSub, Nat.succ_eq_add_one, Nat.zero_lt_succ, Nat.add_one_ne_zero, false_or, or_false, mX7_goDay_c, mX7_goDay_n, mX7_goDay_r, mX7_goDay_l, dX7_goDay_0, dX7_goDay_1, ic_0, dX7_goDay_2, fl_7_79_7, dX7_goDay_5, dX7_goDay_6, dX7_goDay_7, dX7_goDay_8, ic_4, dX7_goDay_9, tg_9_47, cnd2_ge, dX7_goDay_12, dX7_goDay_13, fl_7_51_7, dX7_goDay_16, dX7_goDay_17, dX7_goDay_18, fl_7_20_7, dX7_goDay_21, bc_20, dX7_goDay_23, dX7_goDay_24, dX7_goDay_25, dX7_goDay_26, bc_m4, dX7_goDay_28, tg_28_7, cnd2_ne, dX7_goDay_31, dX7_goDay_32, tg_32_17, dX7_goDay_35, dX7_goDay_36, dX7_goDay_37, dX7_goDay_40, dX7_goDay_42, dX7_goDay_43, dX7_goDay_44, dX7_goDay_45, dX7_goDay_46, dX7_goDay_49, dX7_goDay_50, ic_1, dX7_goDay_53, tg_53_m46, dX7_goDay_56, dX7_goDay_57, dX7_goDay_58, dX7_goDay_59, dX7_goDay_60, tg_60_43, dX7_goDay_63, dX7_goDay_64, dX7_goDay_67, dX7_goDay_69, dX7_goDay_70, dX7_goDay_71, dX7_goDay_72, dX7_goDay_74, tg_74_23, cnd2_eq, dX7_goDay_77, dX7_goDay_78, dX7_goDay_79, dX7_goDay_82, dX7_goDay_84, dX7_goDay_85, dX7_goDay_86, dX7_goDay_87, dX7_goDay_88, dX7_goDay_89, dX7_goDay_92, dX7_goDay_93, dX7_goDay_94, dX7_goDay_97, dX7_goDay_100, tg_100_m42, dX7_goDay_103, dX7_goDay_104, dX7_goDay_105, dX7_goDay_106, dX7_goDay_107, tg_107_14, dX7_goDay_110, dX7_goDay_111, dX7_goDay_112, dX7_goDay_115, dX7_goDay_118, tg_118_m13, dX7_goDay_121, dX7_goDay_122, dX7_goDay_125, bc_24, dX7_goDay_127, dX7_goDay_128, dX7_goDay_129, dX7_goDay_130, dX7_goDay_131, dX7_goDay_132, jX7_goDay_0_85, jX7_goDay_0_89, jX7_goDay_0_93, st_aload_n, st_bipush, st_dup2, st_getfield, st_goto, st_iadd, st_iaload, st_iastore, st_iconst, st_if_icmp, st_iinc, st_iload_n, st_invokevirtual, st_istore_n, st_putfield, st_return]
      refine ⟨j, tN y j, lab, (a, ad), s1, rfl, hM1, ⟨hS1, (tN_wf h0.1 j).1, ?_, by omega, hg1⟩, ?_⟩
      · rw [(tN_wf h0.1 j).2]; exact tN_wr h0.2 j
      · intro σ2 s2 r ⟨hF2, hS2, hg2, hr⟩ hf2 hM2
        subst hr
        have hj1 := ih (j + 1) (by omega) s2 σ2 (hf.tr hf2) hM2 (hF.tr hF2) hS2 hg2
        refine yvc_ok (uX7_goDay Γ) (S := [105]) 40 _ _ _ _ ?_
        simp only [nI_1, yvc_s, s1i, s2i, s1l, s2l, sil, s1r, sir, siir, slir, srir, svr, sd1, sd2, lg, lput, ldel, isL_i, isL_r, isL_l, jmp, obj, obj1, fI, fR, arI, arL, arR, hput, f4_0, f4_1, f4_2, f4_3, lc_0, lc_1, rok_i, rok_b, rok_y, strF, fput_1, fput_2, csum_nil, csum_i, csum_l, csum_r, va_up_self, bx_uu, Int.reduceAdd, List.elem_nil, List.elem_cons, List.take_succ_cons, List.take_zero, List.drop_succ_cons, List.drop_zero, List.take_nil, List.drop_nil, List.reverse_cons, List.reverse_nil, List.nil_append, List.cons_append, List.append_nil, Option.toList_some, Option.toList_none, List.getElem?_cons_zero, List.getElem?_cons_succ, List.set_cons_zero, List.set_cons_succ, List.length_cons, List.length_nil, reduceIte, reduceCtorEq, and_true, true_and, and_self, or_true, true_or, false_and, and_false, not_true_eq_false, not_false_eq_true, true_implies, false_implies, implies_true, Nat.reduceAdd, Nat.reduceLT, Nat.reduceEqDiff, Nat.reduceLeDiff, Nat.reduceBEq, Nat.zero_add, Nat.lt_add_one, Bool.false_eq_true, Bool.or_false, Bool.or_true, Bool.or_self, Nat.zero_ne_one, Nat.one_ne_zero, ite_true, ite_false, ne_eq, Nat.reduceSub, Nat.succ_eq_add_one, Nat.zero_lt_succ, Nat.add_one_ne_zero, false_or, or_false, mX7_goDay_c, mX7_goDay_n, mX7_goDay_r, mX7_goDay_l, dX7_goDay_0, dX7_goDay_1, ic_0, dX7_goDay_2, fl_7_79_7, dX7_goDay_5, dX7_goDay_6, dX7_goDay_7, dX7_goDay_8, ic_4, dX7_goDay_9, tg_9_47, cnd2_ge, dX7_goDay_12, dX7_goDay_13, fl_7_51_7, dX7_goDay_16, dX7_goDay_17, dX7_goDay_18, fl_7_20_7, dX7_goDay_21, bc_20, dX7_goDay_23, dX7_goDay_24, dX7_goDay_25, dX7_goDay_26, bc_m4, dX7_goDay_28, tg_28_7, cnd2_ne, dX7_goDay_31, dX7_goDay_32, tg_32_17, dX7_goDay_35, dX7_goDay_36, dX7_goDay_37, dX7_goDay_40, dX7_goDay_42, dX7_goDay_43, dX7_goDay_44, dX7_goDay_45, dX7_goDay_46, dX7_goDay_49, dX7_goDay_50, ic_1, dX7_goDay_53, tg_53_m46, dX7_goDay_56, dX7_goDay_57, dX7_goDay_58, dX7_goDay_59, dX7_goDay_60, tg_60_43, dX7_goDay_63, dX7_goDay_64, dX7_goDay_67, dX7_goDay_69, dX7_goDay_70, dX7_goDay_71, dX7_goDay_72, dX7_goDay_74, tg_74_23, cnd2_eq, dX7_goDay_77, dX7_goDay_78, dX7_goDay_79, dX7_goDay_82, dX7_goDay_84, dX7_goDay_85, dX7_goDay_86, dX7_goDay_87, dX7_goDay_88, dX7_goDay_89, dX7_goDay_92, dX7_goDay_93, dX7_goDay_94, dX7_goDay_97, dX7_goDay_100, tg_100_m42, dX7_goDay_103, dX7_goDay_104, dX7_goDay_105, dX7_goDay_106, dX7_goDay_107, tg_107_14, dX7_goDay_110, dX7_goDay_111, dX7_goDay_112, dX7_goDay_115, dX7_goDay_118, tg_118_m13, dX7_goDay_121, dX7_goDay_122, dX7_goDay_125, bc_24, dX7_goDay_127, dX7_goDay_128, dX7_goDay_129, dX7_goDay_130, dX7_goDay_131, dX7_goDay_132, jX7_goDay_0_85, jX7_goDay_0_89, jX7_goDay_0_93, st_aload_n, st_bipush, st_dup2, st_getfield, st_goto, st_iadd, st_iaload, st_iastore, st_iconst, st_if_icmp, st_iinc, st_iload_n, st_invokevirtual, st_istore_n, st_putfield, st_return]
        exact hj1
  clear h
  -- talked to
  have loop2 : ∀ n j : Nat, j + n = 4 → ∀ (s1 : MS) (σ1 : Hp), frm (fL lab 30) σ σ1 → Mod Γ lab (a, ad) s1 σ1 → SFr s s1 → SD s1 (gN c j) → s1.1 19 = 0 → (∀ i, i < 4 → s1.2.1 18 i = growth c i) → YG Γ mX7_goDay K 58 [(0, .ref a), (1, .int (nI j))] [] σ1 := by
    intro n
    induction n with
    | zero =>
      intro j hj s1 σ1 hf hM1 hF hS1 hg1 hm
      obtain rfl : j = 4 := by omega
      have hl := loop3 4 0 rfl s1 σ1 hf hM1 hF (by
        show SD s1 (gd0 (gN c 4))
        generalize gN c 4 = y at hS1 ⊢
        exact hS1) (by rw [hg1]; rfl)
      refine yvc1_ok (uX7_goDay Γ) (S := [58, 105]) 40 ?_
      simp only [yvc1, ge4, yvc_s, s1i, s2i, s1l, s2l, sil, s1r, sir, siir, slir, srir, svr, sd1, sd2, lg, lput, ldel, isL_i, isL_r, isL_l, jmp, obj, obj1, fI, fR, arI, arL, arR, hput, f4_0, f4_1, f4_2, f4_3, lc_0, lc_1, rok_i, rok_b, rok_y, strF, fput_1, fput_2, csum_nil, csum_i, csum_l, csum_r, va_up_self, bx_uu, Int.reduceAdd, List.elem_nil, List.elem_cons, List.take_succ_cons, List.take_zero, List.drop_succ_cons, List.drop_zero, List.take_nil, List.drop_nil, List.reverse_cons, List.reverse_nil, List.nil_append, List.cons_append, List.append_nil, Option.toList_some, Option.toList_none, List.getElem?_cons_zero, List.getElem?_cons_succ, List.set_cons_zero, List.set_cons_succ, List.length_cons, List.length_nil, reduceIte, reduceCtorEq, and_true, true_and, and_self, or_true, true_or, false_and, and_false, not_true_eq_false, not_false_eq_true, true_implies, false_implies, implies_true, Nat.reduceAdd, Nat.reduceLT, Nat.reduceEqDiff, Nat.reduceLeDiff, Nat.reduceBEq, Nat.zero_add, Nat.lt_add_one, Bool.false_eq_true, Bool.or_false, Bool.or_true, Bool.or_self, Nat.zero_ne_one, Nat.one_ne_zero, ite_true, ite_false, ne_eq, Nat.reduceSub, Nat.succ_eq_add_one, Nat.zero_lt_succ, Nat.add_one_ne_zero, false_or, or_false, mX7_goDay_c, mX7_goDay_n, mX7_goDay_r, mX7_goDay_l, dX7_goDay_0, dX7_goDay_1, ic_0, dX7_goDay_2, fl_7_79_7, dX7_goDay_5, dX7_goDay_6, dX7_goDay_7, dX7_goDay_8, ic_4, dX7_goDay_9, tg_9_47, cnd2_ge, dX7_goDay_12, dX7_goDay_13, fl_7_51_7, dX7_goDay_16, dX7_goDay_17, dX7_goDay_18, fl_7_20_7, dX7_goDay_21, bc_20, dX7_goDay_23, dX7_goDay_24, dX7_goDay_25, dX7_goDay_26, bc_m4, dX7_goDay_28, tg_28_7, cnd2_ne, dX7_goDay_31, dX7_goDay_32, tg_32_17, dX7_goDay_35, dX7_goDay_36, dX7_goDay_37, dX7_goDay_40, dX7_goDay_42, dX7_goDay_43, dX7_goDay_44, dX7_goDay_45, dX7_goDay_46, dX7_goDay_49, dX7_goDay_50, ic_1, dX7_goDay_53, tg_53_m46, dX7_goDay_56, dX7_goDay_57, dX7_goDay_58, dX7_goDay_59, dX7_goDay_60, tg_60_43, dX7_goDay_63, dX7_goDay_64, dX7_goDay_67, dX7_goDay_69, dX7_goDay_70, dX7_goDay_71, dX7_goDay_72, dX7_goDay_74, tg_74_23, cnd2_eq, dX7_goDay_77, dX7_goDay_78, dX7_goDay_79, dX7_goDay_82, dX7_goDay_84, dX7_goDay_85, dX7_goDay_86, dX7_goDay_87, dX7_goDay_88, dX7_goDay_89, dX7_goDay_92, dX7_goDay_93, dX7_goDay_94, dX7_goDay_97, dX7_goDay_100, tg_100_m42, dX7_goDay_103, dX7_goDay_104, dX7_goDay_105, dX7_goDay_106, dX7_goDay_107, tg_107_14, dX7_goDay_110, dX7_goDay_111, dX7_goDay_112, dX7_goDay_115, dX7_goDay_118, tg_118_m13, dX7_goDay_121, dX7_goDay_122, dX7_goDay_125, bc_24, dX7_goDay_127, dX7_goDay_128, dX7_goDay_129, dX7_goDay_130, dX7_goDay_131, dX7_goDay_132, jX7_goDay_0_85, jX7_goDay_0_89, jX7_goDay_0_93, st_aload_n, st_bipush, st_dup2, st_getfield, st_goto, st_iadd, st_iaload, st_iastore, st_iconst, st_if_icmp, st_iinc, st_iload_n, st_invokevirtual, st_istore_n, st_putfield, st_return]
      exact hl
    | succ n ih =>
      intro j hj s1 σ1 hf hM1 hF hS1 hg1 hm
      have hj4 : j < 4 := by omega
      obtain ⟨c1, c2, c3⟩ := lt4 hj4
      obtain ⟨i1, i2⟩ := ix20 hj4
      have hih := ih (j + 1) (by omega)
      have hgr := growth_gN hJ.1 hj4
      rw [gN_s] at hih
      have hwf := gN_wf hJ.1 j
      have heq := gN_eq c j
      generalize gN c j = y at hS1 hih hgr hwf heq
      obtain ⟨sc, ar, it⟩ := s1
      simp only at hg1 hm
      have hkp : ar 4 (20 + j) = y.2.1 j := hS1.2.2.1 j hj4
      obtain ⟨⟨m1, -⟩, e1, -⟩ := id hM1
      obtain ⟨m4, e4⟩ := hM1.arr 4 rfl
      obtain ⟨m18, e18⟩ := hM1.arr 18 rfl
      simp only [ME, iA, lenM] at m1 e1 m4 e4 m18 e18
      refine yvc1_ok (uX7_goDay Γ) (S := [58, 105]) 60 ?_
      simp only [yvc1, c1, c2, c3, m1, e1, m4, e4, m18, e18, i1, i2, hkp, hm j hj4, yvc_s, s1i, s2i, s1l, s2l, sil, s1r, sir, siir, slir, srir, svr, sd1, sd2, lg, lput, ldel, isL_i, isL_r, isL_l, jmp, obj, obj1, fI, fR, arI, arL, arR, hput, f4_0, f4_1, f4_2, f4_3, lc_0, lc_1, rok_i, rok_b, rok_y, strF, fput_1, fput_2, csum_nil, csum_i, csum_l, csum_r, va_up_self, bx_uu, Int.reduceAdd, List.elem_nil, List.elem_cons, List.take_succ_cons, List.take_zero, List.drop_succ_cons, List.drop_zero, List.take_nil, List.drop_nil, List.reverse_cons, List.reverse_nil, List.nil_append, List.cons_append, List.append_nil, Option.toList_some, Option.toList_none, List.getElem?_cons_zero, List.getElem?_cons_succ, List.set_cons_zero, List.set_cons_succ, List.length_cons, List.length_nil, reduceIte, reduceCtorEq, and_true, true_and, and_self, or_true, true_or, false_and, and_false, not_true_eq_false, not_false_eq_true, true_implies, false_implies, implies_true, Nat.reduceAdd, Nat.reduceLT, Nat.reduceEqDiff, Nat.reduceLeDiff, Nat.reduceBEq, Nat.zero_add, Nat.lt_add_one, Bool.false_eq_true, Bool.or_false, Bool.or_true, Bool.or_self, Nat.zero_ne_one, Nat.one_ne_zero, ite_true, ite_false, ne_eq, Nat.reduceSub, Nat.succ_eq_add_one, Nat.zero_lt_succ, Nat.add_one_ne_zero, false_or, or_false, mX7_goDay_c, mX7_goDay_n, mX7_goDay_r, mX7_goDay_l, dX7_goDay_0, dX7_goDay_1, ic_0, dX7_goDay_2, fl_7_79_7, dX7_goDay_5, dX7_goDay_6, dX7_goDay_7, dX7_goDay_8, ic_4, dX7_goDay_9, tg_9_47, cnd2_ge, dX7_goDay_12, dX7_goDay_13, fl_7_51_7, dX7_goDay_16, dX7_goDay_17, dX7_goDay_18, fl_7_20_7, dX7_goDay_21, bc_20, dX7_goDay_23, dX7_goDay_24, dX7_goDay_25, dX7_goDay_26, bc_m4, dX7_goDay_28, tg_28_7, cnd2_ne, dX7_goDay_31, dX7_goDay_32, tg_32_17, dX7_goDay_35, dX7_goDay_36, dX7_goDay_37, dX7_goDay_40, dX7_goDay_42, dX7_goDay_43, dX7_goDay_44, dX7_goDay_45, dX7_goDay_46, dX7_goDay_49, dX7_goDay_50, ic_1, dX7_goDay_53, tg_53_m46, dX7_goDay_56, dX7_goDay_57, dX7_goDay_58, dX7_goDay_59, dX7_goDay_60, tg_60_43, dX7_goDay_63, dX7_goDay_64, dX7_goDay_67, dX7_goDay_69, dX7_goDay_70, dX7_goDay_71, dX7_goDay_72, dX7_goDay_74, tg_74_23, cnd2_eq, dX7_goDay_77, dX7_goDay_78, dX7_goDay_79, dX7_goDay_82, dX7_goDay_84, dX7_goDay_85, dX7_goDay_86, dX7_goDay_87, dX7_goDay_88, dX7_goDay_89, dX7_goDay_92, dX7_goDay_93, dX7_goDay_94, dX7_goDay_97, dX7_goDay_100, tg_100_m42, dX7_goDay_103, dX7_goDay_104, dX7_goDay_105, dX7_goDay_106, dX7_goDay_107, tg_107_14, dX7_goDay_110, dX7_goDay_111, dX7_goDay_112, dX7_goDay_115, dX7_goDay_118, tg_118_m13, dX7_goDay_121, dX7_goDay_122, dX7_goDay_125, bc_24, dX7_goDay_127, dX7_goDay_128, dX7_goDay_129, dX7_goDay_130, dX7_goDay_131, dX7_goDay_132, jX7_goDay_0_85, jX7_goDay_0_89, jX7_goDay_0_93, st_aload_n, st_bipush, st_dup2, st_getfield, st_goto, st_iadd, st_iaload, st_iastore, st_iconst, st_if_icmp, st_iinc, st_iload_n, st_invokevirtual, st_istore_n, st_putfield, st_return]
      refine ⟨fun z => ?_, fun z => ?_⟩
      · rw [g1_pos z] at hih
        have hj1 := hih (sc, ar, it) σ1 hf hM1 hF hS1 hg1 hm
        simp only [nI_1]
        exact hj1
      · obtain ⟨q, hq, hk⟩ := (hwf.2 j hj4).resolve_left z
        have hq5 : q < 5 := by have := hwf.1; omega
        rw [hk]
        refine ⟨q, j, growth c j, lab, (a, ad), (sc, ar, it), rfl, hM1, ⟨hq5, hj4⟩, ?_⟩
        intro σ2 s2 r ⟨hs2, hr⟩ hf2 hM2
        subst hr hs2
        have hF2 : SFr (sc, ar, it) (tlk (sc, ar, it) (4 * q + j) (growth c j)) := SFr.side
        rw [g1_neg z, hk, hgr] at hih
        have hrw := hS1.2.w hwf.1 (show 4 * q + j < 4 * y.2.2.2.2.2.2.1 by omega) (cap20 (ar 4 (4 * q + j) + growth c j))
        have hj1 := hih _ σ2 (hf.tr hf2) hM2 (hF.tr hF2) (hS1.fr hF2 rfl rfl rfl (by
          unfold tlk wmore
          rw [ix_n hq5 hj4]
          simp only [updA_at]
          rw [show ar 4 (4 * q + j) = y.1 (4 * q + j) from hS1.2.1 _ (by omega)] at hrw ⊢
          exact hrw)) hg1 (by
          intro i hi
          simp only [tlk, updA_ne (show (18 : Nat) ≠ 4 by decide)]
          exact hm i hi)
        refine yvc_ok (uX7_goDay Γ) (S := [58, 105]) 40 _ _ _ _ ?_
        simp only [nI_1, yvc_s, s1i, s2i, s1l, s2l, sil, s1r, sir, siir, slir, srir, svr, sd1, sd2, lg, lput, ldel, isL_i, isL_r, isL_l, jmp, obj, obj1, fI, fR, arI, arL, arR, hput, f4_0, f4_1, f4_2, f4_3, lc_0, lc_1, rok_i, rok_b, rok_y, strF, fput_1, fput_2, csum_nil, csum_i, csum_l, csum_r, va_up_self, bx_uu, Int.reduceAdd, List.elem_nil, List.elem_cons, List.take_succ_cons, List.take_zero, List.drop_succ_cons, List.drop_zero, List.take_nil, List.drop_nil, List.reverse_cons, List.reverse_nil, List.nil_append, List.cons_append, List.append_nil, Option.toList_some, Option.toList_none, List.getElem?_cons_zero, List.getElem?_cons_succ, List.set_cons_zero, List.set_cons_succ, List.length_cons, List.length_nil, reduceIte, reduceCtorEq, and_true, true_and, and_self, or_true, true_or, false_and, and_false, not_true_eq_false, not_false_eq_true, true_implies, false_implies, implies_true, Nat.reduceAdd, Nat.reduceLT, Nat.reduceEqDiff, Nat.reduceLeDiff, Nat.reduceBEq, Nat.zero_add, Nat.lt_add_one, Bool.false_eq_true, Bool.or_false, Bool.or_true, Bool.or_self, Nat.zero_ne_one, Nat.one_ne_zero, ite_true, ite_false, ne_eq, Nat.reduceSub, Nat.succ_eq_add_one, Nat.zero_lt_succ, Nat.add_one_ne_zero, false_or, or_false, mX7_goDay_c, mX7_goDay_n, mX7_goDay_r, mX7_goDay_l, dX7_goDay_0, dX7_goDay_1, ic_0, dX7_goDay_2, fl_7_79_7, dX7_goDay_5, dX7_goDay_6, dX7_goDay_7, dX7_goDay_8, ic_4, dX7_goDay_9, tg_9_47, cnd2_ge, dX7_goDay_12, dX7_goDay_13, fl_7_51_7, dX7_goDay_16, dX7_goDay_17, dX7_goDay_18, fl_7_20_7, dX7_goDay_21, bc_20, dX7_goDay_23, dX7_goDay_24, dX7_goDay_25, dX7_goDay_26, bc_m4, dX7_goDay_28, tg_28_7, cnd2_ne, dX7_goDay_31, dX7_goDay_32, tg_32_17, dX7_goDay_35, dX7_goDay_36, dX7_goDay_37, dX7_goDay_40, dX7_goDay_42, dX7_goDay_43, dX7_goDay_44, dX7_goDay_45, dX7_goDay_46, dX7_goDay_49, dX7_goDay_50, ic_1, dX7_goDay_53, tg_53_m46, dX7_goDay_56, dX7_goDay_57, dX7_goDay_58, dX7_goDay_59, dX7_goDay_60, tg_60_43, dX7_goDay_63, dX7_goDay_64, dX7_goDay_67, dX7_goDay_69, dX7_goDay_70, dX7_goDay_71, dX7_goDay_72, dX7_goDay_74, tg_74_23, cnd2_eq, dX7_goDay_77, dX7_goDay_78, dX7_goDay_79, dX7_goDay_82, dX7_goDay_84, dX7_goDay_85, dX7_goDay_86, dX7_goDay_87, dX7_goDay_88, dX7_goDay_89, dX7_goDay_92, dX7_goDay_93, dX7_goDay_94, dX7_goDay_97, dX7_goDay_100, tg_100_m42, dX7_goDay_103, dX7_goDay_104, dX7_goDay_105, dX7_goDay_106, dX7_goDay_107, tg_107_14, dX7_goDay_110, dX7_goDay_111, dX7_goDay_112, dX7_goDay_115, dX7_goDay_118, tg_118_m13, dX7_goDay_121, dX7_goDay_122, dX7_goDay_125, bc_24, dX7_goDay_127, dX7_goDay_128, dX7_goDay_129, dX7_goDay_130, dX7_goDay_131, dX7_goDay_132, jX7_goDay_0_85, jX7_goDay_0_89, jX7_goDay_0_93, st_aload_n, st_bipush, st_dup2, st_getfield, st_goto, st_iadd, st_iaload, st_iastore, st_iconst, st_if_icmp, st_iinc, st_iload_n, st_invokevirtual, st_istore_n, st_putfield, st_return]
        exact hj1
  clear loop3
  -- how much more
  have loop1 : ∀ n j : Nat, j + n = 4 → ∀ (s1 : MS) (σ1 : Hp), frm (fL lab 30) σ σ1 → Mod Γ lab (a, ad) s1 σ1 → SFr s s1 → SD s1 c → s1.1 19 = 0 → (∀ i, i < j → s1.2.1 18 i = growth c i) → YG Γ mX7_goDay K 7 [(0, .ref a), (1, .int (nI j))] [] σ1 := by
    intro n
    induction n with
    | zero =>
      intro j hj s1 σ1 hf hM1 hF hS1 hg1 hm
      obtain rfl : j = 4 := by omega
      have hl := loop2 4 0 rfl s1 σ1 hf hM1 hF hS1 hg1 hm
      refine yvc1_ok (uX7_goDay Γ) (S := [7, 58]) 40 ?_
      simp only [yvc1, ge4, yvc_s, s1i, s2i, s1l, s2l, sil, s1r, sir, siir, slir, srir, svr, sd1, sd2, lg, lput, ldel, isL_i, isL_r, isL_l, jmp, obj, obj1, fI, fR, arI, arL, arR, hput, f4_0, f4_1, f4_2, f4_3, lc_0, lc_1, rok_i, rok_b, rok_y, strF, fput_1, fput_2, csum_nil, csum_i, csum_l, csum_r, va_up_self, bx_uu, Int.reduceAdd, List.elem_nil, List.elem_cons, List.take_succ_cons, List.take_zero, List.drop_succ_cons, List.drop_zero, List.take_nil, List.drop_nil, List.reverse_cons, List.reverse_nil, List.nil_append, List.cons_append, List.append_nil, Option.toList_some, Option.toList_none, List.getElem?_cons_zero, List.getElem?_cons_succ, List.set_cons_zero, List.set_cons_succ, List.length_cons, List.length_nil, reduceIte, reduceCtorEq, and_true, true_and, and_self, or_true, true_or, false_and, and_false, not_true_eq_false, not_false_eq_true, true_implies, false_implies, implies_true, Nat.reduceAdd, Nat.reduceLT, Nat.reduceEqDiff, Nat.reduceLeDiff, Nat.reduceBEq, Nat.zero_add, Nat.lt_add_one, Bool.false_eq_true, Bool.or_false, Bool.or_true, Bool.or_self, Nat.zero_ne_one, Nat.one_ne_zero, ite_true, ite_false, ne_eq, Nat.reduceSub, Nat.succ_eq_add_one, Nat.zero_lt_succ, Nat.add_one_ne_zero, false_or, or_false, mX7_goDay_c, mX7_goDay_n, mX7_goDay_r, mX7_goDay_l, dX7_goDay_0, dX7_goDay_1, ic_0, dX7_goDay_2, fl_7_79_7, dX7_goDay_5, dX7_goDay_6, dX7_goDay_7, dX7_goDay_8, ic_4, dX7_goDay_9, tg_9_47, cnd2_ge, dX7_goDay_12, dX7_goDay_13, fl_7_51_7, dX7_goDay_16, dX7_goDay_17, dX7_goDay_18, fl_7_20_7, dX7_goDay_21, bc_20, dX7_goDay_23, dX7_goDay_24, dX7_goDay_25, dX7_goDay_26, bc_m4, dX7_goDay_28, tg_28_7, cnd2_ne, dX7_goDay_31, dX7_goDay_32, tg_32_17, dX7_goDay_35, dX7_goDay_36, dX7_goDay_37, dX7_goDay_40, dX7_goDay_42, dX7_goDay_43, dX7_goDay_44, dX7_goDay_45, dX7_goDay_46, dX7_goDay_49, dX7_goDay_50, ic_1, dX7_goDay_53, tg_53_m46, dX7_goDay_56, dX7_goDay_57, dX7_goDay_58, dX7_goDay_59, dX7_goDay_60, tg_60_43, dX7_goDay_63, dX7_goDay_64, dX7_goDay_67, dX7_goDay_69, dX7_goDay_70, dX7_goDay_71, dX7_goDay_72, dX7_goDay_74, tg_74_23, cnd2_eq, dX7_goDay_77, dX7_goDay_78, dX7_goDay_79, dX7_goDay_82, dX7_goDay_84, dX7_goDay_85, dX7_goDay_86, dX7_goDay_87, dX7_goDay_88, dX7_goDay_89, dX7_goDay_92, dX7_goDay_93, dX7_goDay_94, dX7_goDay_97, dX7_goDay_100, tg_100_m42, dX7_goDay_103, dX7_goDay_104, dX7_goDay_105, dX7_goDay_106, dX7_goDay_107, tg_107_14, dX7_goDay_110, dX7_goDay_111, dX7_goDay_112, dX7_goDay_115, dX7_goDay_118, tg_118_m13, dX7_goDay_121, dX7_goDay_122, dX7_goDay_125, bc_24, dX7_goDay_127, dX7_goDay_128, dX7_goDay_129, dX7_goDay_130, dX7_goDay_131, dX7_goDay_132, jX7_goDay_0_85, jX7_goDay_0_89, jX7_goDay_0_93, st_aload_n, st_bipush, st_dup2, st_getfield, st_goto, st_iadd, st_iaload, st_iastore, st_iconst, st_if_icmp, st_iinc, st_iload_n, st_invokevirtual, st_istore_n, st_putfield, st_return]
      exact hl
    | succ n ih =>
      intro j hj s1 σ1 hf hM1 hF hS1 hg1 hm
      have hj4 : j < 4 := by omega
      obtain ⟨c1, c2, c3⟩ := lt4 hj4
      obtain ⟨i1, i2⟩ := ix20 hj4
      obtain ⟨sc, ar, it⟩ := s1
      simp only at hg1 hm
      have hkp : ar 4 (20 + j) = c.2.1 j := hS1.2.2.1 j hj4
      have hM2 := hM1.putA (k := 18) rfl (upd (ar 18) j (growth c j))
      have hj1 := ih (j + 1) (by omega) _ _ (hf.tr (hM1.frA (k := 18) rfl)) hM2 (hF.tr SFr.mores) (hS1.fr SFr.mores rfl rfl rfl (by simp only [updA_ne (show (4 : Nat) ≠ 18 by decide)]; exact hS1.2)) hg1 (by
        intro i hi
        simp only [updA_at]
        by_cases e : i = j
        · subst e; rw [pk_us]
        · rw [pk_un e]; exact hm i (by omega))
      obtain ⟨⟨m1, -⟩, e1, -⟩ := id hM1
      obtain ⟨m4, e4⟩ := hM1.arr 4 rfl
      obtain ⟨m18, e18⟩ := hM1.arr 18 rfl
      simp only [ME, iA, lenM, hput] at m1 e1 m4 e4 m18 e18 hj1
      refine yvc1_ok (uX7_goDay Γ) (S := [7, 58]) 60 ?_
      simp only [yvc1, c1, c2, c3, m1, e1, m4, e4, m18, e18, i1, i2, hkp, nI_1, yvc_s, s1i, s2i, s1l, s2l, sil, s1r, sir, siir, slir, srir, svr, sd1, sd2, lg, lput, ldel, isL_i, isL_r, isL_l, jmp, obj, obj1, fI, fR, arI, arL, arR, hput, f4_0, f4_1, f4_2, f4_3, lc_0, lc_1, rok_i, rok_b, rok_y, strF, fput_1, fput_2, csum_nil, csum_i, csum_l, csum_r, va_up_self, bx_uu, Int.reduceAdd, List.elem_nil, List.elem_cons, List.take_succ_cons, List.take_zero, List.drop_succ_cons, List.drop_zero, List.take_nil, List.drop_nil, List.reverse_cons, List.reverse_nil, List.nil_append, List.cons_append, List.append_nil, Option.toList_some, Option.toList_none, List.getElem?_cons_zero, List.getElem?_cons_succ, List.set_cons_zero, List.set_cons_succ, List.length_cons, List.length_nil, reduceIte, reduceCtorEq, and_true, true_and, and_self, or_true, true_or, false_and, and_false, not_true_eq_false, not_false_eq_true, true_implies, false_implies, implies_true, Nat.reduceAdd, Nat.reduceLT, Nat.reduceEqDiff, Nat.reduceLeDiff, Nat.reduceBEq, Nat.zero_add, Nat.lt_add_one, Bool.false_eq_true, Bool.or_false, Bool.or_true, Bool.or_self, Nat.zero_ne_one, Nat.one_ne_zero, ite_true, ite_false, ne_eq, Nat.reduceSub, Nat.succ_eq_add_one, Nat.zero_lt_succ, Nat.add_one_ne_zero, false_or, or_false, mX7_goDay_c, mX7_goDay_n, mX7_goDay_r, mX7_goDay_l, dX7_goDay_0, dX7_goDay_1, ic_0, dX7_goDay_2, fl_7_79_7, dX7_goDay_5, dX7_goDay_6, dX7_goDay_7, dX7_goDay_8, ic_4, dX7_goDay_9, tg_9_47, cnd2_ge, dX7_goDay_12, dX7_goDay_13, fl_7_51_7, dX7_goDay_16, dX7_goDay_17, dX7_goDay_18, fl_7_20_7, dX7_goDay_21, bc_20, dX7_goDay_23, dX7_goDay_24, dX7_goDay_25, dX7_goDay_26, bc_m4, dX7_goDay_28, tg_28_7, cnd2_ne, dX7_goDay_31, dX7_goDay_32, tg_32_17, dX7_goDay_35, dX7_goDay_36, dX7_goDay_37, dX7_goDay_40, dX7_goDay_42, dX7_goDay_43, dX7_goDay_44, dX7_goDay_45, dX7_goDay_46, dX7_goDay_49, dX7_goDay_50, ic_1, dX7_goDay_53, tg_53_m46, dX7_goDay_56, dX7_goDay_57, dX7_goDay_58, dX7_goDay_59, dX7_goDay_60, tg_60_43, dX7_goDay_63, dX7_goDay_64, dX7_goDay_67, dX7_goDay_69, dX7_goDay_70, dX7_goDay_71, dX7_goDay_72, dX7_goDay_74, tg_74_23, cnd2_eq, dX7_goDay_77, dX7_goDay_78, dX7_goDay_79, dX7_goDay_82, dX7_goDay_84, dX7_goDay_85, dX7_goDay_86, dX7_goDay_87, dX7_goDay_88, dX7_goDay_89, dX7_goDay_92, dX7_goDay_93, dX7_goDay_94, dX7_goDay_97, dX7_goDay_100, tg_100_m42, dX7_goDay_103, dX7_goDay_104, dX7_goDay_105, dX7_goDay_106, dX7_goDay_107, tg_107_14, dX7_goDay_110, dX7_goDay_111, dX7_goDay_112, dX7_goDay_115, dX7_goDay_118, tg_118_m13, dX7_goDay_121, dX7_goDay_122, dX7_goDay_125, bc_24, dX7_goDay_127, dX7_goDay_128, dX7_goDay_129, dX7_goDay_130, dX7_goDay_131, dX7_goDay_132, jX7_goDay_0_85, jX7_goDay_0_89, jX7_goDay_0_93, st_aload_n, st_bipush, st_dup2, st_getfield, st_goto, st_iadd, st_iaload, st_iastore, st_iconst, st_if_icmp, st_iinc, st_iload_n, st_invokevirtual, st_istore_n, st_putfield, st_return]
      refine ⟨fun z => ?_, fun z => ?_⟩
      · obtain ⟨q, hq, hk⟩ := (hJ.1.2 j hj4).resolve_left z
        rw [hk]
        refine ⟨q, j, D, c, lab, (a, ad), (sc, ar, it), rfl, hM1, ⟨hS1, hJ, by omega, hj4, hq, hk⟩, ?_⟩
        refine yvc_ok (uX7_goDay Γ) (S := [7, 58]) 40 _ _ _ _ ?_
        simp only [m18, e18, c2, c3, nI_1, yvc_s, s1i, s2i, s1l, s2l, sil, s1r, sir, siir, slir, srir, svr, sd1, sd2, lg, lput, ldel, isL_i, isL_r, isL_l, jmp, obj, obj1, fI, fR, arI, arL, arR, hput, f4_0, f4_1, f4_2, f4_3, lc_0, lc_1, rok_i, rok_b, rok_y, strF, fput_1, fput_2, csum_nil, csum_i, csum_l, csum_r, va_up_self, bx_uu, Int.reduceAdd, List.elem_nil, List.elem_cons, List.take_succ_cons, List.take_zero, List.drop_succ_cons, List.drop_zero, List.take_nil, List.drop_nil, List.reverse_cons, List.reverse_nil, List.nil_append, List.cons_append, List.append_nil, Option.toList_some, Option.toList_none, List.getElem?_cons_zero, List.getElem?_cons_succ, List.set_cons_zero, List.set_cons_succ, List.length_cons, List.length_nil, reduceIte, reduceCtorEq, and_true, true_and, and_self, or_true, true_or, false_and, and_false, not_true_eq_false, not_false_eq_true, true_implies, false_implies, implies_true, Nat.reduceAdd, Nat.reduceLT, Nat.reduceEqDiff, Nat.reduceLeDiff, Nat.reduceBEq, Nat.zero_add, Nat.lt_add_one, Bool.false_eq_true, Bool.or_false, Bool.or_true, Bool.or_self, Nat.zero_ne_one, Nat.one_ne_zero, ite_true, ite_false, ne_eq, Nat.reduceSub, Nat.succ_eq_add_one, Nat.zero_lt_succ, Nat.add_one_ne_zero, false_or, or_false, mX7_goDay_c, mX7_goDay_n, mX7_goDay_r, mX7_goDay_l, dX7_goDay_0, dX7_goDay_1, ic_0, dX7_goDay_2, fl_7_79_7, dX7_goDay_5, dX7_goDay_6, dX7_goDay_7, dX7_goDay_8, ic_4, dX7_goDay_9, tg_9_47, cnd2_ge, dX7_goDay_12, dX7_goDay_13, fl_7_51_7, dX7_goDay_16, dX7_goDay_17, dX7_goDay_18, fl_7_20_7, dX7_goDay_21, bc_20, dX7_goDay_23, dX7_goDay_24, dX7_goDay_25, dX7_goDay_26, bc_m4, dX7_goDay_28, tg_28_7, cnd2_ne, dX7_goDay_31, dX7_goDay_32, tg_32_17, dX7_goDay_35, dX7_goDay_36, dX7_goDay_37, dX7_goDay_40, dX7_goDay_42, dX7_goDay_43, dX7_goDay_44, dX7_goDay_45, dX7_goDay_46, dX7_goDay_49, dX7_goDay_50, ic_1, dX7_goDay_53, tg_53_m46, dX7_goDay_56, dX7_goDay_57, dX7_goDay_58, dX7_goDay_59, dX7_goDay_60, tg_60_43, dX7_goDay_63, dX7_goDay_64, dX7_goDay_67, dX7_goDay_69, dX7_goDay_70, dX7_goDay_71, dX7_goDay_72, dX7_goDay_74, tg_74_23, cnd2_eq, dX7_goDay_77, dX7_goDay_78, dX7_goDay_79, dX7_goDay_82, dX7_goDay_84, dX7_goDay_85, dX7_goDay_86, dX7_goDay_87, dX7_goDay_88, dX7_goDay_89, dX7_goDay_92, dX7_goDay_93, dX7_goDay_94, dX7_goDay_97, dX7_goDay_100, tg_100_m42, dX7_goDay_103, dX7_goDay_104, dX7_goDay_105, dX7_goDay_106, dX7_goDay_107, tg_107_14, dX7_goDay_110, dX7_goDay_111, dX7_goDay_112, dX7_goDay_115, dX7_goDay_118, tg_118_m13, dX7_goDay_121, dX7_goDay_122, dX7_goDay_125, bc_24, dX7_goDay_127, dX7_goDay_128, dX7_goDay_129, dX7_goDay_130, dX7_goDay_131, dX7_goDay_132, jX7_goDay_0_85, jX7_goDay_0_89, jX7_goDay_0_93, st_aload_n, st_bipush, st_dup2, st_getfield, st_goto, st_iadd, st_iaload, st_iastore, st_iconst, st_if_icmp, st_iinc, st_iload_n, st_invokevirtual, st_istore_n, st_putfield, st_return]
        exact hj1
      · have z := Classical.not_not.mp z
        rw [show growth c j = 0 from by unfold growth; rw [if_pos z]] at hj1
        exact hj1
  clear loop2
  obtain ⟨sc, ar, it⟩ := s
  have hM2 := hM.putO (upd sc 19 0)
  have hl := loop1 4 0 rfl _ _ (hM.frO) hM2 SFr.gn (hS.fr SFr.gn rfl rfl rfl hS.2) (by simp only [pk_us]) (fun i hi => absurd hi (by omega))
  obtain ⟨⟨m1, -⟩, e1, -⟩ := id hM
  simp only [ME, hput] at m1 e1 hl
  refine ⟨Nat.le_of_ble_eq_true rfl, yvc_ok (uX7_goDay Γ) (S := [7]) 60 _ _ _ _ ?_⟩
  simp only [lv_args, Value.category, m1, e1, yvc_s, s1i, s2i, s1l, s2l, sil, s1r, sir, siir, slir, srir, svr, sd1, sd2, lg, lput, ldel, isL_i, isL_r, isL_l, jmp, obj, obj1, fI, fR, arI, arL, arR, hput, f4_0, f4_1, f4_2, f4_3, lc_0, lc_1, rok_i, rok_b, rok_y, strF, fput_1, fput_2, csum_nil, csum_i, csum_l, csum_r, va_up_self, bx_uu, Int.reduceAdd, List.elem_nil, List.elem_cons, List.take_succ_cons, List.take_zero, List.drop_succ_cons, List.drop_zero, List.take_nil, List.drop_nil, List.reverse_cons, List.reverse_nil, List.nil_append, List.cons_append, List.append_nil, Option.toList_some, Option.toList_none, List.getElem?_cons_zero, List.getElem?_cons_succ, List.set_cons_zero, List.set_cons_succ, List.length_cons, List.length_nil, reduceIte, reduceCtorEq, and_true, true_and, and_self, or_true, true_or, false_and, and_false, not_true_eq_false, not_false_eq_true, true_implies, false_implies, implies_true, Nat.reduceAdd, Nat.reduceLT, Nat.reduceEqDiff, Nat.reduceLeDiff, Nat.reduceBEq, Nat.zero_add, Nat.lt_add_one, Bool.false_eq_true, Bool.or_false, Bool.or_true, Bool.or_self, Nat.zero_ne_one, Nat.one_ne_zero, ite_true, ite_false, ne_eq, Nat.reduceSub, Nat.succ_eq_add_one, Nat.zero_lt_succ, Nat.add_one_ne_zero, false_or, or_false, mX7_goDay_c, mX7_goDay_n, mX7_goDay_r, mX7_goDay_l, dX7_goDay_0, dX7_goDay_1, ic_0, dX7_goDay_2, fl_7_79_7, dX7_goDay_5, dX7_goDay_6, dX7_goDay_7, dX7_goDay_8, ic_4, dX7_goDay_9, tg_9_47, cnd2_ge, dX7_goDay_12, dX7_goDay_13, fl_7_51_7, dX7_goDay_16, dX7_goDay_17, dX7_goDay_18, fl_7_20_7, dX7_goDay_21, bc_20, dX7_goDay_23, dX7_goDay_24, dX7_goDay_25, dX7_goDay_26, bc_m4, dX7_goDay_28, tg_28_7, cnd2_ne, dX7_goDay_31, dX7_goDay_32, tg_32_17, dX7_goDay_35, dX7_goDay_36, dX7_goDay_37, dX7_goDay_40, dX7_goDay_42, dX7_goDay_43, dX7_goDay_44, dX7_goDay_45, dX7_goDay_46, dX7_goDay_49, dX7_goDay_50, ic_1, dX7_goDay_53, tg_53_m46, dX7_goDay_56, dX7_goDay_57, dX7_goDay_58, dX7_goDay_59, dX7_goDay_60, tg_60_43, dX7_goDay_63, dX7_goDay_64, dX7_goDay_67, dX7_goDay_69, dX7_goDay_70, dX7_goDay_71, dX7_goDay_72, dX7_goDay_74, tg_74_23, cnd2_eq, dX7_goDay_77, dX7_goDay_78, dX7_goDay_79, dX7_goDay_82, dX7_goDay_84, dX7_goDay_85, dX7_goDay_86, dX7_goDay_87, dX7_goDay_88, dX7_goDay_89, dX7_goDay_92, dX7_goDay_93, dX7_goDay_94, dX7_goDay_97, dX7_goDay_100, tg_100_m42, dX7_goDay_103, dX7_goDay_104, dX7_goDay_105, dX7_goDay_106, dX7_goDay_107, tg_107_14, dX7_goDay_110, dX7_goDay_111, dX7_goDay_112, dX7_goDay_115, dX7_goDay_118, tg_118_m13, dX7_goDay_121, dX7_goDay_122, dX7_goDay_125, bc_24, dX7_goDay_127, dX7_goDay_128, dX7_goDay_129, dX7_goDay_130, dX7_goDay_131, dX7_goDay_132, jX7_goDay_0_85, jX7_goDay_0_89, jX7_goDay_0_93, st_aload_n, st_bipush, st_dup2, st_getfield, st_goto, st_iadd, st_iaload, st_iastore, st_iconst, st_if_icmp, st_iinc, st_iload_n, st_invokevirtual, st_istore_n, st_putfield, st_return]
  exact hl
theorem dayK.n {D : Nat} {c : CS} (h : CJ D c) (hD : D < 2 ^ 20) {n : Nat} (hn : n < 1000) : dayK (daysC c n) := ⟨D + n, h.steps n, by omega⟩
def dayS (c : CS) : Prop := ∃ D, CJ D c ∧ D < 2 ^ 20
def sp_X7_goDays (Γ : Cx) : YSp := fun av σ K => ∃ (n : Nat) (c : CS), mq Γ [.int (nI n)] (fun s => SD s c ∧ dayS c ∧ n < 100) (fun s s' r => SFr s s' ∧ SD s' (daysC c n) ∧ r = none) av σ K
theorem rv_X7_goDays {Γ : Cx} : Recv (sp_X7_goDays Γ) 1 7 := by
  intro av σ K h
  obtain ⟨n, c, h⟩ := h
  obtain ⟨q, fs, h1, h2, h3⟩ := rv_mq h
  exact ⟨q, _, fs, h1, rfl, h2, h3⟩
theorem bw_916 : Cond.code yX7_goDay cX7_goDay 2 none ∈ BW := bw_i 916 (by decide +kernel) (by decide +kernel)
theorem no_X7_goDay : NameOK yX7_goDay 0 := by unfold NameOK; decide +kernel
theorem bw_913 : Cond.methodLink RX7 97 yX7_goDay ∈ BW := bw_i 913 (by decide +kernel) (by decide +kernel)
theorem bw_915 : Cond.instanceMethod yX7_goDay ∈ BW := bw_i 915 (by decide +kernel) (by decide +kernel)
theorem bw_30 : Cond.selects RX7 yX7_goDay yX7_goDay ∈ BW := bw_i 30 (by decide +kernel) (by decide +kernel)
def mX7_goDays : Mt := (⟨3, 0, 0, 69⟩, RX7, cX7_goDays, 3, none, (0, 0), none)
theorem mX7_goDays_c : mX7_goDays.2.2.1 = cX7_goDays := rfl
theorem mX7_goDays_n : mX7_goDays.2.2.2.1 = 3 := rfl
theorem mX7_goDays_r : mX7_goDays.2.2.2.2.1 = none := rfl
theorem mX7_goDays_l : mX7_goDays.2.2.2.2.2.2 = none := rfl
def jX7_goDays (Γ : Cx) : List ((Nat × Nat) × Nat × Bool × YSp) := [((0, 97), 1, false, sp_X7_goDay Γ)]
theorem jX7_goDays_0_97 (Γ : Cx) : kT (jX7_goDays Γ) 0 97 = some (1, false, sp_X7_goDay Γ) := rfl
theorem uX7_goDays (Γ : Cx) : TbOK Γ mX7_goDays (fT fX7, cT kX7, kT (jX7_goDays Γ)) := tb_ok fX7_ok kX7_ok (all_cons ⟨call_V (n := 0) (T := TX7) (N := 26) (ok_X7_goDay Γ) (rv_X7_goDay (Γ := Γ)) rfl bw_916 bw_913 bw_915 bw_30 bw_49 no_X7_goDay ⟨⟨rfl, rfl⟩, ⟨by decide, by decide⟩, ⟨by decide, by decide⟩⟩, fun z => by cases z⟩ (all_nil))
set_option maxRecDepth 20000 in
theorem ok_X7_goDays (Γ : Cx) : Ok Γ yX7_goDays mX7_goDays (sp_X7_goDays Γ) := by
  refine ok_intro (by decide +kernel) rfl rfl ?_
  intro av σ K h
  obtain ⟨N, c, lab, ⟨a, ad⟩, s, rfl, hM, ⟨hS, ⟨D, hJ, hD⟩, hN⟩, h⟩ := h
  simp only at h
  have loop : ∀ n j : Nat, j + n = N → ∀ (s1 : MS) (σ1 : Hp), frm (fL lab 30) σ σ1 → Mod Γ lab (a, ad) s1 σ1 → SFr s s1 → SD s1 (daysC c j) → YG Γ mX7_goDays K 2 [(0, .ref a), (1, .int (nI N)), (2, .int (nI j))] [] σ1 := by
    intro n
    induction n with
    | zero =>
      intro j hj s1 σ1 hf hM1 hF hS1
      obtain rfl : j = N := by omega
      refine yvc1_ok (uX7_goDays Γ) (S := [2]) 40 ?_
      simp only [yvc1, geP, yvc_s, s1i, s2i, s1l, s2l, sil, s1r, sir, siir, slir, srir, svr, sd1, sd2, lg, lput, ldel, isL_i, isL_r, isL_l, jmp, obj, obj1, fI, fR, arI, arL, arR, hput, f4_0, f4_1, f4_2, f4_3, lc_0, lc_1, rok_i, rok_b, rok_y, strF, fput_1, fput_2, csum_nil, csum_i, csum_l, csum_r, va_up_self, bx_uu, Int.reduceAdd, List.elem_nil, List.elem_cons, List.take_succ_cons, List.take_zero, List.drop_succ_cons, List.drop_zero, List.take_nil, List.drop_nil, List.reverse_cons, List.reverse_nil, List.nil_append, List.cons_append, List.append_nil, Option.toList_some, Option.toList_none, List.getElem?_cons_zero, List.getElem?_cons_succ, List.set_cons_zero, List.set_cons_succ, List.length_cons, List.length_nil, reduceIte, reduceCtorEq, and_true, true_and, and_self, or_true, true_or, false_and, and_false, not_true_eq_false, not_false_eq_true, true_implies, false_implies, implies_true, Nat.reduceAdd, Nat.reduceLT, Nat.reduceEqDiff, Nat.reduceLeDiff, Nat.reduceBEq, Nat.zero_add, Nat.lt_add_one, Bool.false_eq_true, Bool.or_false, Bool.or_true, Bool.or_self, Nat.zero_ne_one, Nat.one_ne_zero, ite_true, ite_false, ne_eq, Nat.reduceSub, Nat.succ_eq_add_one, Nat.zero_lt_succ, Nat.add_one_ne_zero, false_or, or_false, mX7_goDays_c, mX7_goDays_n, mX7_goDays_r, mX7_goDays_l, dX7_goDays_0, ic_0, dX7_goDays_1, dX7_goDays_2, dX7_goDays_3, dX7_goDays_4, tg_4_13, cnd2_ge, dX7_goDays_7, dX7_goDays_8, dX7_goDays_11, ic_1, dX7_goDays_14, tg_14_m12, dX7_goDays_17, jX7_goDays_0_97, st_aload_n, st_goto, st_iconst, st_if_icmp, st_iinc, st_iload_n, st_invokevirtual, st_istore_n, st_return]
      exact h σ1 s1 none ⟨hF, hS1, rfl⟩ hf hM1
    | succ n ih =>
      intro j hj s1 σ1 hf hM1 hF hS1
      have c1 := ltN (show j < N by omega) (by omega)
      refine yvc1_ok (uX7_goDays Γ) (S := [2]) 40 ?_
      simp only [yvc1, c1, yvc_s, s1i, s2i, s1l, s2l, sil, s1r, sir, siir, slir, srir, svr, sd1, sd2, lg, lput, ldel, isL_i, isL_r, isL_l, jmp, obj, obj1, fI, fR, arI, arL, arR, hput, f4_0, f4_1, f4_2, f4_3, lc_0, lc_1, rok_i, rok_b, rok_y, strF, fput_1, fput_2, csum_nil, csum_i, csum_l, csum_r, va_up_self, bx_uu, Int.reduceAdd, List.elem_nil, List.elem_cons, List.take_succ_cons, List.take_zero, List.drop_succ_cons, List.drop_zero, List.take_nil, List.drop_nil, List.reverse_cons, List.reverse_nil, List.nil_append, List.cons_append, List.append_nil, Option.toList_some, Option.toList_none, List.getElem?_cons_zero, List.getElem?_cons_succ, List.set_cons_zero, List.set_cons_succ, List.length_cons, List.length_nil, reduceIte, reduceCtorEq, and_true, true_and, and_self, or_true, true_or, false_and, and_false, not_true_eq_false, not_false_eq_true, true_implies, false_implies, implies_true, Nat.reduceAdd, Nat.reduceLT, Nat.reduceEqDiff, Nat.reduceLeDiff, Nat.reduceBEq, Nat.zero_add, Nat.lt_add_one, Bool.false_eq_true, Bool.or_false, Bool.or_true, Bool.or_self, Nat.zero_ne_one, Nat.one_ne_zero, ite_true, ite_false, ne_eq, Nat.reduceSub, Nat.succ_eq_add_one, Nat.zero_lt_succ, Nat.add_one_ne_zero, false_or, or_false, mX7_goDays_c, mX7_goDays_n, mX7_goDays_r, mX7_goDays_l, dX7_goDays_0, ic_0, dX7_goDays_1, dX7_goDays_2, dX7_goDays_3, dX7_goDays_4, tg_4_13, cnd2_ge, dX7_goDays_7, dX7_goDays_8, dX7_goDays_11, ic_1, dX7_goDays_14, tg_14_m12, dX7_goDays_17, jX7_goDays_0_97, st_aload_n, st_goto, st_iconst, st_if_icmp, st_iinc, st_iload_n, st_invokevirtual, st_istore_n, st_return]
      refine ⟨daysC c j, lab, (a, ad), s1, rfl, hM1, ⟨hS1, dayK.n hJ hD (by omega)⟩, ?_⟩
      rintro σ2 s2 r ⟨hF2, hS2, -, hr⟩ hf2 hM2
      subst hr
      have hj1 := ih (j + 1) (by omega) s2 σ2 (hf.tr hf2) hM2 (hF.tr hF2) hS2
      refine yvc_ok (uX7_goDays Γ) (S := [2]) 40 _ _ _ _ ?_
      simp only [nI_1, yvc_s, s1i, s2i, s1l, s2l, sil, s1r, sir, siir, slir, srir, svr, sd1, sd2, lg, lput, ldel, isL_i, isL_r, isL_l, jmp, obj, obj1, fI, fR, arI, arL, arR, hput, f4_0, f4_1, f4_2, f4_3, lc_0, lc_1, rok_i, rok_b, rok_y, strF, fput_1, fput_2, csum_nil, csum_i, csum_l, csum_r, va_up_self, bx_uu, Int.reduceAdd, List.elem_nil, List.elem_cons, List.take_succ_cons, List.take_zero, List.drop_succ_cons, List.drop_zero, List.take_nil, List.drop_nil, List.reverse_cons, List.reverse_nil, List.nil_append, List.cons_append, List.append_nil, Option.toList_some, Option.toList_none, List.getElem?_cons_zero, List.getElem?_cons_succ, List.set_cons_zero, List.set_cons_succ, List.length_cons, List.length_nil, reduceIte, reduceCtorEq, and_true, true_and, and_self, or_true, true_or, false_and, and_false, not_true_eq_false, not_false_eq_true, true_implies, false_implies, implies_true, Nat.reduceAdd, Nat.reduceLT, Nat.reduceEqDiff, Nat.reduceLeDiff, Nat.reduceBEq, Nat.zero_add, Nat.lt_add_one, Bool.false_eq_true, Bool.or_false, Bool.or_true, Bool.or_self, Nat.zero_ne_one, Nat.one_ne_zero, ite_true, ite_false, ne_eq, Nat.reduceSub, Nat.succ_eq_add_one, Nat.zero_lt_succ, Nat.add_one_ne_zero, false_or, or_false, mX7_goDays_c, mX7_goDays_n, mX7_goDays_r, mX7_goDays_l, dX7_goDays_0, ic_0, dX7_goDays_1, dX7_goDays_2, dX7_goDays_3, dX7_goDays_4, tg_4_13, cnd2_ge, dX7_goDays_7, dX7_goDays_8, dX7_goDays_11, ic_1, dX7_goDays_14, tg_14_m12, dX7_goDays_17, jX7_goDays_0_97, st_aload_n, st_goto, st_iconst, st_if_icmp, st_iinc, st_iload_n, st_invokevirtual, st_istore_n, st_return]
      exact hj1
  have hl := loop N 0 (by omega) s σ frm.rf hM SFr.rf hS
  refine ⟨Nat.le_of_ble_eq_true rfl, yvc_ok (uX7_goDays Γ) (S := [2]) 60 _ _ _ _ ?_⟩
  simp only [lv_args, Value.category, yvc_s, s1i, s2i, s1l, s2l, sil, s1r, sir, siir, slir, srir, svr, sd1, sd2, lg, lput, ldel, isL_i, isL_r, isL_l, jmp, obj, obj1, fI, fR, arI, arL, arR, hput, f4_0, f4_1, f4_2, f4_3, lc_0, lc_1, rok_i, rok_b, rok_y, strF, fput_1, fput_2, csum_nil, csum_i, csum_l, csum_r, va_up_self, bx_uu, Int.reduceAdd, List.elem_nil, List.elem_cons, List.take_succ_cons, List.take_zero, List.drop_succ_cons, List.drop_zero, List.take_nil, List.drop_nil, List.reverse_cons, List.reverse_nil, List.nil_append, List.cons_append, List.append_nil, Option.toList_some, Option.toList_none, List.getElem?_cons_zero, List.getElem?_cons_succ, List.set_cons_zero, List.set_cons_succ, List.length_cons, List.length_nil, reduceIte, reduceCtorEq, and_true, true_and, and_self, or_true, true_or, false_and, and_false, not_true_eq_false, not_false_eq_true, true_implies, false_implies, implies_true, Nat.reduceAdd, Nat.reduceLT, Nat.reduceEqDiff, Nat.reduceLeDiff, Nat.reduceBEq, Nat.zero_add, Nat.lt_add_one, Bool.false_eq_true, Bool.or_false, Bool.or_true, Bool.or_self, Nat.zero_ne_one, Nat.one_ne_zero, ite_true, ite_false, ne_eq, Nat.reduceSub, Nat.succ_eq_add_one, Nat.zero_lt_succ, Nat.add_one_ne_zero, false_or, or_false, mX7_goDays_c, mX7_goDays_n, mX7_goDays_r, mX7_goDays_l, dX7_goDays_0, ic_0, dX7_goDays_1, dX7_goDays_2, dX7_goDays_3, dX7_goDays_4, tg_4_13, cnd2_ge, dX7_goDays_7, dX7_goDays_8, dX7_goDays_11, ic_1, dX7_goDays_14, tg_14_m12, dX7_goDays_17, jX7_goDays_0_97, st_aload_n, st_goto, st_iconst, st_if_icmp, st_iinc, st_iload_n, st_invokevirtual, st_istore_n, st_return]
  exact hl
