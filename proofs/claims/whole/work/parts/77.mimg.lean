/-! ===== YawnKeysModel: image, restore ===== -/
theorem SN.cp {p r u : Int32} {kd row bf kd' row' bf' : Nat → Int32} {c c' : CS} {pa : (Nat → MC) × Nat} {pm : Nat → MC} (h : SN p r u kd row bf c pa) (hl : Like c' c) (hk : ∀ q, q < 5 → kd' q = kd q) (hr : ∀ k, k < 27 → row' k = row k) (hb : ∀ k, k < 216 → bf' k = bf k) (hp : ∀ i, i < pa.2 → pm i = pa.1 i) : SN p r u kd' row' bf' c' (pm, pa.2) := by
  obtain ⟨h1, h2, h3, h4, hI, h5, h6, h7⟩ := h
  have hP := hI.P5
  have e := hl.2.2.2.2.2.2.1
  refine ⟨?_, ?_, h3, h4, hl.ci hI, ?_, ?_, ?_⟩
  · rw [e]; exact h1
  · rw [hl.2.2.2.2.2.2.2]; exact h2
  · intro q hq
    rw [e] at hq
    rw [hk q (by omega), hl.2.2.1 q hq]
    exact h5 q hq
  · exact (hl.row h6).row (by rw [e]; exact hP) hr
  · intro i hi
    have hi : i < pa.2 := hi
    have h := h7 i hi
    rw [e]
    show MI _ (pm i) ∧ RowM _ _ (pm i)
    rw [hp i hi]
    exact ⟨h.1, h.2.row hP (fun k hk => hb _ (by omega))⟩
theorem in1_8 : vp_in (1 : Int32) 8 := show vp_in (nI 1) 8 from vp_in_nI (by decide) (by decide)
theorem in2_8 : vp_in (2 : Int32) 8 := show vp_in (nI 2) 8 from vp_in_nI (by decide) (by decide)
theorem cn1 : (1 : Int32).toNatClampNeg = 1 := by decide
theorem cn2 : (2 : Int32).toNatClampNeg = 2 := by decide
theorem lt5j {j : Nat} (h : j < 5) : (¬ (5 : Int32) ≤ nI j) ∧ vp_in (nI j) 5 ∧ (nI j).toNatClampNeg = j := ⟨nI_ge h (by decide), vp_in_nI h (by decide), nI_clamp (by omega)⟩
theorem ge5j : (5 : Int32) ≤ nI 5 := by decide
theorem lt216 {j : Nat} (h : j < 216) : (¬ (216 : Int32) ≤ nI j) ∧ vp_in (nI j) 216 ∧ (nI j).toNatClampNeg = j := ⟨nI_ge h (by decide), vp_in_nI h (by decide), nI_clamp (by omega)⟩
theorem ge216 : (216 : Int32) ≤ nI 216 := by decide
theorem ix3j {j : Nat} (h : j < 5) : vp_in (3 + nI j) 8 ∧ (3 + nI j).toNatClampNeg = 3 + j := by
  rw [show (3 : Int32) = nI 3 from rfl, nI_add]
  exact ⟨vp_in_nI (by omega) (by decide), nI_clamp (by omega)⟩
def im8 (f g : Nat → Int32) : Nat → Nat → Int32
  | 0 => f
  | j + 1 => upd (im8 f g j) (3 + j) (g j)
theorem im8_at {f g : Nat → Int32} : ∀ n k : Nat, im8 f g n k = if 3 ≤ k ∧ k < 3 + n then g (k - 3) else f k
  | 0, k => by rw [im8, if_neg (by omega)]
  | n + 1, k => by
    rw [im8]
    by_cases e : k = 3 + n
    · subst e; rw [pk_us, if_pos (by omega)]; congr 1; omega
    · rw [pk_un e, im8_at n k]
      by_cases c : 3 ≤ k ∧ k < 3 + n
      · rw [if_pos c, if_pos (by omega)]
      · rw [if_neg c, if_neg (by omega)]
def sp_X7_image (Γ : Cx) : YSp := fun av σ K => mo Γ [] (fn x_image) av σ K
theorem rv_X7_image {Γ : Cx} : Recv (sp_X7_image Γ) 0 7 := by
  intro av σ K h
  obtain ⟨q, fs, h1, h2, h3⟩ := rv_mo h
  exact ⟨q, _, fs, h1, rfl, h2, h3⟩
theorem tg_34_23 : tgo 34 23 = some 57 := by decide
theorem tg_54_m22 : tgo 54 (-22) = some 32 := by decide
theorem tg_62_21 : tgo 62 21 = some 83 := by decide
theorem tg_80_m21 : tgo 80 (-21) = some 59 := by decide
theorem sc_216 : (Int16.ofInt 216).toInt32 = 216 := by decide
theorem tg_89_21 : tgo 89 21 = some 110 := by decide
theorem tg_107_m22 : tgo 107 (-22) = some 85 := by decide
def mX7_image : Mt := (⟨0, 0, 0, 0⟩, RX7, cX7_image, 2, some .int, (0, 0), none)
theorem mX7_image_c : mX7_image.2.2.1 = cX7_image := rfl
theorem mX7_image_n : mX7_image.2.2.2.1 = 2 := rfl
theorem mX7_image_r : mX7_image.2.2.2.2.1 = some .int := rfl
theorem mX7_image_l : mX7_image.2.2.2.2.2.2 = none := rfl
def jX7_image (Γ : Cx) : List ((Nat × Nat) × Nat × Bool × YSp) := []
theorem uX7_image (Γ : Cx) : TbOK Γ mX7_image (fT fX7, cT kX7, kT (jX7_image Γ)) := tb_ok fX7_ok kX7_ok (all_nil)
set_option maxRecDepth 20000 in
theorem ok_X7_image (Γ : Cx) : Ok Γ yX7_image mX7_image (sp_X7_image Γ) := by
  refine ok_intro (by decide +kernel) rfl rfl ?_
  intro av σ K h
  obtain ⟨lab, ⟨a, ad⟩, ⟨sc, ar, it⟩, ψ, ψ', r, rfl, hM, hR, hrel, h⟩ := h
  try simp only at h
  obtain ⟨⟨m1, -⟩, e1, -⟩ := id hM
  obtain ⟨⟨p1, p2, p3, p4, pI, p5, p6, p7⟩, hImg, h16, hT, hSh⟩ := id hR
  have hP := pI.P5
  simp only at p1 p2 p3 p4 p5 p6 p7 hImg h16 hT hSh
  simp only [ME] at m1 e1
  obtain ⟨hq1, hq2⟩ := fn_r hrel
  rw [hq1, hq2] at h
  clear hq1 hq2 hrel ψ' r
  unfold x_image at h
  simp only at h
  generalize hf0 : upd (upd (upd (ar 8) 0 (sc 0)) 1 (sc 1)) 2 (sc 6) = f0
  have loop3 : ∀ n j : Nat, j + n = 216 → ∀ σ1, frm (fL lab 30) σ σ1 → Mod Γ lab (a, ad) (sc, updA (updA (updA ar 8 (im8 f0 (ar 2) 5)) 9 (cpN 27 (ar 3) (ar 9))) 10 (cpN j (ar 5) (ar 10)), it) σ1 → YG Γ mX7_image K 85 [(0, .ref a), (1, .int (nI j))] [] σ1 := by
    intro n
    induction n with
    | zero =>
      intro j hj σ1 hf1 hM1
      obtain rfl : j = 216 := by omega
      have hk := h _ (upd sc 7 1, updA (updA (updA ar 8 (im8 f0 (ar 2) 5)) 9 (cpN 27 (ar 3) (ar 9))) 10 (cpN 216 (ar 5) (ar 10)), it) (by
        refine ⟨hR.1, ⟨rfl, fun _ => ?_⟩, h16, hT, hSh⟩
        have e0 : im8 f0 (ar 2) 5 0 = sc 0 := by rw [im8_at, if_neg (by omega), ← hf0, pk_un (by decide), pk_un (by decide), pk_us]
        have e1 : im8 f0 (ar 2) 5 1 = sc 1 := by rw [im8_at, if_neg (by omega), ← hf0, pk_un (by decide), pk_us]
        have e2 : im8 f0 (ar 2) 5 2 = sc 6 := by rw [im8_at, if_neg (by omega), ← hf0, pk_us]
        show SN (im8 f0 (ar 2) 5 0) (im8 f0 (ar 2) 5 1) (im8 f0 (ar 2) 5 2) (fun p => im8 f0 (ar 2) 5 (3 + p)) (cpN 27 (ar 3) (ar 9)) (cpN 216 (ar 5) (ar 10)) (bec ψ.2.1 ψ.1) (becM ψ.2.2.2.1.1 ψ.2.2.1.1 ψ.2.2.1.2, ψ.2.2.1.2)
        rw [e0, e1, e2]
        refine SN.cp hR.1 (like_bec hP) (fun q hq => ?_) (fun k hk => cpN_in hk) (fun k hk => cpN_in hk) (fun i hi => ?_)
        · show im8 f0 (ar 2) 5 (3 + q) = ar 2 q
          rw [im8_at, if_pos (by omega)]
          congr 1
          omega
        · unfold becM
          rw [if_pos hi]) (hf1.tr hM1.frO) (hM1.putO (upd sc 7 1))
      obtain ⟨⟨m1, -⟩, e1, -⟩ := id hM1
      simp only [ME, hput] at m1 e1 hk
      refine yvc1_ok (uX7_image Γ) (S := [85]) 40 ?_
      simp only [yvc1, ge216, m1, e1, yvc_s, s1i, s2i, s1l, s2l, sil, s1r, sir, siir, slir, srir, svr, sd1, sd2, lg, lput, ldel, isL_i, isL_r, isL_l, jmp, obj, obj1, fI, fR, arI, arL, arR, hput, f4_0, f4_1, f4_2, f4_3, lc_0, lc_1, rok_i, rok_b, rok_y, strF, fput_1, fput_2, csum_nil, csum_i, csum_l, csum_r, va_up_self, bx_uu, Int.reduceAdd, List.elem_nil, List.elem_cons, List.take_succ_cons, List.take_zero, List.drop_succ_cons, List.drop_zero, List.take_nil, List.drop_nil, List.reverse_cons, List.reverse_nil, List.nil_append, List.cons_append, List.append_nil, Option.toList_some, Option.toList_none, List.getElem?_cons_zero, List.getElem?_cons_succ, List.set_cons_zero, List.set_cons_succ, List.length_cons, List.length_nil, reduceIte, reduceCtorEq, and_true, true_and, and_self, or_true, true_or, false_and, and_false, not_true_eq_false, not_false_eq_true, true_implies, false_implies, implies_true, Nat.reduceAdd, Nat.reduceLT, Nat.reduceEqDiff, Nat.reduceLeDiff, Nat.reduceBEq, Nat.zero_add, Nat.lt_add_one, Bool.false_eq_true, Bool.or_false, Bool.or_true, Bool.or_self, Nat.zero_ne_one, Nat.one_ne_zero, ite_true, ite_false, ne_eq, Nat.reduceSub, Nat.succ_eq_add_one, Nat.zero_lt_succ, Nat.add_one_ne_zero, false_or, or_false, mX7_image_c, mX7_image_n, mX7_image_r, mX7_image_l, dX7_image_0, dX7_image_1, fl_7_26_7, dX7_image_4, ic_0, dX7_image_5, dX7_image_6, fl_7_60_7, dX7_image_9, dX7_image_10, dX7_image_11, dX7_image_14, ic_1, dX7_image_15, dX7_image_16, fl_7_7_7, dX7_image_19, dX7_image_20, dX7_image_21, dX7_image_24, ic_2, dX7_image_25, dX7_image_26, fl_7_104_7, dX7_image_29, dX7_image_30, dX7_image_31, dX7_image_32, dX7_image_33, ic_5, dX7_image_34, tg_34_23, cnd2_ge, dX7_image_37, dX7_image_38, dX7_image_41, ic_3, dX7_image_42, dX7_image_43, dX7_image_44, dX7_image_45, fl_7_13_7, dX7_image_48, dX7_image_49, dX7_image_50, dX7_image_51, dX7_image_54, tg_54_m22, dX7_image_57, dX7_image_58, dX7_image_59, dX7_image_60, bc_27, dX7_image_62, tg_62_21, dX7_image_65, dX7_image_66, fl_7_29_7, dX7_image_69, dX7_image_70, dX7_image_71, fl_7_17_7, dX7_image_74, dX7_image_75, dX7_image_76, dX7_image_77, dX7_image_80, tg_80_m21, dX7_image_83, dX7_image_84, dX7_image_85, dX7_image_86, sc_216, dX7_image_89, tg_89_21, dX7_image_92, dX7_image_93, fl_7_32_7, dX7_image_96, dX7_image_97, dX7_image_98, fl_7_23_7, dX7_image_101, dX7_image_102, dX7_image_103, dX7_image_104, dX7_image_107, tg_107_m22, dX7_image_110, dX7_image_111, dX7_image_112, fl_7_207_7, dX7_image_115, dX7_image_116, st_aload_n, st_bipush, st_getfield, st_goto, st_iadd, st_iaload, st_iastore, st_iconst, st_if_icmp, st_iinc, st_iload_n, st_ireturn, st_istore_n, st_putfield, st_sipush]
      exact hk
    | succ n ih =>
      intro j hj σ1 hf1 hM1
      obtain ⟨c1, c2, c3⟩ := lt216 (show j < 216 by omega)
      have hM2 := hM1.putA (k := 10) rfl (cpN (j + 1) (ar 5) (ar 10))
      simp only [updA_updA] at hM2
      have hj1 := ih (j + 1) (by omega) _ (hf1.tr (hM1.frA (k := 10) rfl)) hM2
      obtain ⟨⟨m1, -⟩, e1, -⟩ := id hM1
      obtain ⟨m5, e5⟩ := hM1.arr 5 rfl
      obtain ⟨m10, e10⟩ := hM1.arr 10 rfl
      rw [← cpN_s] at hj1
      simp only [ME, iA, lenM, hput, updA_at, updA_ne (show (5 : Nat) ≠ 10 by decide), updA_ne (show (5 : Nat) ≠ 9 by decide), updA_ne (show (5 : Nat) ≠ 8 by decide)] at m1 e1 m5 e5 m10 e10 hj1
      refine yvc1_ok (uX7_image Γ) (S := [85]) 40 ?_
      simp only [yvc1, c1, c2, c3, m1, e1, m5, e5, m10, e10, nI_1, yvc_s, s1i, s2i, s1l, s2l, sil, s1r, sir, siir, slir, srir, svr, sd1, sd2, lg, lput, ldel, isL_i, isL_r, isL_l, jmp, obj, obj1, fI, fR, arI, arL, arR, hput, f4_0, f4_1, f4_2, f4_3, lc_0, lc_1, rok_i, rok_b, rok_y, strF, fput_1, fput_2, csum_nil, csum_i, csum_l, csum_r, va_up_self, bx_uu, Int.reduceAdd, List.elem_nil, List.elem_cons, List.take_succ_cons, List.take_zero, List.drop_succ_cons, List.drop_zero, List.take_nil, List.drop_nil, List.reverse_cons, List.reverse_nil, List.nil_append, List.cons_append, List.append_nil, Option.toList_some, Option.toList_none, List.getElem?_cons_zero, List.getElem?_cons_succ, List.set_cons_zero, List.set_cons_succ, List.length_cons, List.length_nil, reduceIte, reduceCtorEq, and_true, true_and, and_self, or_true, true_or, false_and, and_false, not_true_eq_false, not_false_eq_true, true_implies, false_implies, implies_true, Nat.reduceAdd, Nat.reduceLT, Nat.reduceEqDiff, Nat.reduceLeDiff, Nat.reduceBEq, Nat.zero_add, Nat.lt_add_one, Bool.false_eq_true, Bool.or_false, Bool.or_true, Bool.or_self, Nat.zero_ne_one, Nat.one_ne_zero, ite_true, ite_false, ne_eq, Nat.reduceSub, Nat.succ_eq_add_one, Nat.zero_lt_succ, Nat.add_one_ne_zero, false_or, or_false, mX7_image_c, mX7_image_n, mX7_image_r, mX7_image_l, dX7_image_0, dX7_image_1, fl_7_26_7, dX7_image_4, ic_0, dX7_image_5, dX7_image_6, fl_7_60_7, dX7_image_9, dX7_image_10, dX7_image_11, dX7_image_14, ic_1, dX7_image_15, dX7_image_16, fl_7_7_7, dX7_image_19, dX7_image_20, dX7_image_21, dX7_image_24, ic_2, dX7_image_25, dX7_image_26, fl_7_104_7, dX7_image_29, dX7_image_30, dX7_image_31, dX7_image_32, dX7_image_33, ic_5, dX7_image_34, tg_34_23, cnd2_ge, dX7_image_37, dX7_image_38, dX7_image_41, ic_3, dX7_image_42, dX7_image_43, dX7_image_44, dX7_image_45, fl_7_13_7, dX7_image_48, dX7_image_49, dX7_image_50, dX7_image_51, dX7_image_54, tg_54_m22, dX7_image_57, dX7_image_58, dX7_image_59, dX7_image_60, bc_27, dX7_image_62, tg_62_21, dX7_image_65, dX7_image_66, fl_7_29_7, dX7_image_69, dX7_image_70, dX7_image_71, fl_7_17_7, dX7_image_74, dX7_image_75, dX7_image_76, dX7_image_77, dX7_image_80, tg_80_m21, dX7_image_83, dX7_image_84, dX7_image_85, dX7_image_86, sc_216, dX7_image_89, tg_89_21, dX7_image_92, dX7_image_93, fl_7_32_7, dX7_image_96, dX7_image_97, dX7_image_98, fl_7_23_7, dX7_image_101, dX7_image_102, dX7_image_103, dX7_image_104, dX7_image_107, tg_107_m22, dX7_image_110, dX7_image_111, dX7_image_112, fl_7_207_7, dX7_image_115, dX7_image_116, st_aload_n, st_bipush, st_getfield, st_goto, st_iadd, st_iaload, st_iastore, st_iconst, st_if_icmp, st_iinc, st_iload_n, st_ireturn, st_istore_n, st_putfield, st_sipush]
      exact hj1
  clear h
  have loop2 : ∀ n j : Nat, j + n = 27 → ∀ σ1, frm (fL lab 30) σ σ1 → Mod Γ lab (a, ad) (sc, updA (updA ar 8 (im8 f0 (ar 2) 5)) 9 (cpN j (ar 3) (ar 9)), it) σ1 → YG Γ mX7_image K 59 [(0, .ref a), (1, .int (nI j))] [] σ1 := by
    intro n
    induction n with
    | zero =>
      intro j hj σ1 hf1 hM1
      obtain rfl : j = 27 := by omega
      have hl := loop3 216 0 rfl σ1 hf1 (by
        have e : updA (updA (updA ar 8 (im8 f0 (ar 2) 5)) 9 (cpN 27 (ar 3) (ar 9))) 10 (cpN 0 (ar 5) (ar 10)) = updA (updA ar 8 (im8 f0 (ar 2) 5)) 9 (cpN 27 (ar 3) (ar 9)) := by
          have := updA_self (ar := updA (updA ar 8 (im8 f0 (ar 2) 5)) 9 (cpN 27 (ar 3) (ar 9))) (k := 10)
          rw [updA_ne (by decide), updA_ne (by decide)] at this
          rw [cpN_0]
          exact this
        rw [e]
        exact hM1)
      refine yvc1_ok (uX7_image Γ) (S := [59, 85]) 40 ?_
      simp only [yvc1, ge27, yvc_s, s1i, s2i, s1l, s2l, sil, s1r, sir, siir, slir, srir, svr, sd1, sd2, lg, lput, ldel, isL_i, isL_r, isL_l, jmp, obj, obj1, fI, fR, arI, arL, arR, hput, f4_0, f4_1, f4_2, f4_3, lc_0, lc_1, rok_i, rok_b, rok_y, strF, fput_1, fput_2, csum_nil, csum_i, csum_l, csum_r, va_up_self, bx_uu, Int.reduceAdd, List.elem_nil, List.elem_cons, List.take_succ_cons, List.take_zero, List.drop_succ_cons, List.drop_zero, List.take_nil, List.drop_nil, List.reverse_cons, List.reverse_nil, List.nil_append, List.cons_append, List.append_nil, Option.toList_some, Option.toList_none, List.getElem?_cons_zero, List.getElem?_cons_succ, List.set_cons_zero, List.set_cons_succ, List.length_cons, List.length_nil, reduceIte, reduceCtorEq, and_true, true_and, and_self, or_true, true_or, false_and, and_false, not_true_eq_false, not_false_eq_true, true_implies, false_implies, implies_true, Nat.reduceAdd, Nat.reduceLT, Nat.reduceEqDiff, Nat.reduceLeDiff, Nat.reduceBEq, Nat.zero_add, Nat.lt_add_one, Bool.false_eq_true, Bool.or_false, Bool.or_true, Bool.or_self, Nat.zero_ne_one, Nat.one_ne_zero, ite_true, ite_false, ne_eq, Nat.reduceSub, Nat.succ_eq_add_one, Nat.zero_lt_succ, Nat.add_one_ne_zero, false_or, or_false, mX7_image_c, mX7_image_n, mX7_image_r, mX7_image_l, dX7_image_0, dX7_image_1, fl_7_26_7, dX7_image_4, ic_0, dX7_image_5, dX7_image_6, fl_7_60_7, dX7_image_9, dX7_image_10, dX7_image_11, dX7_image_14, ic_1, dX7_image_15, dX7_image_16, fl_7_7_7, dX7_image_19, dX7_image_20, dX7_image_21, dX7_image_24, ic_2, dX7_image_25, dX7_image_26, fl_7_104_7, dX7_image_29, dX7_image_30, dX7_image_31, dX7_image_32, dX7_image_33, ic_5, dX7_image_34, tg_34_23, cnd2_ge, dX7_image_37, dX7_image_38, dX7_image_41, ic_3, dX7_image_42, dX7_image_43, dX7_image_44, dX7_image_45, fl_7_13_7, dX7_image_48, dX7_image_49, dX7_image_50, dX7_image_51, dX7_image_54, tg_54_m22, dX7_image_57, dX7_image_58, dX7_image_59, dX7_image_60, bc_27, dX7_image_62, tg_62_21, dX7_image_65, dX7_image_66, fl_7_29_7, dX7_image_69, dX7_image_70, dX7_image_71, fl_7_17_7, dX7_image_74, dX7_image_75, dX7_image_76, dX7_image_77, dX7_image_80, tg_80_m21, dX7_image_83, dX7_image_84, dX7_image_85, dX7_image_86, sc_216, dX7_image_89, tg_89_21, dX7_image_92, dX7_image_93, fl_7_32_7, dX7_image_96, dX7_image_97, dX7_image_98, fl_7_23_7, dX7_image_101, dX7_image_102, dX7_image_103, dX7_image_104, dX7_image_107, tg_107_m22, dX7_image_110, dX7_image_111, dX7_image_112, fl_7_207_7, dX7_image_115, dX7_image_116, st_aload_n, st_bipush, st_getfield, st_goto, st_iadd, st_iaload, st_iastore, st_iconst, st_if_icmp, st_iinc, st_iload_n, st_ireturn, st_istore_n, st_putfield, st_sipush]
      exact hl
    | succ n ih =>
      intro j hj σ1 hf1 hM1
      obtain ⟨c1, c2, c3⟩ := lt27 (show j < 27 by omega)
      have hM2 := hM1.putA (k := 9) rfl (cpN (j + 1) (ar 3) (ar 9))
      simp only [updA_updA] at hM2
      have hj1 := ih (j + 1) (by omega) _ (hf1.tr (hM1.frA (k := 9) rfl)) hM2
      obtain ⟨⟨m1, -⟩, e1, -⟩ := id hM1
      obtain ⟨m3, e3⟩ := hM1.arr 3 rfl
      obtain ⟨m9, e9⟩ := hM1.arr 9 rfl
      rw [← cpN_s] at hj1
      simp only [ME, iA, lenM, hput, updA_at, updA_ne (show (3 : Nat) ≠ 9 by decide), updA_ne (show (3 : Nat) ≠ 8 by decide)] at m1 e1 m3 e3 m9 e9 hj1
      refine yvc1_ok (uX7_image Γ) (S := [59, 85]) 40 ?_
      simp only [yvc1, c1, c2, c3, m1, e1, m3, e3, m9, e9, nI_1, yvc_s, s1i, s2i, s1l, s2l, sil, s1r, sir, siir, slir, srir, svr, sd1, sd2, lg, lput, ldel, isL_i, isL_r, isL_l, jmp, obj, obj1, fI, fR, arI, arL, arR, hput, f4_0, f4_1, f4_2, f4_3, lc_0, lc_1, rok_i, rok_b, rok_y, strF, fput_1, fput_2, csum_nil, csum_i, csum_l, csum_r, va_up_self, bx_uu, Int.reduceAdd, List.elem_nil, List.elem_cons, List.take_succ_cons, List.take_zero, List.drop_succ_cons, List.drop_zero, List.take_nil, List.drop_nil, List.reverse_cons, List.reverse_nil, List.nil_append, List.cons_append, List.append_nil, Option.toList_some, Option.toList_none, List.getElem?_cons_zero, List.getElem?_cons_succ, List.set_cons_zero, List.set_cons_succ, List.length_cons, List.length_nil, reduceIte, reduceCtorEq, and_true, true_and, and_self, or_true, true_or, false_and, and_false, not_true_eq_false, not_false_eq_true, true_implies, false_implies, implies_true, Nat.reduceAdd, Nat.reduceLT, Nat.reduceEqDiff, Nat.reduceLeDiff, Nat.reduceBEq, Nat.zero_add, Nat.lt_add_one, Bool.false_eq_true, Bool.or_false, Bool.or_true, Bool.or_self, Nat.zero_ne_one, Nat.one_ne_zero, ite_true, ite_false, ne_eq, Nat.reduceSub, Nat.succ_eq_add_one, Nat.zero_lt_succ, Nat.add_one_ne_zero, false_or, or_false, mX7_image_c, mX7_image_n, mX7_image_r, mX7_image_l, dX7_image_0, dX7_image_1, fl_7_26_7, dX7_image_4, ic_0, dX7_image_5, dX7_image_6, fl_7_60_7, dX7_image_9, dX7_image_10, dX7_image_11, dX7_image_14, ic_1, dX7_image_15, dX7_image_16, fl_7_7_7, dX7_image_19, dX7_image_20, dX7_image_21, dX7_image_24, ic_2, dX7_image_25, dX7_image_26, fl_7_104_7, dX7_image_29, dX7_image_30, dX7_image_31, dX7_image_32, dX7_image_33, ic_5, dX7_image_34, tg_34_23, cnd2_ge, dX7_image_37, dX7_image_38, dX7_image_41, ic_3, dX7_image_42, dX7_image_43, dX7_image_44, dX7_image_45, fl_7_13_7, dX7_image_48, dX7_image_49, dX7_image_50, dX7_image_51, dX7_image_54, tg_54_m22, dX7_image_57, dX7_image_58, dX7_image_59, dX7_image_60, bc_27, dX7_image_62, tg_62_21, dX7_image_65, dX7_image_66, fl_7_29_7, dX7_image_69, dX7_image_70, dX7_image_71, fl_7_17_7, dX7_image_74, dX7_image_75, dX7_image_76, dX7_image_77, dX7_image_80, tg_80_m21, dX7_image_83, dX7_image_84, dX7_image_85, dX7_image_86, sc_216, dX7_image_89, tg_89_21, dX7_image_92, dX7_image_93, fl_7_32_7, dX7_image_96, dX7_image_97, dX7_image_98, fl_7_23_7, dX7_image_101, dX7_image_102, dX7_image_103, dX7_image_104, dX7_image_107, tg_107_m22, dX7_image_110, dX7_image_111, dX7_image_112, fl_7_207_7, dX7_image_115, dX7_image_116, st_aload_n, st_bipush, st_getfield, st_goto, st_iadd, st_iaload, st_iastore, st_iconst, st_if_icmp, st_iinc, st_iload_n, st_ireturn, st_istore_n, st_putfield, st_sipush]
      exact hj1
  clear loop3
  have loop1 : ∀ n j : Nat, j + n = 5 → ∀ σ1, frm (fL lab 30) σ σ1 → Mod Γ lab (a, ad) (sc, updA ar 8 (im8 f0 (ar 2) j), it) σ1 → YG Γ mX7_image K 32 [(0, .ref a), (1, .int (nI j))] [] σ1 := by
    intro n
    induction n with
    | zero =>
      intro j hj σ1 hf1 hM1
      obtain rfl : j = 5 := by omega
      have hl := loop2 27 0 rfl σ1 hf1 (by
        have e : updA (updA ar 8 (im8 f0 (ar 2) 5)) 9 (cpN 0 (ar 3) (ar 9)) = updA ar 8 (im8 f0 (ar 2) 5) := by
          have := updA_self (ar := updA ar 8 (im8 f0 (ar 2) 5)) (k := 9)
          rw [updA_ne (by decide)] at this
          rw [cpN_0]
          exact this
        rw [e]
        exact hM1)
      refine yvc1_ok (uX7_image Γ) (S := [32, 59]) 40 ?_
      simp only [yvc1, ge5j, yvc_s, s1i, s2i, s1l, s2l, sil, s1r, sir, siir, slir, srir, svr, sd1, sd2, lg, lput, ldel, isL_i, isL_r, isL_l, jmp, obj, obj1, fI, fR, arI, arL, arR, hput, f4_0, f4_1, f4_2, f4_3, lc_0, lc_1, rok_i, rok_b, rok_y, strF, fput_1, fput_2, csum_nil, csum_i, csum_l, csum_r, va_up_self, bx_uu, Int.reduceAdd, List.elem_nil, List.elem_cons, List.take_succ_cons, List.take_zero, List.drop_succ_cons, List.drop_zero, List.take_nil, List.drop_nil, List.reverse_cons, List.reverse_nil, List.nil_append, List.cons_append, List.append_nil, Option.toList_some, Option.toList_none, List.getElem?_cons_zero, List.getElem?_cons_succ, List.set_cons_zero, List.set_cons_succ, List.length_cons, List.length_nil, reduceIte, reduceCtorEq, and_true, true_and, and_self, or_true, true_or, false_and, and_false, not_true_eq_false, not_false_eq_true, true_implies, false_implies, implies_true, Nat.reduceAdd, Nat.reduceLT, Nat.reduceEqDiff, Nat.reduceLeDiff, Nat.reduceBEq, Nat.zero_add, Nat.lt_add_one, Bool.false_eq_true, Bool.or_false, Bool.or_true, Bool.or_self, Nat.zero_ne_one, Nat.one_ne_zero, ite_true, ite_false, ne_eq, Nat.reduceSub, Nat.succ_eq_add_one, Nat.zero_lt_succ, Nat.add_one_ne_zero, false_or, or_false, mX7_image_c, mX7_image_n, mX7_image_r, mX7_image_l, dX7_image_0, dX7_image_1, fl_7_26_7, dX7_image_4, ic_0, dX7_image_5, dX7_image_6, fl_7_60_7, dX7_image_9, dX7_image_10, dX7_image_11, dX7_image_14, ic_1, dX7_image_15, dX7_image_16, fl_7_7_7, dX7_image_19, dX7_image_20, dX7_image_21, dX7_image_24, ic_2, dX7_image_25, dX7_image_26, fl_7_104_7, dX7_image_29, dX7_image_30, dX7_image_31, dX7_image_32, dX7_image_33, ic_5, dX7_image_34, tg_34_23, cnd2_ge, dX7_image_37, dX7_image_38, dX7_image_41, ic_3, dX7_image_42, dX7_image_43, dX7_image_44, dX7_image_45, fl_7_13_7, dX7_image_48, dX7_image_49, dX7_image_50, dX7_image_51, dX7_image_54, tg_54_m22, dX7_image_57, dX7_image_58, dX7_image_59, dX7_image_60, bc_27, dX7_image_62, tg_62_21, dX7_image_65, dX7_image_66, fl_7_29_7, dX7_image_69, dX7_image_70, dX7_image_71, fl_7_17_7, dX7_image_74, dX7_image_75, dX7_image_76, dX7_image_77, dX7_image_80, tg_80_m21, dX7_image_83, dX7_image_84, dX7_image_85, dX7_image_86, sc_216, dX7_image_89, tg_89_21, dX7_image_92, dX7_image_93, fl_7_32_7, dX7_image_96, dX7_image_97, dX7_image_98, fl_7_23_7, dX7_image_101, dX7_image_102, dX7_image_103, dX7_image_104, dX7_image_107, tg_107_m22, dX7_image_110, dX7_image_111, dX7_image_112, fl_7_207_7, dX7_image_115, dX7_image_116, st_aload_n, st_bipush, st_getfield, st_goto, st_iadd, st_iaload, st_iastore, st_iconst, st_if_icmp, st_iinc, st_iload_n, st_ireturn, st_istore_n, st_putfield, st_sipush]
      exact hl
    | succ n ih =>
      intro j hj σ1 hf1 hM1
      obtain ⟨c1, c2, c3⟩ := lt5j (show j < 5 by omega)
      obtain ⟨i1, i2⟩ := ix3j (show j < 5 by omega)
      have hM2 := hM1.putA (k := 8) rfl (im8 f0 (ar 2) (j + 1))
      simp only [updA_updA] at hM2
      have hj1 := ih (j + 1) (by omega) _ (hf1.tr (hM1.frA (k := 8) rfl)) hM2
      obtain ⟨⟨m1, -⟩, e1, -⟩ := id hM1
      obtain ⟨m2, e2⟩ := hM1.arr 2 rfl
      obtain ⟨m8, e8⟩ := hM1.arr 8 rfl
      rw [im8] at hj1
      simp only [ME, iA, lenM, hput, updA_at, updA_ne (show (2 : Nat) ≠ 8 by decide)] at m1 e1 m2 e2 m8 e8 hj1
      refine yvc1_ok (uX7_image Γ) (S := [32, 59]) 40 ?_
      simp only [yvc1, c1, c2, c3, i1, i2, m1, e1, m2, e2, m8, e8, nI_1, yvc_s, s1i, s2i, s1l, s2l, sil, s1r, sir, siir, slir, srir, svr, sd1, sd2, lg, lput, ldel, isL_i, isL_r, isL_l, jmp, obj, obj1, fI, fR, arI, arL, arR, hput, f4_0, f4_1, f4_2, f4_3, lc_0, lc_1, rok_i, rok_b, rok_y, strF, fput_1, fput_2, csum_nil, csum_i, csum_l, csum_r, va_up_self, bx_uu, Int.reduceAdd, List.elem_nil, List.elem_cons, List.take_succ_cons, List.take_zero, List.drop_succ_cons, List.drop_zero, List.take_nil, List.drop_nil, List.reverse_cons, List.reverse_nil, List.nil_append, List.cons_append, List.append_nil, Option.toList_some, Option.toList_none, List.getElem?_cons_zero, List.getElem?_cons_succ, List.set_cons_zero, List.set_cons_succ, List.length_cons, List.length_nil, reduceIte, reduceCtorEq, and_true, true_and, and_self, or_true, true_or, false_and, and_false, not_true_eq_false, not_false_eq_true, true_implies, false_implies, implies_true, Nat.reduceAdd, Nat.reduceLT, Nat.reduceEqDiff, Nat.reduceLeDiff, Nat.reduceBEq, Nat.zero_add, Nat.lt_add_one, Bool.false_eq_true, Bool.or_false, Bool.or_true, Bool.or_self, Nat.zero_ne_one, Nat.one_ne_zero, ite_true, ite_false, ne_eq, Nat.reduceSub, Nat.succ_eq_add_one, Nat.zero_lt_succ, Nat.add_one_ne_zero, false_or, or_false, mX7_image_c, mX7_image_n, mX7_image_r, mX7_image_l, dX7_image_0, dX7_image_1, fl_7_26_7, dX7_image_4, ic_0, dX7_image_5, dX7_image_6, fl_7_60_7, dX7_image_9, dX7_image_10, dX7_image_11, dX7_image_14, ic_1, dX7_image_15, dX7_image_16, fl_7_7_7, dX7_image_19, dX7_image_20, dX7_image_21, dX7_image_24, ic_2, dX7_image_25, dX7_image_26, fl_7_104_7, dX7_image_29, dX7_image_30, dX7_image_31, dX7_image_32, dX7_image_33, ic_5, dX7_image_34, tg_34_23, cnd2_ge, dX7_image_37, dX7_image_38, dX7_image_41, ic_3, dX7_image_42, dX7_image_43, dX7_image_44, dX7_image_45, fl_7_13_7, dX7_image_48, dX7_image_49, dX7_image_50, dX7_image_51, dX7_image_54, tg_54_m22, dX7_image_57, dX7_image_58, dX7_image_59, dX7_image_60, bc_27, dX7_image_62, tg_62_21, dX7_image_65, dX7_image_66, fl_7_29_7, dX7_image_69, dX7_image_70, dX7_image_71, fl_7_17_7, dX7_image_74, dX7_image_75, dX7_image_76, dX7_image_77, dX7_image_80, tg_80_m21, dX7_image_83, dX7_image_84, dX7_image_85, dX7_image_86, sc_216, dX7_image_89, tg_89_21, dX7_image_92, dX7_image_93, fl_7_32_7, dX7_image_96, dX7_image_97, dX7_image_98, fl_7_23_7, dX7_image_101, dX7_image_102, dX7_image_103, dX7_image_104, dX7_image_107, tg_107_m22, dX7_image_110, dX7_image_111, dX7_image_112, fl_7_207_7, dX7_image_115, dX7_image_116, st_aload_n, st_bipush, st_getfield, st_goto, st_iadd, st_iaload, st_iastore, st_iconst, st_if_icmp, st_iinc, st_iload_n, st_ireturn, st_istore_n, st_putfield, st_sipush]
      exact hj1
  clear loop2
  have hM1 := hM.putA (k := 8) rfl f0
  have hl := loop1 5 0 rfl _ (hM.frA (k := 8) rfl) hM1
  rw [← hf0] at hl
  obtain ⟨m8, e8⟩ := hM.arr 8 rfl
  have q1 := fun f x => hM.neA (k := 8) rfl f x
  simp only [iA, lenM, hput] at m8 e8 hl q1
  refine ⟨Nat.le_of_ble_eq_true rfl, yvc_ok (uX7_image Γ) (S := [32]) 60 _ _ _ _ ?_⟩
  simp only [lv_args, Value.category, m1, e1, m8, e8, q1, in0_8, in1_8, in2_8, n0, cn1, cn2, yvc_s, s1i, s2i, s1l, s2l, sil, s1r, sir, siir, slir, srir, svr, sd1, sd2, lg, lput, ldel, isL_i, isL_r, isL_l, jmp, obj, obj1, fI, fR, arI, arL, arR, hput, f4_0, f4_1, f4_2, f4_3, lc_0, lc_1, rok_i, rok_b, rok_y, strF, fput_1, fput_2, csum_nil, csum_i, csum_l, csum_r, va_up_self, bx_uu, Int.reduceAdd, List.elem_nil, List.elem_cons, List.take_succ_cons, List.take_zero, List.drop_succ_cons, List.drop_zero, List.take_nil, List.drop_nil, List.reverse_cons, List.reverse_nil, List.nil_append, List.cons_append, List.append_nil, Option.toList_some, Option.toList_none, List.getElem?_cons_zero, List.getElem?_cons_succ, List.set_cons_zero, List.set_cons_succ, List.length_cons, List.length_nil, reduceIte, reduceCtorEq, and_true, true_and, and_self, or_true, true_or, false_and, and_false, not_true_eq_false, not_false_eq_true, true_implies, false_implies, implies_true, Nat.reduceAdd, Nat.reduceLT, Nat.reduceEqDiff, Nat.reduceLeDiff, Nat.reduceBEq, Nat.zero_add, Nat.lt_add_one, Bool.false_eq_true, Bool.or_false, Bool.or_true, Bool.or_self, Nat.zero_ne_one, Nat.one_ne_zero, ite_true, ite_false, ne_eq, Nat.reduceSub, Nat.succ_eq_add_one, Nat.zero_lt_succ, Nat.add_one_ne_zero, false_or, or_false, mX7_image_c, mX7_image_n, mX7_image_r, mX7_image_l, dX7_image_0, dX7_image_1, fl_7_26_7, dX7_image_4, ic_0, dX7_image_5, dX7_image_6, fl_7_60_7, dX7_image_9, dX7_image_10, dX7_image_11, dX7_image_14, ic_1, dX7_image_15, dX7_image_16, fl_7_7_7, dX7_image_19, dX7_image_20, dX7_image_21, dX7_image_24, ic_2, dX7_image_25, dX7_image_26, fl_7_104_7, dX7_image_29, dX7_image_30, dX7_image_31, dX7_image_32, dX7_image_33, ic_5, dX7_image_34, tg_34_23, cnd2_ge, dX7_image_37, dX7_image_38, dX7_image_41, ic_3, dX7_image_42, dX7_image_43, dX7_image_44, dX7_image_45, fl_7_13_7, dX7_image_48, dX7_image_49, dX7_image_50, dX7_image_51, dX7_image_54, tg_54_m22, dX7_image_57, dX7_image_58, dX7_image_59, dX7_image_60, bc_27, dX7_image_62, tg_62_21, dX7_image_65, dX7_image_66, fl_7_29_7, dX7_image_69, dX7_image_70, dX7_image_71, fl_7_17_7, dX7_image_74, dX7_image_75, dX7_image_76, dX7_image_77, dX7_image_80, tg_80_m21, dX7_image_83, dX7_image_84, dX7_image_85, dX7_image_86, sc_216, dX7_image_89, tg_89_21, dX7_image_92, dX7_image_93, fl_7_32_7, dX7_image_96, dX7_image_97, dX7_image_98, fl_7_23_7, dX7_image_101, dX7_image_102, dX7_image_103, dX7_image_104, dX7_image_107, tg_107_m22, dX7_image_110, dX7_image_111, dX7_image_112, fl_7_207_7, dX7_image_115, dX7_image_116, st_aload_n, st_bipush, st_getfield, st_goto, st_iadd, st_iaload, st_iastore, st_iconst, st_if_icmp, st_iinc, st_iload_n, st_ireturn, st_istore_n, st_putfield, st_sipush]
  exact hl
def sp_X7_restore (Γ : Cx) : YSp := fun av σ K => mo Γ [] (fn x_restore) av σ K
theorem rv_X7_restore {Γ : Cx} : Recv (sp_X7_restore Γ) 0 7 := by
  intro av σ K h
  obtain ⟨q, fs, h1, h2, h3⟩ := rv_mo h
  exact ⟨q, _, fs, h1, rfl, h2, h3⟩
theorem tg_44_23 : tgo 44 23 = some 67 := by decide
theorem tg_64_m22 : tgo 64 (-22) = some 42 := by decide
theorem tg_72_21 : tgo 72 21 = some 93 := by decide
theorem tg_90_m21 : tgo 90 (-21) = some 69 := by decide
theorem tg_99_21 : tgo 99 21 = some 120 := by decide
theorem tg_117_m22 : tgo 117 (-22) = some 95 := by decide
def mX7_restore : Mt := (⟨0, 0, 0, 0⟩, RX7, cX7_restore, 2, some .int, (0, 0), none)
theorem mX7_restore_c : mX7_restore.2.2.1 = cX7_restore := rfl
theorem mX7_restore_n : mX7_restore.2.2.2.1 = 2 := rfl
theorem mX7_restore_r : mX7_restore.2.2.2.2.1 = some .int := rfl
theorem mX7_restore_l : mX7_restore.2.2.2.2.2.2 = none := rfl
def jX7_restore (Γ : Cx) : List ((Nat × Nat) × Nat × Bool × YSp) := []
theorem uX7_restore (Γ : Cx) : TbOK Γ mX7_restore (fT fX7, cT kX7, kT (jX7_restore Γ)) := tb_ok fX7_ok kX7_ok (all_nil)
set_option maxRecDepth 20000 in
theorem ok_X7_restore (Γ : Cx) : Ok Γ yX7_restore mX7_restore (sp_X7_restore Γ) := by
  refine ok_intro (by decide +kernel) rfl rfl ?_
  intro av σ K h
  obtain ⟨lab, ⟨a, ad⟩, ⟨sc, ar, it⟩, ψ, ψ', r, rfl, hM, hR, hrel, h⟩ := h
  try simp only at h
  obtain ⟨⟨m1, -⟩, e1, -⟩ := id hM
  obtain ⟨⟨p1, p2, p3, p4, pI, p5, p6, p7⟩, hImg, h16, hT, hSh⟩ := id hR
  have hP := pI.P5
  simp only at p1 p2 p3 p4 p5 p6 p7 hImg h16 hT hSh
  simp only [ME] at m1 e1
  obtain ⟨hq1, hq2⟩ := fn_r hrel
  rw [hq1, hq2] at h
  clear hq1 hq2 hrel ψ' r
  unfold x_restore at h
  rw [hImg.1] at e1
  obtain ⟨m8, e8⟩ := hM.arr 8 rfl
  have q1 := fun f x => hM.neO (k := 8) rfl f x
  simp only [iA, lenM] at m8 e8 q1
  refine ⟨Nat.le_of_ble_eq_true rfl, yvc_ok (uX7_restore Γ) (S := [10]) 60 _ _ _ _ ?_⟩
  simp only [lv_args, Value.category, m1, e1, bI_eq0, Bool.not_eq_false, yvc_s, s1i, s2i, s1l, s2l, sil, s1r, sir, siir, slir, srir, svr, sd1, sd2, lg, lput, ldel, isL_i, isL_r, isL_l, jmp, obj, obj1, fI, fR, arI, arL, arR, hput, f4_0, f4_1, f4_2, f4_3, lc_0, lc_1, rok_i, rok_b, rok_y, strF, fput_1, fput_2, csum_nil, csum_i, csum_l, csum_r, va_up_self, bx_uu, Int.reduceAdd, List.elem_nil, List.elem_cons, List.take_succ_cons, List.take_zero, List.drop_succ_cons, List.drop_zero, List.take_nil, List.drop_nil, List.reverse_cons, List.reverse_nil, List.nil_append, List.cons_append, List.append_nil, Option.toList_some, Option.toList_none, List.getElem?_cons_zero, List.getElem?_cons_succ, List.set_cons_zero, List.set_cons_succ, List.length_cons, List.length_nil, reduceIte, reduceCtorEq, and_true, true_and, and_self, or_true, true_or, false_and, and_false, not_true_eq_false, not_false_eq_true, true_implies, false_implies, implies_true, Nat.reduceAdd, Nat.reduceLT, Nat.reduceEqDiff, Nat.reduceLeDiff, Nat.reduceBEq, Nat.zero_add, Nat.lt_add_one, Bool.false_eq_true, Bool.or_false, Bool.or_true, Bool.or_self, Nat.zero_ne_one, Nat.one_ne_zero, ite_true, ite_false, ne_eq, Nat.reduceSub, Nat.succ_eq_add_one, Nat.zero_lt_succ, Nat.add_one_ne_zero, false_or, or_false, mX7_restore_c, mX7_restore_n, mX7_restore_r, mX7_restore_l, dX7_restore_0, dX7_restore_1, fl_7_207_7, dX7_restore_4, tg_4_6, cnd1_ne, dX7_restore_7, bc_m4, dX7_restore_9, dX7_restore_10, dX7_restore_11, dX7_restore_12, fl_7_26_7, dX7_restore_15, ic_0, dX7_restore_16, dX7_restore_17, fl_7_60_7, dX7_restore_20, dX7_restore_21, dX7_restore_22, dX7_restore_25, ic_1, dX7_restore_26, dX7_restore_27, fl_7_7_7, dX7_restore_30, dX7_restore_31, dX7_restore_32, dX7_restore_35, ic_2, dX7_restore_36, dX7_restore_37, fl_7_104_7, dX7_restore_40, dX7_restore_41, dX7_restore_42, dX7_restore_43, ic_5, dX7_restore_44, tg_44_23, cnd2_ge, dX7_restore_47, dX7_restore_48, fl_7_13_7, dX7_restore_51, dX7_restore_52, dX7_restore_53, dX7_restore_56, ic_3, dX7_restore_57, dX7_restore_58, dX7_restore_59, dX7_restore_60, dX7_restore_61, dX7_restore_64, tg_64_m22, dX7_restore_67, dX7_restore_68, dX7_restore_69, dX7_restore_70, bc_27, dX7_restore_72, tg_72_21, dX7_restore_75, dX7_restore_76, fl_7_17_7, dX7_restore_79, dX7_restore_80, dX7_restore_81, fl_7_29_7, dX7_restore_84, dX7_restore_85, dX7_restore_86, dX7_restore_87, dX7_restore_90, tg_90_m21, dX7_restore_93, dX7_restore_94, dX7_restore_95, dX7_restore_96, sc_216, dX7_restore_99, tg_99_21, dX7_restore_102, dX7_restore_103, fl_7_23_7, dX7_restore_106, dX7_restore_107, dX7_restore_108, fl_7_32_7, dX7_restore_111, dX7_restore_112, dX7_restore_113, dX7_restore_114, dX7_restore_117, tg_117_m22, dX7_restore_120, dX7_restore_121, st_aload_n, st_bipush, st_getfield, st_goto, st_iadd, st_iaload, st_iastore, st_iconst, st_ifCond, st_if_icmp, st_iinc, st_iload_n, st_ireturn, st_istore_n, st_putfield, st_sipush]
  refine ⟨fun c => ?_, fun c => ?_⟩
  · rw [if_pos c] at h
    have hI := hImg.2 c
    have hlk := like_bec (t := ψ.1) hI.2.2.2.2.1.P5
    generalize hsc : upd (upd (upd sc 0 (ar 8 0)) 1 (ar 8 1)) 6 (ar 8 2) = sc1
    have loop3 : ∀ n j : Nat, j + n = 216 → ∀ σ1, frm (fL lab 30) σ σ1 → Mod Γ lab (a, ad) (sc1, updA (updA (updA ar 2 (cpN 5 (fun p => ar 8 (3 + p)) (ar 2))) 3 (cpN 27 (ar 9) (ar 3))) 5 (cpN j (ar 10) (ar 5)), it) σ1 → YG Γ mX7_restore K 95 [(0, .ref a), (1, .int (nI j))] [] σ1 := by
      intro n
      induction n with
      | zero =>
        intro j hj σ1 hf1 hM1
        obtain rfl : j = 216 := by omega
        have hk := h _ _ (hR.upN (s' := (sc1, updA (updA (updA ar 2 (cpN 5 (fun p => ar 8 (3 + p)) (ar 2))) 3 (cpN 27 (ar 9) (ar 3))) 5 (cpN 216 (ar 10) (ar 5)), it)) (c := bec ψ.1 ψ.2.1) (pa := (becM ψ.2.2.1.1 ψ.2.2.2.1.1 ψ.2.2.2.1.2, ψ.2.2.2.1.2)) (by rw [← hsc]; rfl) (by rw [← hsc]; rfl) (by rw [← hsc]; rfl) rfl rfl rfl rfl rfl rfl rfl (by
          rw [← hsc]
          exact SN.cp hI hlk (fun q hq => (cpN_in hq : cpN 5 (fun p => ar 8 (3 + p)) (ar 2) q = ar 8 (3 + q))) (fun k hk => cpN_in hk) (fun k hk => cpN_in hk) (fun i hi => by unfold becM; rw [if_pos hi]))) hf1 hM1
        refine yvc1_ok (uX7_restore Γ) (S := [95]) 40 ?_
        simp only [yvc1, ge216, yvc_s, s1i, s2i, s1l, s2l, sil, s1r, sir, siir, slir, srir, svr, sd1, sd2, lg, lput, ldel, isL_i, isL_r, isL_l, jmp, obj, obj1, fI, fR, arI, arL, arR, hput, f4_0, f4_1, f4_2, f4_3, lc_0, lc_1, rok_i, rok_b, rok_y, strF, fput_1, fput_2, csum_nil, csum_i, csum_l, csum_r, va_up_self, bx_uu, Int.reduceAdd, List.elem_nil, List.elem_cons, List.take_succ_cons, List.take_zero, List.drop_succ_cons, List.drop_zero, List.take_nil, List.drop_nil, List.reverse_cons, List.reverse_nil, List.nil_append, List.cons_append, List.append_nil, Option.toList_some, Option.toList_none, List.getElem?_cons_zero, List.getElem?_cons_succ, List.set_cons_zero, List.set_cons_succ, List.length_cons, List.length_nil, reduceIte, reduceCtorEq, and_true, true_and, and_self, or_true, true_or, false_and, and_false, not_true_eq_false, not_false_eq_true, true_implies, false_implies, implies_true, Nat.reduceAdd, Nat.reduceLT, Nat.reduceEqDiff, Nat.reduceLeDiff, Nat.reduceBEq, Nat.zero_add, Nat.lt_add_one, Bool.false_eq_true, Bool.or_false, Bool.or_true, Bool.or_self, Nat.zero_ne_one, Nat.one_ne_zero, ite_true, ite_false, ne_eq, Nat.reduceSub, Nat.succ_eq_add_one, Nat.zero_lt_succ, Nat.add_one_ne_zero, false_or, or_false, mX7_restore_c, mX7_restore_n, mX7_restore_r, mX7_restore_l, dX7_restore_0, dX7_restore_1, fl_7_207_7, dX7_restore_4, tg_4_6, cnd1_ne, dX7_restore_7, bc_m4, dX7_restore_9, dX7_restore_10, dX7_restore_11, dX7_restore_12, fl_7_26_7, dX7_restore_15, ic_0, dX7_restore_16, dX7_restore_17, fl_7_60_7, dX7_restore_20, dX7_restore_21, dX7_restore_22, dX7_restore_25, ic_1, dX7_restore_26, dX7_restore_27, fl_7_7_7, dX7_restore_30, dX7_restore_31, dX7_restore_32, dX7_restore_35, ic_2, dX7_restore_36, dX7_restore_37, fl_7_104_7, dX7_restore_40, dX7_restore_41, dX7_restore_42, dX7_restore_43, ic_5, dX7_restore_44, tg_44_23, cnd2_ge, dX7_restore_47, dX7_restore_48, fl_7_13_7, dX7_restore_51, dX7_restore_52, dX7_restore_53, dX7_restore_56, ic_3, dX7_restore_57, dX7_restore_58, dX7_restore_59, dX7_restore_60, dX7_restore_61, dX7_restore_64, tg_64_m22, dX7_restore_67, dX7_restore_68, dX7_restore_69, dX7_restore_70, bc_27, dX7_restore_72, tg_72_21, dX7_restore_75, dX7_restore_76, fl_7_17_7, dX7_restore_79, dX7_restore_80, dX7_restore_81, fl_7_29_7, dX7_restore_84, dX7_restore_85, dX7_restore_86, dX7_restore_87, dX7_restore_90, tg_90_m21, dX7_restore_93, dX7_restore_94, dX7_restore_95, dX7_restore_96, sc_216, dX7_restore_99, tg_99_21, dX7_restore_102, dX7_restore_103, fl_7_23_7, dX7_restore_106, dX7_restore_107, dX7_restore_108, fl_7_32_7, dX7_restore_111, dX7_restore_112, dX7_restore_113, dX7_restore_114, dX7_restore_117, tg_117_m22, dX7_restore_120, dX7_restore_121, st_aload_n, st_bipush, st_getfield, st_goto, st_iadd, st_iaload, st_iastore, st_iconst, st_ifCond, st_if_icmp, st_iinc, st_iload_n, st_ireturn, st_istore_n, st_putfield, st_sipush]
        exact hk
      | succ n ih =>
        intro j hj σ1 hf1 hM1
        obtain ⟨c1, c2, c3⟩ := lt216 (show j < 216 by omega)
        have hM2 := hM1.putA (k := 5) rfl (cpN (j + 1) (ar 10) (ar 5))
        simp only [updA_updA] at hM2
        have hj1 := ih (j + 1) (by omega) _ (hf1.tr (hM1.frA (k := 5) rfl)) hM2
        obtain ⟨⟨m1, -⟩, e1, -⟩ := id hM1
        obtain ⟨m5, e5⟩ := hM1.arr 5 rfl
        obtain ⟨m10, e10⟩ := hM1.arr 10 rfl
        rw [← cpN_s] at hj1
        simp only [ME, iA, lenM, hput, updA_at, updA_ne (show (10 : Nat) ≠ 5 by decide), updA_ne (show (10 : Nat) ≠ 3 by decide), updA_ne (show (10 : Nat) ≠ 2 by decide)] at m1 e1 m5 e5 m10 e10 hj1
        refine yvc1_ok (uX7_restore Γ) (S := [95]) 40 ?_
        simp only [yvc1, c1, c2, c3, m1, e1, m5, e5, m10, e10, nI_1, yvc_s, s1i, s2i, s1l, s2l, sil, s1r, sir, siir, slir, srir, svr, sd1, sd2, lg, lput, ldel, isL_i, isL_r, isL_l, jmp, obj, obj1, fI, fR, arI, arL, arR, hput, f4_0, f4_1, f4_2, f4_3, lc_0, lc_1, rok_i, rok_b, rok_y, strF, fput_1, fput_2, csum_nil, csum_i, csum_l, csum_r, va_up_self, bx_uu, Int.reduceAdd, List.elem_nil, List.elem_cons, List.take_succ_cons, List.take_zero, List.drop_succ_cons, List.drop_zero, List.take_nil, List.drop_nil, List.reverse_cons, List.reverse_nil, List.nil_append, List.cons_append, List.append_nil, Option.toList_some, Option.toList_none, List.getElem?_cons_zero, List.getElem?_cons_succ, List.set_cons_zero, List.set_cons_succ, List.length_cons, List.length_nil, reduceIte, reduceCtorEq, and_true, true_and, and_self, or_true, true_or, false_and, and_false, not_true_eq_false, not_false_eq_true, true_implies, false_implies, implies_true, Nat.reduceAdd, Nat.reduceLT, Nat.reduceEqDiff, Nat.reduceLeDiff, Nat.reduceBEq, Nat.zero_add, Nat.lt_add_one, Bool.false_eq_true, Bool.or_false, Bool.or_true, Bool.or_self, Nat.zero_ne_one, Nat.one_ne_zero, ite_true, ite_false, ne_eq, Nat.reduceSub, Nat.succ_eq_add_one, Nat.zero_lt_succ, Nat.add_one_ne_zero, false_or, or_false, mX7_restore_c, mX7_restore_n, mX7_restore_r, mX7_restore_l, dX7_restore_0, dX7_restore_1, fl_7_207_7, dX7_restore_4, tg_4_6, cnd1_ne, dX7_restore_7, bc_m4, dX7_restore_9, dX7_restore_10, dX7_restore_11, dX7_restore_12, fl_7_26_7, dX7_restore_15, ic_0, dX7_restore_16, dX7_restore_17, fl_7_60_7, dX7_restore_20, dX7_restore_21, dX7_restore_22, dX7_restore_25, ic_1, dX7_restore_26, dX7_restore_27, fl_7_7_7, dX7_restore_30, dX7_restore_31, dX7_restore_32, dX7_restore_35, ic_2, dX7_restore_36, dX7_restore_37, fl_7_104_7, dX7_restore_40, dX7_restore_41, dX7_restore_42, dX7_restore_43, ic_5, dX7_restore_44, tg_44_23, cnd2_ge, dX7_restore_47, dX7_restore_48, fl_7_13_7, dX7_restore_51, dX7_restore_52, dX7_restore_53, dX7_restore_56, ic_3, dX7_restore_57, dX7_restore_58, dX7_restore_59, dX7_restore_60, dX7_restore_61, dX7_restore_64, tg_64_m22, dX7_restore_67, dX7_restore_68, dX7_restore_69, dX7_restore_70, bc_27, dX7_restore_72, tg_72_21, dX7_restore_75, dX7_restore_76, fl_7_17_7, dX7_restore_79, dX7_restore_80, dX7_restore_81, fl_7_29_7, dX7_restore_84, dX7_restore_85, dX7_restore_86, dX7_restore_87, dX7_restore_90, tg_90_m21, dX7_restore_93, dX7_restore_94, dX7_restore_95, dX7_restore_96, sc_216, dX7_restore_99, tg_99_21, dX7_restore_102, dX7_restore_103, fl_7_23_7, dX7_restore_106, dX7_restore_107, dX7_restore_108, fl_7_32_7, dX7_restore_111, dX7_restore_112, dX7_restore_113, dX7_restore_114, dX7_restore_117, tg_117_m22, dX7_restore_120, dX7_restore_121, st_aload_n, st_bipush, st_getfield, st_goto, st_iadd, st_iaload, st_iastore, st_iconst, st_ifCond, st_if_icmp, st_iinc, st_iload_n, st_ireturn, st_istore_n, st_putfield, st_sipush]
        exact hj1
    clear h
    have loop2 : ∀ n j : Nat, j + n = 27 → ∀ σ1, frm (fL lab 30) σ σ1 → Mod Γ lab (a, ad) (sc1, updA (updA ar 2 (cpN 5 (fun p => ar 8 (3 + p)) (ar 2))) 3 (cpN j (ar 9) (ar 3)), it) σ1 → YG Γ mX7_restore K 69 [(0, .ref a), (1, .int (nI j))] [] σ1 := by
      intro n
      induction n with
      | zero =>
        intro j hj σ1 hf1 hM1
        obtain rfl : j = 27 := by omega
        have hl := loop3 216 0 rfl σ1 hf1 (by
          have e : updA (updA (updA ar 2 (cpN 5 (fun p => ar 8 (3 + p)) (ar 2))) 3 (cpN 27 (ar 9) (ar 3))) 5 (cpN 0 (ar 10) (ar 5)) = updA (updA ar 2 (cpN 5 (fun p => ar 8 (3 + p)) (ar 2))) 3 (cpN 27 (ar 9) (ar 3)) := by
            have := updA_self (ar := updA (updA ar 2 (cpN 5 (fun p => ar 8 (3 + p)) (ar 2))) 3 (cpN 27 (ar 9) (ar 3))) (k := 5)
            rw [updA_ne (by decide), updA_ne (by decide)] at this
            rw [cpN_0]
            exact this
          rw [e]
          exact hM1)
        refine yvc1_ok (uX7_restore Γ) (S := [69, 95]) 40 ?_
        simp only [yvc1, ge27, yvc_s, s1i, s2i, s1l, s2l, sil, s1r, sir, siir, slir, srir, svr, sd1, sd2, lg, lput, ldel, isL_i, isL_r, isL_l, jmp, obj, obj1, fI, fR, arI, arL, arR, hput, f4_0, f4_1, f4_2, f4_3, lc_0, lc_1, rok_i, rok_b, rok_y, strF, fput_1, fput_2, csum_nil, csum_i, csum_l, csum_r, va_up_self, bx_uu, Int.reduceAdd, List.elem_nil, List.elem_cons, List.take_succ_cons, List.take_zero, List.drop_succ_cons, List.drop_zero, List.take_nil, List.drop_nil, List.reverse_cons, List.reverse_nil, List.nil_append, List.cons_append, List.append_nil, Option.toList_some, Option.toList_none, List.getElem?_cons_zero, List.getElem?_cons_succ, List.set_cons_zero, List.set_cons_succ, List.length_cons, List.length_nil, reduceIte, reduceCtorEq, and_true, true_and, and_self, or_true, true_or, false_and, and_false, not_true_eq_false, not_false_eq_true, true_implies, false_implies, implies_true, Nat.reduceAdd, Nat.reduceLT, Nat.reduceEqDiff, Nat.reduceLeDiff, Nat.reduceBEq, Nat.zero_add, Nat.lt_add_one, Bool.false_eq_true, Bool.or_false, Bool.or_true, Bool.or_self, Nat.zero_ne_one, Nat.one_ne_zero, ite_true, ite_false, ne_eq, Nat.reduceSub, Nat.succ_eq_add_one, Nat.zero_lt_succ, Nat.add_one_ne_zero, false_or, or_false, mX7_restore_c, mX7_restore_n, mX7_restore_r, mX7_restore_l, dX7_restore_0, dX7_restore_1, fl_7_207_7, dX7_restore_4, tg_4_6, cnd1_ne, dX7_restore_7, bc_m4, dX7_restore_9, dX7_restore_10, dX7_restore_11, dX7_restore_12, fl_7_26_7, dX7_restore_15, ic_0, dX7_restore_16, dX7_restore_17, fl_7_60_7, dX7_restore_20, dX7_restore_21, dX7_restore_22, dX7_restore_25, ic_1, dX7_restore_26, dX7_restore_27, fl_7_7_7, dX7_restore_30, dX7_restore_31, dX7_restore_32, dX7_restore_35, ic_2, dX7_restore_36, dX7_restore_37, fl_7_104_7, dX7_restore_40, dX7_restore_41, dX7_restore_42, dX7_restore_43, ic_5, dX7_restore_44, tg_44_23, cnd2_ge, dX7_restore_47, dX7_restore_48, fl_7_13_7, dX7_restore_51, dX7_restore_52, dX7_restore_53, dX7_restore_56, ic_3, dX7_restore_57, dX7_restore_58, dX7_restore_59, dX7_restore_60, dX7_restore_61, dX7_restore_64, tg_64_m22, dX7_restore_67, dX7_restore_68, dX7_restore_69, dX7_restore_70, bc_27, dX7_restore_72, tg_72_21, dX7_restore_75, dX7_restore_76, fl_7_17_7, dX7_restore_79, dX7_restore_80, dX7_restore_81, fl_7_29_7, dX7_restore_84, dX7_restore_85, dX7_restore_86, dX7_restore_87, dX7_restore_90, tg_90_m21, dX7_restore_93, dX7_restore_94, dX7_restore_95, dX7_restore_96, sc_216, dX7_restore_99, tg_99_21, dX7_restore_102, dX7_restore_103, fl_7_23_7, dX7_restore_106, dX7_restore_107, dX7_restore_108, fl_7_32_7, dX7_restore_111, dX7_restore_112, dX7_restore_113, dX7_restore_114, dX7_restore_117, tg_117_m22, dX7_restore_120, dX7_restore_121, st_aload_n, st_bipush, st_getfield, st_goto, st_iadd, st_iaload, st_iastore, st_iconst, st_ifCond, st_if_icmp, st_iinc, st_iload_n, st_ireturn, st_istore_n, st_putfield, st_sipush]
        exact hl
      | succ n ih =>
        intro j hj σ1 hf1 hM1
        obtain ⟨c1, c2, c3⟩ := lt27 (show j < 27 by omega)
        have hM2 := hM1.putA (k := 3) rfl (cpN (j + 1) (ar 9) (ar 3))
        simp only [updA_updA] at hM2
        have hj1 := ih (j + 1) (by omega) _ (hf1.tr (hM1.frA (k := 3) rfl)) hM2
        obtain ⟨⟨m1, -⟩, e1, -⟩ := id hM1
        obtain ⟨m3, e3⟩ := hM1.arr 3 rfl
        obtain ⟨m9, e9⟩ := hM1.arr 9 rfl
        rw [← cpN_s] at hj1
        simp only [ME, iA, lenM, hput, updA_at, updA_ne (show (9 : Nat) ≠ 3 by decide), updA_ne (show (9 : Nat) ≠ 2 by decide)] at m1 e1 m3 e3 m9 e9 hj1
        refine yvc1_ok (uX7_restore Γ) (S := [69, 95]) 40 ?_
        simp only [yvc1, c1, c2, c3, m1, e1, m3, e3, m9, e9, nI_1, yvc_s, s1i, s2i, s1l, s2l, sil, s1r, sir, siir, slir, srir, svr, sd1, sd2, lg, lput, ldel, isL_i, isL_r, isL_l, jmp, obj, obj1, fI, fR, arI, arL, arR, hput, f4_0, f4_1, f4_2, f4_3, lc_0, lc_1, rok_i, rok_b, rok_y, strF, fput_1, fput_2, csum_nil, csum_i, csum_l, csum_r, va_up_self, bx_uu, Int.reduceAdd, List.elem_nil, List.elem_cons, List.take_succ_cons, List.take_zero, List.drop_succ_cons, List.drop_zero, List.take_nil, List.drop_nil, List.reverse_cons, List.reverse_nil, List.nil_append, List.cons_append, List.append_nil, Option.toList_some, Option.toList_none, List.getElem?_cons_zero, List.getElem?_cons_succ, List.set_cons_zero, List.set_cons_succ, List.length_cons, List.length_nil, reduceIte, reduceCtorEq, and_true, true_and, and_self, or_true, true_or, false_and, and_false, not_true_eq_false, not_false_eq_true, true_implies, false_implies, implies_true, Nat.reduceAdd, Nat.reduceLT, Nat.reduceEqDiff, Nat.reduceLeDiff, Nat.reduceBEq, Nat.zero_add, Nat.lt_add_one, Bool.false_eq_true, Bool.or_false, Bool.or_true, Bool.or_self, Nat.zero_ne_one, Nat.one_ne_zero, ite_true, ite_false, ne_eq, Nat.reduceSub, Nat.succ_eq_add_one, Nat.zero_lt_succ, Nat.add_one_ne_zero, false_or, or_false, mX7_restore_c, mX7_restore_n, mX7_restore_r, mX7_restore_l, dX7_restore_0, dX7_restore_1, fl_7_207_7, dX7_restore_4, tg_4_6, cnd1_ne, dX7_restore_7, bc_m4, dX7_restore_9, dX7_restore_10, dX7_restore_11, dX7_restore_12, fl_7_26_7, dX7_restore_15, ic_0, dX7_restore_16, dX7_restore_17, fl_7_60_7, dX7_restore_20, dX7_restore_21, dX7_restore_22, dX7_restore_25, ic_1, dX7_restore_26, dX7_restore_27, fl_7_7_7, dX7_restore_30, dX7_restore_31, dX7_restore_32, dX7_restore_35, ic_2, dX7_restore_36, dX7_restore_37, fl_7_104_7, dX7_restore_40, dX7_restore_41, dX7_restore_42, dX7_restore_43, ic_5, dX7_restore_44, tg_44_23, cnd2_ge, dX7_restore_47, dX7_restore_48, fl_7_13_7, dX7_restore_51, dX7_restore_52, dX7_restore_53, dX7_restore_56, ic_3, dX7_restore_57, dX7_restore_58, dX7_restore_59, dX7_restore_60, dX7_restore_61, dX7_restore_64, tg_64_m22, dX7_restore_67, dX7_restore_68, dX7_restore_69, dX7_restore_70, bc_27, dX7_restore_72, tg_72_21, dX7_restore_75, dX7_restore_76, fl_7_17_7, dX7_restore_79, dX7_restore_80, dX7_restore_81, fl_7_29_7, dX7_restore_84, dX7_restore_85, dX7_restore_86, dX7_restore_87, dX7_restore_90, tg_90_m21, dX7_restore_93, dX7_restore_94, dX7_restore_95, dX7_restore_96, sc_216, dX7_restore_99, tg_99_21, dX7_restore_102, dX7_restore_103, fl_7_23_7, dX7_restore_106, dX7_restore_107, dX7_restore_108, fl_7_32_7, dX7_restore_111, dX7_restore_112, dX7_restore_113, dX7_restore_114, dX7_restore_117, tg_117_m22, dX7_restore_120, dX7_restore_121, st_aload_n, st_bipush, st_getfield, st_goto, st_iadd, st_iaload, st_iastore, st_iconst, st_ifCond, st_if_icmp, st_iinc, st_iload_n, st_ireturn, st_istore_n, st_putfield, st_sipush]
        exact hj1
    clear loop3
    have loop1 : ∀ n j : Nat, j + n = 5 → ∀ σ1, frm (fL lab 30) σ σ1 → Mod Γ lab (a, ad) (sc1, updA ar 2 (cpN j (fun p => ar 8 (3 + p)) (ar 2)), it) σ1 → YG Γ mX7_restore K 42 [(0, .ref a), (1, .int (nI j))] [] σ1 := by
      intro n
      induction n with
      | zero =>
        intro j hj σ1 hf1 hM1
        obtain rfl : j = 5 := by omega
        have hl := loop2 27 0 rfl σ1 hf1 (by
          have e : updA (updA ar 2 (cpN 5 (fun p => ar 8 (3 + p)) (ar 2))) 3 (cpN 0 (ar 9) (ar 3)) = updA ar 2 (cpN 5 (fun p => ar 8 (3 + p)) (ar 2)) := by
            have := updA_self (ar := updA ar 2 (cpN 5 (fun p => ar 8 (3 + p)) (ar 2))) (k := 3)
            rw [updA_ne (by decide)] at this
            rw [cpN_0]
            exact this
          rw [e]
          exact hM1)
        refine yvc1_ok (uX7_restore Γ) (S := [42, 69]) 40 ?_
        simp only [yvc1, ge5j, yvc_s, s1i, s2i, s1l, s2l, sil, s1r, sir, siir, slir, srir, svr, sd1, sd2, lg, lput, ldel, isL_i, isL_r, isL_l, jmp, obj, obj1, fI, fR, arI, arL, arR, hput, f4_0, f4_1, f4_2, f4_3, lc_0, lc_1, rok_i, rok_b, rok_y, strF, fput_1, fput_2, csum_nil, csum_i, csum_l, csum_r, va_up_self, bx_uu, Int.reduceAdd, List.elem_nil, List.elem_cons, List.take_succ_cons, List.take_zero, List.drop_succ_cons, List.drop_zero, List.take_nil, List.drop_nil, List.reverse_cons, List.reverse_nil, List.nil_append, List.cons_append, List.append_nil, Option.toList_some, Option.toList_none, List.getElem?_cons_zero, List.getElem?_cons_succ, List.set_cons_zero, List.set_cons_succ, List.length_cons, List.length_nil, reduceIte, reduceCtorEq, and_true, true_and, and_self, or_true, true_or, false_and, and_false, not_true_eq_false, not_false_eq_true, true_implies, false_implies, implies_true, Nat.reduceAdd, Nat.reduceLT, Nat.reduceEqDiff, Nat.reduceLeDiff, Nat.reduceBEq, Nat.zero_add, Nat.lt_add_one, Bool.false_eq_true, Bool.or_false, Bool.or_true, Bool.or_self, Nat.zero_ne_one, Nat.one_ne_zero, ite_true, ite_false, ne_eq, Nat.reduceSub, Nat.succ_eq_add_one, Nat.zero_lt_succ, Nat.add_one_ne_zero, false_or, or_false, mX7_restore_c, mX7_restore_n, mX7_restore_r, mX7_restore_l, dX7_restore_0, dX7_restore_1, fl_7_207_7, dX7_restore_4, tg_4_6, cnd1_ne, dX7_restore_7, bc_m4, dX7_restore_9, dX7_restore_10, dX7_restore_11, dX7_restore_12, fl_7_26_7, dX7_restore_15, ic_0, dX7_restore_16, dX7_restore_17, fl_7_60_7, dX7_restore_20, dX7_restore_21, dX7_restore_22, dX7_restore_25, ic_1, dX7_restore_26, dX7_restore_27, fl_7_7_7, dX7_restore_30, dX7_restore_31, dX7_restore_32, dX7_restore_35, ic_2, dX7_restore_36, dX7_restore_37, fl_7_104_7, dX7_restore_40, dX7_restore_41, dX7_restore_42, dX7_restore_43, ic_5, dX7_restore_44, tg_44_23, cnd2_ge, dX7_restore_47, dX7_restore_48, fl_7_13_7, dX7_restore_51, dX7_restore_52, dX7_restore_53, dX7_restore_56, ic_3, dX7_restore_57, dX7_restore_58, dX7_restore_59, dX7_restore_60, dX7_restore_61, dX7_restore_64, tg_64_m22, dX7_restore_67, dX7_restore_68, dX7_restore_69, dX7_restore_70, bc_27, dX7_restore_72, tg_72_21, dX7_restore_75, dX7_restore_76, fl_7_17_7, dX7_restore_79, dX7_restore_80, dX7_restore_81, fl_7_29_7, dX7_restore_84, dX7_restore_85, dX7_restore_86, dX7_restore_87, dX7_restore_90, tg_90_m21, dX7_restore_93, dX7_restore_94, dX7_restore_95, dX7_restore_96, sc_216, dX7_restore_99, tg_99_21, dX7_restore_102, dX7_restore_103, fl_7_23_7, dX7_restore_106, dX7_restore_107, dX7_restore_108, fl_7_32_7, dX7_restore_111, dX7_restore_112, dX7_restore_113, dX7_restore_114, dX7_restore_117, tg_117_m22, dX7_restore_120, dX7_restore_121, st_aload_n, st_bipush, st_getfield, st_goto, st_iadd, st_iaload, st_iastore, st_iconst, st_ifCond, st_if_icmp, st_iinc, st_iload_n, st_ireturn, st_istore_n, st_putfield, st_sipush]
        exact hl
      | succ n ih =>
        intro j hj σ1 hf1 hM1
        obtain ⟨c1, c2, c3⟩ := lt5j (show j < 5 by omega)
        obtain ⟨i1, i2⟩ := ix3j (show j < 5 by omega)
        have hM2 := hM1.putA (k := 2) rfl (cpN (j + 1) (fun p => ar 8 (3 + p)) (ar 2))
        simp only [updA_updA] at hM2
        have hj1 := ih (j + 1) (by omega) _ (hf1.tr (hM1.frA (k := 2) rfl)) hM2
        obtain ⟨⟨m1, -⟩, e1, -⟩ := id hM1
        obtain ⟨m2, e2⟩ := hM1.arr 2 rfl
        obtain ⟨m8, e8⟩ := hM1.arr 8 rfl
        rw [← cpN_s] at hj1
        simp only [ME, iA, lenM, hput, updA_at, updA_ne (show (8 : Nat) ≠ 2 by decide)] at m1 e1 m2 e2 m8 e8 hj1
        refine yvc1_ok (uX7_restore Γ) (S := [42, 69]) 40 ?_
        simp only [yvc1, c1, c2, c3, i1, i2, m1, e1, m2, e2, m8, e8, nI_1, yvc_s, s1i, s2i, s1l, s2l, sil, s1r, sir, siir, slir, srir, svr, sd1, sd2, lg, lput, ldel, isL_i, isL_r, isL_l, jmp, obj, obj1, fI, fR, arI, arL, arR, hput, f4_0, f4_1, f4_2, f4_3, lc_0, lc_1, rok_i, rok_b, rok_y, strF, fput_1, fput_2, csum_nil, csum_i, csum_l, csum_r, va_up_self, bx_uu, Int.reduceAdd, List.elem_nil, List.elem_cons, List.take_succ_cons, List.take_zero, List.drop_succ_cons, List.drop_zero, List.take_nil, List.drop_nil, List.reverse_cons, List.reverse_nil, List.nil_append, List.cons_append, List.append_nil, Option.toList_some, Option.toList_none, List.getElem?_cons_zero, List.getElem?_cons_succ, List.set_cons_zero, List.set_cons_succ, List.length_cons, List.length_nil, reduceIte, reduceCtorEq, and_true, true_and, and_self, or_true, true_or, false_and, and_false, not_true_eq_false, not_false_eq_true, true_implies, false_implies, implies_true, Nat.reduceAdd, Nat.reduceLT, Nat.reduceEqDiff, Nat.reduceLeDiff, Nat.reduceBEq, Nat.zero_add, Nat.lt_add_one, Bool.false_eq_true, Bool.or_false, Bool.or_true, Bool.or_self, Nat.zero_ne_one, Nat.one_ne_zero, ite_true, ite_false, ne_eq, Nat.reduceSub, Nat.succ_eq_add_one, Nat.zero_lt_succ, Nat.add_one_ne_zero, false_or, or_false, mX7_restore_c, mX7_restore_n, mX7_restore_r, mX7_restore_l, dX7_restore_0, dX7_restore_1, fl_7_207_7, dX7_restore_4, tg_4_6, cnd1_ne, dX7_restore_7, bc_m4, dX7_restore_9, dX7_restore_10, dX7_restore_11, dX7_restore_12, fl_7_26_7, dX7_restore_15, ic_0, dX7_restore_16, dX7_restore_17, fl_7_60_7, dX7_restore_20, dX7_restore_21, dX7_restore_22, dX7_restore_25, ic_1, dX7_restore_26, dX7_restore_27, fl_7_7_7, dX7_restore_30, dX7_restore_31, dX7_restore_32, dX7_restore_35, ic_2, dX7_restore_36, dX7_restore_37, fl_7_104_7, dX7_restore_40, dX7_restore_41, dX7_restore_42, dX7_restore_43, ic_5, dX7_restore_44, tg_44_23, cnd2_ge, dX7_restore_47, dX7_restore_48, fl_7_13_7, dX7_restore_51, dX7_restore_52, dX7_restore_53, dX7_restore_56, ic_3, dX7_restore_57, dX7_restore_58, dX7_restore_59, dX7_restore_60, dX7_restore_61, dX7_restore_64, tg_64_m22, dX7_restore_67, dX7_restore_68, dX7_restore_69, dX7_restore_70, bc_27, dX7_restore_72, tg_72_21, dX7_restore_75, dX7_restore_76, fl_7_17_7, dX7_restore_79, dX7_restore_80, dX7_restore_81, fl_7_29_7, dX7_restore_84, dX7_restore_85, dX7_restore_86, dX7_restore_87, dX7_restore_90, tg_90_m21, dX7_restore_93, dX7_restore_94, dX7_restore_95, dX7_restore_96, sc_216, dX7_restore_99, tg_99_21, dX7_restore_102, dX7_restore_103, fl_7_23_7, dX7_restore_106, dX7_restore_107, dX7_restore_108, fl_7_32_7, dX7_restore_111, dX7_restore_112, dX7_restore_113, dX7_restore_114, dX7_restore_117, tg_117_m22, dX7_restore_120, dX7_restore_121, st_aload_n, st_bipush, st_getfield, st_goto, st_iadd, st_iaload, st_iastore, st_iconst, st_ifCond, st_if_icmp, st_iinc, st_iload_n, st_ireturn, st_istore_n, st_putfield, st_sipush]
        exact hj1
    clear loop2
    have hM1 := hM.putO sc1
    have hl := loop1 5 0 rfl _ hM.frO (by rw [cpN_0, updA_self]; exact hM1)
    rw [← hsc] at hl
    simp only [ME, hput] at hl
    have hI7 : sc 7 = bI ψ.2.2.2.2.1 := hImg.1
    refine yvc1_ok (uX7_restore Γ) (S := [10, 42]) 60 ?_
    simp only [yvc1, m1, e1, m8, e8, q1, in0_8, in1_8, in2_8, n0, cn1, cn2, yvc_s, s1i, s2i, s1l, s2l, sil, s1r, sir, siir, slir, srir, svr, sd1, sd2, lg, lput, ldel, isL_i, isL_r, isL_l, jmp, obj, obj1, fI, fR, arI, arL, arR, hput, f4_0, f4_1, f4_2, f4_3, lc_0, lc_1, rok_i, rok_b, rok_y, strF, fput_1, fput_2, csum_nil, csum_i, csum_l, csum_r, va_up_self, bx_uu, Int.reduceAdd, List.elem_nil, List.elem_cons, List.take_succ_cons, List.take_zero, List.drop_succ_cons, List.drop_zero, List.take_nil, List.drop_nil, List.reverse_cons, List.reverse_nil, List.nil_append, List.cons_append, List.append_nil, Option.toList_some, Option.toList_none, List.getElem?_cons_zero, List.getElem?_cons_succ, List.set_cons_zero, List.set_cons_succ, List.length_cons, List.length_nil, reduceIte, reduceCtorEq, and_true, true_and, and_self, or_true, true_or, false_and, and_false, not_true_eq_false, not_false_eq_true, true_implies, false_implies, implies_true, Nat.reduceAdd, Nat.reduceLT, Nat.reduceEqDiff, Nat.reduceLeDiff, Nat.reduceBEq, Nat.zero_add, Nat.lt_add_one, Bool.false_eq_true, Bool.or_false, Bool.or_true, Bool.or_self, Nat.zero_ne_one, Nat.one_ne_zero, ite_true, ite_false, ne_eq, Nat.reduceSub, Nat.succ_eq_add_one, Nat.zero_lt_succ, Nat.add_one_ne_zero, false_or, or_false, mX7_restore_c, mX7_restore_n, mX7_restore_r, mX7_restore_l, dX7_restore_0, dX7_restore_1, fl_7_207_7, dX7_restore_4, tg_4_6, cnd1_ne, dX7_restore_7, bc_m4, dX7_restore_9, dX7_restore_10, dX7_restore_11, dX7_restore_12, fl_7_26_7, dX7_restore_15, ic_0, dX7_restore_16, dX7_restore_17, fl_7_60_7, dX7_restore_20, dX7_restore_21, dX7_restore_22, dX7_restore_25, ic_1, dX7_restore_26, dX7_restore_27, fl_7_7_7, dX7_restore_30, dX7_restore_31, dX7_restore_32, dX7_restore_35, ic_2, dX7_restore_36, dX7_restore_37, fl_7_104_7, dX7_restore_40, dX7_restore_41, dX7_restore_42, dX7_restore_43, ic_5, dX7_restore_44, tg_44_23, cnd2_ge, dX7_restore_47, dX7_restore_48, fl_7_13_7, dX7_restore_51, dX7_restore_52, dX7_restore_53, dX7_restore_56, ic_3, dX7_restore_57, dX7_restore_58, dX7_restore_59, dX7_restore_60, dX7_restore_61, dX7_restore_64, tg_64_m22, dX7_restore_67, dX7_restore_68, dX7_restore_69, dX7_restore_70, bc_27, dX7_restore_72, tg_72_21, dX7_restore_75, dX7_restore_76, fl_7_17_7, dX7_restore_79, dX7_restore_80, dX7_restore_81, fl_7_29_7, dX7_restore_84, dX7_restore_85, dX7_restore_86, dX7_restore_87, dX7_restore_90, tg_90_m21, dX7_restore_93, dX7_restore_94, dX7_restore_95, dX7_restore_96, sc_216, dX7_restore_99, tg_99_21, dX7_restore_102, dX7_restore_103, fl_7_23_7, dX7_restore_106, dX7_restore_107, dX7_restore_108, fl_7_32_7, dX7_restore_111, dX7_restore_112, dX7_restore_113, dX7_restore_114, dX7_restore_117, tg_117_m22, dX7_restore_120, dX7_restore_121, st_aload_n, st_bipush, st_getfield, st_goto, st_iadd, st_iaload, st_iastore, st_iconst, st_ifCond, st_if_icmp, st_iinc, st_iload_n, st_ireturn, st_istore_n, st_putfield, st_sipush]
    rw [← hI7]
    exact hl
  · rw [if_neg c] at h
    exact h _ _ hR frm.rf hM
