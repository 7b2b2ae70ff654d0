/-! ===== YawnKeysModel: keys, the whole reading ===== -/
theorem inL_48b {x b : Int32} : inL x.toInt64 48 b.toInt64 = inr x 48 b := inL_i (a := 48)
theorem ix20w {d : Nat} (hd : d < 4) : vp_in (20 + nI d) 24 := by
  rw [show (20 : Int32) = nI 20 from rfl, nI_add]
  exact vp_in_nI (by omega) (by decide)
theorem ksl_k {l : Nat → Int32} {len P : Nat} (hP : P ≤ 5) : ∀ (n d : Nat) (k : Nat → Int32) (p : Nat), (ksl l len P n d k p).1 = true → (∀ j, j < d → k j = -4 ∨ ∃ q, q < P ∧ k j = nI q) → ∀ j, j < d + n → (ksl l len P n d k p).2.1 j = -4 ∨ ∃ q, q < P ∧ (ksl l len P n d k p).2.1 j = nI q
  | 0, d, k, p, _, h, j, hj => h j hj
  | n + 1, d, k, p, h1, h, j, hj => by
    rw [ksl] at h1 ⊢
    by_cases c : ltr l len (nx l len p) = 45 ∨ inr (ltr l len (nx l len p) - 48) 0 (nI P - 1) = true
    · rw [if_pos c] at h1 ⊢
      refine ksl_k hP n (d + 1) _ _ h1 (fun i hi => ?_) j (by omega)
      by_cases e : i = d
      · subst e
        rw [pk_us]
        by_cases c2 : ltr l len (nx l len p) = 45
        · rw [if_pos c2]; exact Or.inl rfl
        · rw [if_neg c2]
          exact Or.inr (has_n hP (c.resolve_left c2))
      · rw [pk_un e]
        exact h i (by omega)
    · rw [if_neg c] at h1
      cases h1
def sp_X7_keys (Γ : Cx) : YSp := fun av σ K => ∃ (l : Nat → Int32) (len p P : Nat) (k : Nat → Int32), mq Γ [] (fun s => s.1 20 = nI p ∧ p ≤ len ∧ P ≤ 5 ∧ s.1 23 = nI P ∧ RT (l, len) (s.1 14) (s.2.1 15)) (fun s s' r => SFp s s' ∧ s'.1 22 = s.1 22 ∧ s'.1 23 = s.1 23 ∧ s'.2.1 24 = s.2.1 24 ∧ (∀ j, j < 20 → s'.2.1 25 j = s.2.1 25 j) ∧ (((ksl l len P 4 0 k p).1 = false ∧ s'.1 21 = nI (ksl l len P 4 0 k p).2.2 ∧ r = some (.int 0)) ∨ ((ksl l len P 4 0 k p).1 = true ∧ s'.1 21 = nI (nx l len (ksl l len P 4 0 k p).2.2) ∧ (∀ d, d < 4 → s'.2.1 25 (20 + d) = (ksl l len P 4 0 k p).2.1 d) ∧ r = some (.int (bI (decide (ltr l len (nx l len (ksl l len P 4 0 k p).2.2) = -1))))))) av σ K
theorem rv_X7_keys {Γ : Cx} : Recv (sp_X7_keys Γ) 0 7 := by
  intro av σ K h
  obtain ⟨l, len, p, P, k, h⟩ := h
  obtain ⟨q, fs, h1, h2, h3⟩ := rv_mq h
  exact ⟨q, _, fs, h1, rfl, h2, h3⟩
theorem tg_4_65 : tgo 4 65 = some 69 := by decide
theorem tg_50_8 : tgo 50 8 = some 58 := by decide
theorem tg_55_7 : tgo 55 7 = some 62 := by decide
theorem tg_66_m64 : tgo 66 (-64) = some 2 := by decide
theorem tg_73_7 : tgo 73 7 = some 80 := by decide
theorem tg_77_4 : tgo 77 4 = some 81 := by decide
def mX7_keys : Mt := (⟨1, 0, 0, 25⟩, RX7, cX7_keys, 3, some .boolean, (0, 0), none)
theorem mX7_keys_c : mX7_keys.2.2.1 = cX7_keys := rfl
theorem mX7_keys_n : mX7_keys.2.2.2.1 = 3 := rfl
theorem mX7_keys_r : mX7_keys.2.2.2.2.1 = some .boolean := rfl
theorem mX7_keys_l : mX7_keys.2.2.2.2.2.2 = none := rfl
def jX7_keys (Γ : Cx) : List ((Nat × Nat) × Nat × Bool × YSp) := [((0, 142), 1, false, sp_X7_next Γ), ((1, 63), 3, true, sp_X7_lies Γ)]
theorem jX7_keys_0_142 (Γ : Cx) : kT (jX7_keys Γ) 0 142 = some (1, false, sp_X7_next Γ) := rfl
theorem jX7_keys_1_63 (Γ : Cx) : kT (jX7_keys Γ) 1 63 = some (3, true, sp_X7_lies Γ) := rfl
theorem uX7_keys (Γ : Cx) : TbOK Γ mX7_keys (fT fX7, cT kX7, kT (jX7_keys Γ)) := tb_ok fX7_ok kX7_ok (all_cons ⟨call_V (n := 0) (T := TX7) (N := 26) (ok_X7_next Γ) (rv_X7_next (Γ := Γ)) rfl bw_873 bw_870 bw_872 bw_24 bw_49 no_X7_next ⟨⟨rfl, rfl⟩, ⟨by decide, by decide⟩, ⟨by decide, by decide⟩⟩, fun z => by cases z⟩ (all_cons ⟨call_S (n := 3) (ok_X7_lies Γ) (rv_X7_lies (Γ := Γ)) bw_797 bw_795 bw_796 bw_49 no_X7_lies ⟨⟨rfl, rfl⟩, ⟨by decide, by decide⟩, ⟨by decide, by decide⟩⟩, fun _ => mono_X7_lies (Γ := Γ)⟩ (all_nil)))
set_option maxRecDepth 20000 in
theorem ok_X7_keys (Γ : Cx) : Ok Γ yX7_keys mX7_keys (sp_X7_keys Γ) := by
  refine ok_intro (by decide +kernel) rfl rfl ?_
  intro av σ K h
  obtain ⟨l, len, p, P, k, lab, ⟨a, ad⟩, ⟨sc, ar, it⟩, rfl, hM, ⟨h20, hp, hP, h23, hT⟩, h⟩ := h
  simp only at h h20 h23 hT
  obtain ⟨KR, hKR⟩ : ∃ KR, ksl l len P 4 0 k p = KR := ⟨_, rfl⟩
  rw [hKR] at h
  have loop : ∀ n d : Nat, ∀ (k1 : Nat → Int32) (p1 : Nat) (s2 : MS) (σ2 : Hp), d + n = 4 → p1 ≤ len → s2.1 20 = nI p1 → ksl l len P n d k1 p1 = KR → SFp (sc, ar, it) s2 → s2.1 22 = sc 22 → s2.1 23 = nI P → s2.2.1 24 = ar 24 → (∀ j, j < 20 → s2.2.1 25 j = ar 25 j) → (∀ j, j < d → s2.2.1 25 (20 + j) = k1 j) → frm (fL lab 30) σ σ2 → Mod Γ lab (a, ad) s2 σ2 → YG Γ mX7_keys K 2 [(0, .ref a), (1, .int (nI d))] [] σ2 := by
    intro n
    induction n with
    | zero =>
      intro d k1 p1 s2 σ2 hd hp1 g20 hks hF2 g22 g23 g24 g25 gK hf2 hM2
      obtain rfl : d = 4 := by omega
      have hT2 := hF2.rt hT
      have hend := mq_end (mlt_ltr (p := nx l len p1) hT2)
      rw [← hks] at h
      refine yvc1_ok (uX7_keys Γ) (S := [2]) 60 ?_
      simp only [yvc1, ge4, yvc_s, s1i, s2i, s1l, s2l, sil, s1r, sir, siir, slir, srir, svr, sd1, sd2, lg, lput, ldel, isL_i, isL_r, isL_l, jmp, obj, obj1, fI, fR, arI, arL, arR, hput, f4_0, f4_1, f4_2, f4_3, lc_0, lc_1, rok_i, rok_b, rok_y, strF, fput_1, fput_2, csum_nil, csum_i, csum_l, csum_r, va_up_self, bx_uu, Int.reduceAdd, List.elem_nil, List.elem_cons, List.take_succ_cons, List.take_zero, List.drop_succ_cons, List.drop_zero, List.take_nil, List.drop_nil, List.reverse_cons, List.reverse_nil, List.nil_append, List.cons_append, List.append_nil, Option.toList_some, Option.toList_none, List.getElem?_cons_zero, List.getElem?_cons_succ, List.set_cons_zero, List.set_cons_succ, List.length_cons, List.length_nil, reduceIte, reduceCtorEq, and_true, true_and, and_self, or_true, true_or, false_and, and_false, not_true_eq_false, not_false_eq_true, true_implies, false_implies, implies_true, Nat.reduceAdd, Nat.reduceLT, Nat.reduceEqDiff, Nat.reduceLeDiff, Nat.reduceBEq, Nat.zero_add, Nat.lt_add_one, Bool.false_eq_true, Bool.or_false, Bool.or_true, Bool.or_self, Nat.zero_ne_one, Nat.one_ne_zero, ite_true, ite_false, ne_eq, Nat.reduceSub, Nat.succ_eq_add_one, Nat.zero_lt_succ, Nat.add_one_ne_zero, false_or, or_false, mX7_keys_c, mX7_keys_n, mX7_keys_r, mX7_keys_l, dX7_keys_0, ic_0, dX7_keys_1, dX7_keys_2, dX7_keys_3, ic_4, dX7_keys_4, tg_4_65, cnd2_ge, dX7_keys_7, dX7_keys_8, dX7_keys_11, dX7_keys_12, dX7_keys_13, bc_45, dX7_keys_15, tg_15_24, cnd2_eq, dX7_keys_18, dX7_keys_19, dX7_keys_20, cl_7_138, dX7_keys_23, bc_47, dX7_keys_25, dX7_keys_26, fl_7_155_7, dX7_keys_29, dX7_keys_30, dX7_keys_31, dX7_keys_34, tg_34_5, cnd1_ne, dX7_keys_37, dX7_keys_38, dX7_keys_39, dX7_keys_40, fl_7_57_7, dX7_keys_43, bc_20, dX7_keys_45, dX7_keys_46, dX7_keys_47, dX7_keys_48, dX7_keys_50, tg_50_8, cnd2_ne, dX7_keys_53, bc_m4, dX7_keys_55, tg_55_7, dX7_keys_58, dX7_keys_59, bc_48, dX7_keys_61, dX7_keys_62, dX7_keys_63, ic_1, dX7_keys_66, tg_66_m64, dX7_keys_69, dX7_keys_70, dX7_keys_73, tg_73_7, dX7_keys_76, dX7_keys_77, tg_77_4, dX7_keys_80, dX7_keys_81, jX7_keys_0_142, jX7_keys_1_63, st_aload_n, st_bipush, st_getfield, st_goto, st_i2l, st_iadd, st_iastore, st_iconst, st_ifCond, st_if_icmp, st_iinc, st_iload_n, st_invokestatic, st_invokevirtual, st_ireturn, st_istore_n, st_isub, st_ldc2_w]
      refine ⟨l, len, p1, lab, (a, ad), s2, rfl, hM2, ⟨g20, hp1, hT2⟩, ?_⟩
      rintro σ3 s3 r3 ⟨hs3, rfl⟩ hf3 hM3
      have hk : ∀ r, r = some (.int (bI (decide (ltr l len (nx l len p1) = -1)))) → K r σ3 := fun r hr => h σ3 s3 r ⟨by rw [hs3]; exact hF2.tr nxS_fp, by rw [hs3]; exact g22, by rw [hs3]; exact g23.trans h23.symm, by rw [hs3]; exact g24, by rw [hs3]; exact g25, Or.inr ⟨rfl, by rw [hs3]; rfl, by rw [hs3]; exact gK, hr⟩⟩ (hf2.tr hf3) hM3
      refine yvc_ok (uX7_keys Γ) (S := [2]) 60 _ _ _ _ ?_
      simp only [← hend, i1ne0, yvc_s, s1i, s2i, s1l, s2l, sil, s1r, sir, siir, slir, srir, svr, sd1, sd2, lg, lput, ldel, isL_i, isL_r, isL_l, jmp, obj, obj1, fI, fR, arI, arL, arR, hput, f4_0, f4_1, f4_2, f4_3, lc_0, lc_1, rok_i, rok_b, rok_y, strF, fput_1, fput_2, csum_nil, csum_i, csum_l, csum_r, va_up_self, bx_uu, Int.reduceAdd, List.elem_nil, List.elem_cons, List.take_succ_cons, List.take_zero, List.drop_succ_cons, List.drop_zero, List.take_nil, List.drop_nil, List.reverse_cons, List.reverse_nil, List.nil_append, List.cons_append, List.append_nil, Option.toList_some, Option.toList_none, List.getElem?_cons_zero, List.getElem?_cons_succ, List.set_cons_zero, List.set_cons_succ, List.length_cons, List.length_nil, reduceIte, reduceCtorEq, and_true, true_and, and_self, or_true, true_or, false_and, and_false, not_true_eq_false, not_false_eq_true, true_implies, false_implies, implies_true, Nat.reduceAdd, Nat.reduceLT, Nat.reduceEqDiff, Nat.reduceLeDiff, Nat.reduceBEq, Nat.zero_add, Nat.lt_add_one, Bool.false_eq_true, Bool.or_false, Bool.or_true, Bool.or_self, Nat.zero_ne_one, Nat.one_ne_zero, ite_true, ite_false, ne_eq, Nat.reduceSub, Nat.succ_eq_add_one, Nat.zero_lt_succ, Nat.add_one_ne_zero, false_or, or_false, mX7_keys_c, mX7_keys_n, mX7_keys_r, mX7_keys_l, dX7_keys_0, ic_0, dX7_keys_1, dX7_keys_2, dX7_keys_3, ic_4, dX7_keys_4, tg_4_65, cnd2_ge, dX7_keys_7, dX7_keys_8, dX7_keys_11, dX7_keys_12, dX7_keys_13, bc_45, dX7_keys_15, tg_15_24, cnd2_eq, dX7_keys_18, dX7_keys_19, dX7_keys_20, cl_7_138, dX7_keys_23, bc_47, dX7_keys_25, dX7_keys_26, fl_7_155_7, dX7_keys_29, dX7_keys_30, dX7_keys_31, dX7_keys_34, tg_34_5, cnd1_ne, dX7_keys_37, dX7_keys_38, dX7_keys_39, dX7_keys_40, fl_7_57_7, dX7_keys_43, bc_20, dX7_keys_45, dX7_keys_46, dX7_keys_47, dX7_keys_48, dX7_keys_50, tg_50_8, cnd2_ne, dX7_keys_53, bc_m4, dX7_keys_55, tg_55_7, dX7_keys_58, dX7_keys_59, bc_48, dX7_keys_61, dX7_keys_62, dX7_keys_63, ic_1, dX7_keys_66, tg_66_m64, dX7_keys_69, dX7_keys_70, dX7_keys_73, tg_73_7, dX7_keys_76, dX7_keys_77, tg_77_4, dX7_keys_80, dX7_keys_81, jX7_keys_0_142, jX7_keys_1_63, st_aload_n, st_bipush, st_getfield, st_goto, st_i2l, st_iadd, st_iastore, st_iconst, st_ifCond, st_if_icmp, st_iinc, st_iload_n, st_invokestatic, st_invokevirtual, st_ireturn, st_istore_n, st_isub, st_ldc2_w]
      refine ⟨fun c => ?_, fun c => ?_⟩
      · exact hk _ (by rw [decide_eq_false c]; rfl)
      · exact hk _ (by rw [decide_eq_true (Classical.not_not.mp c)]; rfl)
    | succ n ih =>
      intro d k1 p1 s2 σ2 hd hp1 g20 hks hF2 g22 g23 g24 g25 gK hf2 hM2
      obtain ⟨c1, -, -⟩ := lt4 (show d < 4 by omega)
      obtain ⟨-, j2⟩ := ix20 (show d < 4 by omega)
      have j3 := ix20w (show d < 4 by omega)
      have hT2 := hF2.rt hT
      have hq2 := nx_le (l := l) hp1
      have hml2 := mlt_ltr (p := nx l len p1) hT2
      rw [ksl] at hks
      refine yvc1_ok (uX7_keys Γ) (S := [2]) 60 ?_
      simp only [yvc1, c1, yvc_s, s1i, s2i, s1l, s2l, sil, s1r, sir, siir, slir, srir, svr, sd1, sd2, lg, lput, ldel, isL_i, isL_r, isL_l, jmp, obj, obj1, fI, fR, arI, arL, arR, hput, f4_0, f4_1, f4_2, f4_3, lc_0, lc_1, rok_i, rok_b, rok_y, strF, fput_1, fput_2, csum_nil, csum_i, csum_l, csum_r, va_up_self, bx_uu, Int.reduceAdd, List.elem_nil, List.elem_cons, List.take_succ_cons, List.take_zero, List.drop_succ_cons, List.drop_zero, List.take_nil, List.drop_nil, List.reverse_cons, List.reverse_nil, List.nil_append, List.cons_append, List.append_nil, Option.toList_some, Option.toList_none, List.getElem?_cons_zero, List.getElem?_cons_succ, List.set_cons_zero, List.set_cons_succ, List.length_cons, List.length_nil, reduceIte, reduceCtorEq, and_true, true_and, and_self, or_true, true_or, false_and, and_false, not_true_eq_false, not_false_eq_true, true_implies, false_implies, implies_true, Nat.reduceAdd, Nat.reduceLT, Nat.reduceEqDiff, Nat.reduceLeDiff, Nat.reduceBEq, Nat.zero_add, Nat.lt_add_one, Bool.false_eq_true, Bool.or_false, Bool.or_true, Bool.or_self, Nat.zero_ne_one, Nat.one_ne_zero, ite_true, ite_false, ne_eq, Nat.reduceSub, Nat.succ_eq_add_one, Nat.zero_lt_succ, Nat.add_one_ne_zero, false_or, or_false, mX7_keys_c, mX7_keys_n, mX7_keys_r, mX7_keys_l, dX7_keys_0, ic_0, dX7_keys_1, dX7_keys_2, dX7_keys_3, ic_4, dX7_keys_4, tg_4_65, cnd2_ge, dX7_keys_7, dX7_keys_8, dX7_keys_11, dX7_keys_12, dX7_keys_13, bc_45, dX7_keys_15, tg_15_24, cnd2_eq, dX7_keys_18, dX7_keys_19, dX7_keys_20, cl_7_138, dX7_keys_23, bc_47, dX7_keys_25, dX7_keys_26, fl_7_155_7, dX7_keys_29, dX7_keys_30, dX7_keys_31, dX7_keys_34, tg_34_5, cnd1_ne, dX7_keys_37, dX7_keys_38, dX7_keys_39, dX7_keys_40, fl_7_57_7, dX7_keys_43, bc_20, dX7_keys_45, dX7_keys_46, dX7_keys_47, dX7_keys_48, dX7_keys_50, tg_50_8, cnd2_ne, dX7_keys_53, bc_m4, dX7_keys_55, tg_55_7, dX7_keys_58, dX7_keys_59, bc_48, dX7_keys_61, dX7_keys_62, dX7_keys_63, ic_1, dX7_keys_66, tg_66_m64, dX7_keys_69, dX7_keys_70, dX7_keys_73, tg_73_7, dX7_keys_76, dX7_keys_77, tg_77_4, dX7_keys_80, dX7_keys_81, jX7_keys_0_142, jX7_keys_1_63, st_aload_n, st_bipush, st_getfield, st_goto, st_i2l, st_iadd, st_iastore, st_iconst, st_ifCond, st_if_icmp, st_iinc, st_iload_n, st_invokestatic, st_invokevirtual, st_ireturn, st_istore_n, st_isub, st_ldc2_w]
      refine ⟨l, len, p1, lab, (a, ad), s2, rfl, hM2, ⟨g20, hp1, hT2⟩, ?_⟩
      rintro σ3 s3 r3 ⟨hs3, rfl⟩ hf3 hM3
      generalize nx l len p1 = q2 at hks hq2 hml2 hs3 ⊢
      have hF3 : SFp (sc, ar, it) s3 := by rw [hs3]; exact hF2.tr nxS_fp
      have k20 : s3.1 20 = nI (q2 + 1) := by rw [hs3]; rfl
      have k21 : s3.1 21 = nI q2 := by rw [hs3]; rfl
      have k22 : s3.1 22 = sc 22 := by rw [hs3]; exact g22
      have k23 : s3.1 23 = nI P := by rw [hs3]; exact g23
      have k24 : s3.2.1 24 = ar 24 := by rw [hs3]; exact g24
      have k25 : ∀ j, j < 20 → s3.2.1 25 j = ar 25 j := by rw [hs3]; exact g25
      have kK : ∀ j, j < d → s3.2.1 25 (20 + j) = k1 j := by rw [hs3]; exact gK
      clear hs3
      obtain ⟨sc3, ar3, it3⟩ := s3
      simp only at k20 k21 k22 k23 k24 k25 kK
      have store : ∀ v : Int32, v = (if ltr l len q2 = 45 then -4 else ltr l len q2 - 48) → (ltr l len q2 = 45 ∨ inr (ltr l len q2 - 48) 0 (nI P - 1) = true) → YG Γ mX7_keys K 62 [(0, .ref a), (1, .int (nI d)), (2, .int (mlt l len q2))] [.int v, .int (20 + nI d), .ref (ad 25)] σ3 := by
        intro v hv hc
        rw [if_pos hc, ← hv] at hks
        have hlt2 := ks_lt hc
        obtain ⟨m25, e25⟩ := hM3.arr 25 rfl
        have hM4 := hM3.putA (k := 25) rfl (upd (ar3 25) (20 + d) v)
        have hf4 := (hf2.tr hf3).tr (hM3.frA (k := 25) rfl (e := iA Γ (lenM 25) (upd (ar3 25) (20 + d) v)))
        have hi := ih (d + 1) (upd k1 d v) (q2 + 1) _ _ (by omega) (by omega) k20 hks (hF3.tr (SFp.a (k := 25) (by decide))) k22 k23 (by simp only [updA_ne (show (24 : Nat) ≠ 25 by decide)]; exact k24) (by
          intro j hj
          simp only [updA_at]
          rw [pk_un (by omega)]
          exact k25 j hj) (by
          intro j hj
          simp only [updA_at]
          by_cases e : j = d
          · subst e; rw [pk_us, pk_us]
          · rw [pk_un (by omega), pk_un e]; exact kK j (by omega)) hf4 hM4
        simp only [iA, lenM, hput] at m25 e25 hi
        refine yvc_ok (uX7_keys Γ) (S := [2]) 60 _ _ _ _ ?_
        simp only [m25, e25, j2, j3, nI_1, yvc_s, s1i, s2i, s1l, s2l, sil, s1r, sir, siir, slir, srir, svr, sd1, sd2, lg, lput, ldel, isL_i, isL_r, isL_l, jmp, obj, obj1, fI, fR, arI, arL, arR, hput, f4_0, f4_1, f4_2, f4_3, lc_0, lc_1, rok_i, rok_b, rok_y, strF, fput_1, fput_2, csum_nil, csum_i, csum_l, csum_r, va_up_self, bx_uu, Int.reduceAdd, List.elem_nil, List.elem_cons, List.take_succ_cons, List.take_zero, List.drop_succ_cons, List.drop_zero, List.take_nil, List.drop_nil, List.reverse_cons, List.reverse_nil, List.nil_append, List.cons_append, List.append_nil, Option.toList_some, Option.toList_none, List.getElem?_cons_zero, List.getElem?_cons_succ, List.set_cons_zero, List.set_cons_succ, List.length_cons, List.length_nil, reduceIte, reduceCtorEq, and_true, true_and, and_self, or_true, true_or, false_and, and_false, not_true_eq_false, not_false_eq_true, true_implies, false_implies, implies_true, Nat.reduceAdd, Nat.reduceLT, Nat.reduceEqDiff, Nat.reduceLeDiff, Nat.reduceBEq, Nat.zero_add, Nat.lt_add_one, Bool.false_eq_true, Bool.or_false, Bool.or_true, Bool.or_self, Nat.zero_ne_one, Nat.one_ne_zero, ite_true, ite_false, ne_eq, Nat.reduceSub, Nat.succ_eq_add_one, Nat.zero_lt_succ, Nat.add_one_ne_zero, false_or, or_false, mX7_keys_c, mX7_keys_n, mX7_keys_r, mX7_keys_l, dX7_keys_0, ic_0, dX7_keys_1, dX7_keys_2, dX7_keys_3, ic_4, dX7_keys_4, tg_4_65, cnd2_ge, dX7_keys_7, dX7_keys_8, dX7_keys_11, dX7_keys_12, dX7_keys_13, bc_45, dX7_keys_15, tg_15_24, cnd2_eq, dX7_keys_18, dX7_keys_19, dX7_keys_20, cl_7_138, dX7_keys_23, bc_47, dX7_keys_25, dX7_keys_26, fl_7_155_7, dX7_keys_29, dX7_keys_30, dX7_keys_31, dX7_keys_34, tg_34_5, cnd1_ne, dX7_keys_37, dX7_keys_38, dX7_keys_39, dX7_keys_40, fl_7_57_7, dX7_keys_43, bc_20, dX7_keys_45, dX7_keys_46, dX7_keys_47, dX7_keys_48, dX7_keys_50, tg_50_8, cnd2_ne, dX7_keys_53, bc_m4, dX7_keys_55, tg_55_7, dX7_keys_58, dX7_keys_59, bc_48, dX7_keys_61, dX7_keys_62, dX7_keys_63, ic_1, dX7_keys_66, tg_66_m64, dX7_keys_69, dX7_keys_70, dX7_keys_73, tg_73_7, dX7_keys_76, dX7_keys_77, tg_77_4, dX7_keys_80, dX7_keys_81, jX7_keys_0_142, jX7_keys_1_63, st_aload_n, st_bipush, st_getfield, st_goto, st_i2l, st_iadd, st_iastore, st_iconst, st_ifCond, st_if_icmp, st_iinc, st_iload_n, st_invokestatic, st_invokevirtual, st_ireturn, st_istore_n, st_isub, st_ldc2_w]
        exact hi.ext [(2, _)]
      obtain ⟨⟨m1, -⟩, e1, -⟩ := id hM3
      simp only [ME] at m1 e1
      rw [k23] at e1
      have hc45 := mq_c hml2 (c := 45) (by decide) (by decide)
      have hck := mq_k hml2 hP
      have hxy : (ltr l len q2 = 45 ∨ inr (ltr l len q2 - 48) 0 (nI P - 1) = true) → ltr l len q2 = mlt l len q2 := fun hc => mq_v hml2 (fun z => by have := ks_lt hc; unfold ltr at z; rw [if_pos this] at z; have h3 := (hT.2.2 q2 this).2; simp only at h3; rw [z] at h3; exact absurd h3 (by decide))
      refine yvc_ok (uX7_keys Γ) (S := [2, 62]) 60 _ _ _ _ ?_
      simp only [m1, e1, sp_X7_lies, inL_48b, ← hc45, ← hck, bI_eq0, Bool.not_eq_false, yvc_s, s1i, s2i, s1l, s2l, sil, s1r, sir, siir, slir, srir, svr, sd1, sd2, lg, lput, ldel, isL_i, isL_r, isL_l, jmp, obj, obj1, fI, fR, arI, arL, arR, hput, f4_0, f4_1, f4_2, f4_3, lc_0, lc_1, rok_i, rok_b, rok_y, strF, fput_1, fput_2, csum_nil, csum_i, csum_l, csum_r, va_up_self, bx_uu, Int.reduceAdd, List.elem_nil, List.elem_cons, List.take_succ_cons, List.take_zero, List.drop_succ_cons, List.drop_zero, List.take_nil, List.drop_nil, List.reverse_cons, List.reverse_nil, List.nil_append, List.cons_append, List.append_nil, Option.toList_some, Option.toList_none, List.getElem?_cons_zero, List.getElem?_cons_succ, List.set_cons_zero, List.set_cons_succ, List.length_cons, List.length_nil, reduceIte, reduceCtorEq, and_true, true_and, and_self, or_true, true_or, false_and, and_false, not_true_eq_false, not_false_eq_true, true_implies, false_implies, implies_true, Nat.reduceAdd, Nat.reduceLT, Nat.reduceEqDiff, Nat.reduceLeDiff, Nat.reduceBEq, Nat.zero_add, Nat.lt_add_one, Bool.false_eq_true, Bool.or_false, Bool.or_true, Bool.or_self, Nat.zero_ne_one, Nat.one_ne_zero, ite_true, ite_false, ne_eq, Nat.reduceSub, Nat.succ_eq_add_one, Nat.zero_lt_succ, Nat.add_one_ne_zero, false_or, or_false, mX7_keys_c, mX7_keys_n, mX7_keys_r, mX7_keys_l, dX7_keys_0, ic_0, dX7_keys_1, dX7_keys_2, dX7_keys_3, ic_4, dX7_keys_4, tg_4_65, cnd2_ge, dX7_keys_7, dX7_keys_8, dX7_keys_11, dX7_keys_12, dX7_keys_13, bc_45, dX7_keys_15, tg_15_24, cnd2_eq, dX7_keys_18, dX7_keys_19, dX7_keys_20, cl_7_138, dX7_keys_23, bc_47, dX7_keys_25, dX7_keys_26, fl_7_155_7, dX7_keys_29, dX7_keys_30, dX7_keys_31, dX7_keys_34, tg_34_5, cnd1_ne, dX7_keys_37, dX7_keys_38, dX7_keys_39, dX7_keys_40, fl_7_57_7, dX7_keys_43, bc_20, dX7_keys_45, dX7_keys_46, dX7_keys_47, dX7_keys_48, dX7_keys_50, tg_50_8, cnd2_ne, dX7_keys_53, bc_m4, dX7_keys_55, tg_55_7, dX7_keys_58, dX7_keys_59, bc_48, dX7_keys_61, dX7_keys_62, dX7_keys_63, ic_1, dX7_keys_66, tg_66_m64, dX7_keys_69, dX7_keys_70, dX7_keys_73, tg_73_7, dX7_keys_76, dX7_keys_77, tg_77_4, dX7_keys_80, dX7_keys_81, jX7_keys_0_142, jX7_keys_1_63, st_aload_n, st_bipush, st_getfield, st_goto, st_i2l, st_iadd, st_iastore, st_iconst, st_ifCond, st_if_icmp, st_iinc, st_iload_n, st_invokestatic, st_invokevirtual, st_ireturn, st_istore_n, st_isub, st_ldc2_w]
      refine ⟨fun c => ?_, fun c => ?_⟩
      · exact ⟨fun z => absurd c z, fun _ => store _ (by rw [if_pos c]) (Or.inl c)⟩
      · refine ⟨fun c2 => ⟨fun _ => ?_, fun z => absurd (Classical.not_not.mp z) c⟩, fun c2 => ?_⟩
        · exact store _ (by rw [if_neg c, hxy (Or.inr c2)]) (Or.inr c2)
        · have hno : ¬ (ltr l len q2 = 45 ∨ inr (ltr l len q2 - 48) 0 (nI P - 1) = true) := fun z => z.elim c c2
          rw [if_neg hno] at hks
          rw [← hks] at h
          exact h σ3 _ _ ⟨hF3, k22, k23.trans h23.symm, k24, k25, Or.inl ⟨rfl, k21, rfl⟩⟩ (hf2.tr hf3) hM3
  refine ⟨Nat.le_of_ble_eq_true rfl, yvc_ok (uX7_keys Γ) (S := [2]) 60 _ _ _ _ ?_⟩
  simp only [lv_args, Value.category, yvc_s, s1i, s2i, s1l, s2l, sil, s1r, sir, siir, slir, srir, svr, sd1, sd2, lg, lput, ldel, isL_i, isL_r, isL_l, jmp, obj, obj1, fI, fR, arI, arL, arR, hput, f4_0, f4_1, f4_2, f4_3, lc_0, lc_1, rok_i, rok_b, rok_y, strF, fput_1, fput_2, csum_nil, csum_i, csum_l, csum_r, va_up_self, bx_uu, Int.reduceAdd, List.elem_nil, List.elem_cons, List.take_succ_cons, List.take_zero, List.drop_succ_cons, List.drop_zero, List.take_nil, List.drop_nil, List.reverse_cons, List.reverse_nil, List.nil_append, List.cons_append, List.append_nil, Option.toList_some, Option.toList_none, List.getElem?_cons_zero, List.getElem?_cons_succ, List.set_cons_zero, List.set_cons_succ, List.length_cons, List.length_nil, reduceIte, reduceCtorEq, and_true, true_and, and_self, or_true, true_or, false_and, and_false, not_true_eq_false, not_false_eq_true, true_implies, false_implies, implies_true, Nat.reduceAdd, Nat.reduceLT, Nat.reduceEqDiff, Nat.reduceLeDiff, Nat.reduceBEq, Nat.zero_add, Nat.lt_add_one, Bool.false_eq_true, Bool.or_false, Bool.or_true, Bool.or_self, Nat.zero_ne_one, Nat.one_ne_zero, ite_true, ite_false, ne_eq, Nat.reduceSub, Nat.succ_eq_add_one, Nat.zero_lt_succ, Nat.add_one_ne_zero, false_or, or_false, mX7_keys_c, mX7_keys_n, mX7_keys_r, mX7_keys_l, dX7_keys_0, ic_0, dX7_keys_1, dX7_keys_2, dX7_keys_3, ic_4, dX7_keys_4, tg_4_65, cnd2_ge, dX7_keys_7, dX7_keys_8, dX7_keys_11, dX7_keys_12, dX7_keys_13, bc_45, dX7_keys_15, tg_15_24, cnd2_eq, dX7_keys_18, dX7_keys_19, dX7_keys_20, cl_7_138, dX7_keys_23, bc_47, dX7_keys_25, dX7_keys_26, fl_7_155_7, dX7_keys_29, dX7_keys_30, dX7_keys_31, dX7_keys_34, tg_34_5, cnd1_ne, dX7_keys_37, dX7_keys_38, dX7_keys_39, dX7_keys_40, fl_7_57_7, dX7_keys_43, bc_20, dX7_keys_45, dX7_keys_46, dX7_keys_47, dX7_keys_48, dX7_keys_50, tg_50_8, cnd2_ne, dX7_keys_53, bc_m4, dX7_keys_55, tg_55_7, dX7_keys_58, dX7_keys_59, bc_48, dX7_keys_61, dX7_keys_62, dX7_keys_63, ic_1, dX7_keys_66, tg_66_m64, dX7_keys_69, dX7_keys_70, dX7_keys_73, tg_73_7, dX7_keys_76, dX7_keys_77, tg_77_4, dX7_keys_80, dX7_keys_81, jX7_keys_0_142, jX7_keys_1_63, st_aload_n, st_bipush, st_getfield, st_goto, st_i2l, st_iadd, st_iastore, st_iconst, st_ifCond, st_if_icmp, st_iinc, st_iload_n, st_invokestatic, st_invokevirtual, st_ireturn, st_istore_n, st_isub, st_ldc2_w]
  exact loop 4 0 k p _ σ rfl hp h20 hKR SFp.rf rfl h23 rfl (fun _ _ => rfl) (fun j hj => absurd hj (Nat.not_lt_zero _)) frm.rf hM
