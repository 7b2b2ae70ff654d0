/-! ===== YawnKeysModel: told ===== -/
theorem supC_P {s : CS} {what : Int32} {p d : Nat} {v : Int32} : (supC s what p d v).2.2.2.2.2.2.1 = s.2.2.2.2.2.2.1 := by
  unfold supC
  split
  · rfl
  · split <;> rfl
theorem supC_cj {D : Nat} {s : CS} (h : CJ D s) {what : Int32} {p d v : Nat} (hv : v ≤ 20) : CJ D (supC s what p d (nI v)) := by
  unfold supC
  split
  · exact h
  · split
    · exact ⟨h.1, h.2.1.upd ⟨v, hv, rfl⟩, h.2.2⟩
    · exact h
theorem RS.sh {ψ : XS} {s : MS} (h : R ψ s) {q I N k : Nat} (hq : q < 4) (hk : k ≤ 24) (he : (ψ.2.2.2.2.2.2 q).2.2 = nI k) (hI : I + N ≤ k) : ∀ i, i < N → s.2.2 (24 * q + I + i) = (ψ.2.2.2.2.2.2 q).1 (I + i) := by
  intro i hi
  have := (h.2.2.2.2 q hq).2.2.2 k (I + i) hk he (by omega)
  rw [← this, Nat.add_assoc]
/-- what the three ways share: the arguments, what the sheet holds, and what comes out -/
def tdP (ψ : XS) (what : Int32) (p d q I N : Nat) (r : Int32) (s : MS) : Prop := R ψ s ∧ p < ψ.1.2.2.2.2.2.2.1 ∧ d < 4 ∧ q < 4 ∧ N ≤ 24 ∧ (∃ k, k ≤ 24 ∧ (ψ.2.2.2.2.2.2 q).2.2 = nI k ∧ I + N ≤ k) ∧ TdR ψ what p d (ψ.2.2.2.2.2.2 q).1 I N (tdL what + 1 - tdF what) (tdF what) 0 r
def sp_X7_toldWants (Γ : Cx) : YSp := fun av σ K => ∃ (ψ : XS) (p d q I N : Nat) (r : Int32), mq Γ [.int (nI p), .int (nI d), .int (nI q), .int (nI I), .int (nI N)] (tdP ψ 1 p d q I N r) (fun _ s' v => R ψ s' ∧ v = some (.int r)) av σ K
theorem rv_X7_toldWants {Γ : Cx} : Recv (sp_X7_toldWants Γ) 5 7 := by
  intro av σ K h
  obtain ⟨ψ, p, d, q, I, N, r, h⟩ := h
  obtain ⟨q, fs, h1, h2, h3⟩ := rv_mq h
  exact ⟨q, _, fs, h1, rfl, h2, h3⟩
theorem bw_1035 : Cond.code yX7_isTold cX7_isTold 8 (some .boolean) ∈ BW := bw_i 1035 (by decide +kernel) (by decide +kernel)
theorem no_X7_isTold : NameOK yX7_isTold 5 := by unfold NameOK; decide +kernel
theorem bw_1032 : Cond.methodLink RX7 215 yX7_isTold ∈ BW := bw_i 1032 (by decide +kernel) (by decide +kernel)
theorem bw_1034 : Cond.instanceMethod yX7_isTold ∈ BW := bw_i 1034 (by decide +kernel) (by decide +kernel)
theorem bw_38 : Cond.selects RX7 yX7_isTold yX7_isTold ∈ BW := bw_i 38 (by decide +kernel) (by decide +kernel)
theorem tg_10_52 : tgo 10 52 = some 62 := by decide
theorem tg_42_10 : tgo 42 10 = some 52 := by decide
theorem tg_59_m53 : tgo 59 (-53) = some 6 := by decide
def mX7_toldWants : Mt := (⟨4, 0, 0, 96⟩, RX7, cX7_toldWants, 8, some .int, (0, 0), none)
theorem mX7_toldWants_c : mX7_toldWants.2.2.1 = cX7_toldWants := rfl
theorem mX7_toldWants_n : mX7_toldWants.2.2.2.1 = 8 := rfl
theorem mX7_toldWants_r : mX7_toldWants.2.2.2.2.1 = some .int := rfl
theorem mX7_toldWants_l : mX7_toldWants.2.2.2.2.2.2 = none := rfl
def jX7_toldWants (Γ : Cx) : List ((Nat × Nat) × Nat × Bool × YSp) := [((0, 122), 1, false, sp_X7_aside Γ), ((0, 215), 6, false, sp_X7_isTold Γ)]
theorem jX7_toldWants_0_122 (Γ : Cx) : kT (jX7_toldWants Γ) 0 122 = some (1, false, sp_X7_aside Γ) := rfl
theorem jX7_toldWants_0_215 (Γ : Cx) : kT (jX7_toldWants Γ) 0 215 = some (6, false, sp_X7_isTold Γ) := rfl
theorem uX7_toldWants (Γ : Cx) : TbOK Γ mX7_toldWants (fT fX7, cT kX7, kT (jX7_toldWants Γ)) := tb_ok fX7_ok kX7_ok (all_cons ⟨call_V (n := 0) (T := TX7) (N := 26) (ok_X7_aside Γ) (rv_X7_aside (Γ := Γ)) rfl bw_835 bw_832 bw_834 bw_17 bw_49 no_X7_aside ⟨⟨rfl, rfl⟩, ⟨by decide, by decide⟩, ⟨by decide, by decide⟩⟩, fun z => by cases z⟩ (all_cons ⟨call_V (n := 5) (T := TX7) (N := 26) (ok_X7_isTold Γ) (rv_X7_isTold (Γ := Γ)) rfl bw_1035 bw_1032 bw_1034 bw_38 bw_49 no_X7_isTold ⟨⟨rfl, rfl⟩, ⟨by decide, by decide⟩, ⟨by decide, by decide⟩⟩, fun z => by cases z⟩ (all_nil)))
set_option maxRecDepth 20000 in
theorem ok_X7_toldWants (Γ : Cx) : Ok Γ yX7_toldWants mX7_toldWants (sp_X7_toldWants Γ) := by
  refine ok_intro (by decide +kernel) rfl rfl ?_
  intro av σ K h
  obtain ⟨ψ, p, d, q, I, N, r, lab, ⟨a, ad⟩, s, rfl, hM, ⟨hR, hp, hd, hq, hN, ⟨k, hk, hke, hIN⟩, hT⟩, h⟩ := h
  simp only at h
  have pI := hR.1.2.2.2.2.1
  have hP := pI.P5
  have hp5 : p < 5 := by omega
  obtain ⟨i1, i2⟩ := ix4 hp5 hd
  have loop : ∀ m v : Nat, ∀ (acc : Int32) (s1 : MS) (σ1 : Hp), v + m = 21 → frm (fL lab 30) σ σ1 → Mod Γ lab (a, ad) s1 σ1 → R ψ s1 → TdR ψ 1 p d (ψ.2.2.2.2.2.2 q).1 I N m v acc r → YG Γ mX7_toldWants K 6 [(0, .ref a), (1, .int (nI p)), (2, .int (nI d)), (3, .int (nI q)), (4, .int (nI I)), (5, .int (nI N)), (6, .int acc), (7, .int (nI v))] [] σ1 := by
    intro m
    induction m with
    | zero =>
      intro v acc s1 σ1 hv hf1 hM1 hR1 hT
      obtain rfl : v = 21 := by omega
      have hk := h σ1 s1 _ ⟨hR1, rfl⟩ hf1 hM1
      rw [show r = acc from hT] at hk
      refine yvc1_ok (uX7_toldWants Γ) (S := [6]) 40 ?_
      simp only [yvc1, ge21, yvc_s, s1i, s2i, s1l, s2l, sil, s1r, sir, siir, slir, srir, svr, sd1, sd2, lg, lput, ldel, isL_i, isL_r, isL_l, jmp, obj, obj1, fI, fR, arI, arL, arR, hput, f4_0, f4_1, f4_2, f4_3, lc_0, lc_1, rok_i, rok_b, rok_y, strF, fput_1, fput_2, csum_nil, csum_i, csum_l, csum_r, va_up_self, bx_uu, Int.reduceAdd, List.elem_nil, List.elem_cons, List.take_succ_cons, List.take_zero, List.drop_succ_cons, List.drop_zero, List.take_nil, List.drop_nil, List.reverse_cons, List.reverse_nil, List.nil_append, List.cons_append, List.append_nil, Option.toList_some, Option.toList_none, List.getElem?_cons_zero, List.getElem?_cons_succ, List.set_cons_zero, List.set_cons_succ, List.length_cons, List.length_nil, reduceIte, reduceCtorEq, and_true, true_and, and_self, or_true, true_or, false_and, and_false, not_true_eq_false, not_false_eq_true, true_implies, false_implies, implies_true, Nat.reduceAdd, Nat.reduceLT, Nat.reduceEqDiff, Nat.reduceLeDiff, Nat.reduceBEq, Nat.zero_add, Nat.lt_add_one, Bool.false_eq_true, Bool.or_false, Bool.or_true, Bool.or_self, Nat.zero_ne_one, Nat.one_ne_zero, ite_true, ite_false, ne_eq, Nat.reduceSub, Nat.succ_eq_add_one, Nat.zero_lt_succ, Nat.add_one_ne_zero, false_or, or_false, mX7_toldWants_c, mX7_toldWants_n, mX7_toldWants_r, mX7_toldWants_l, dX7_toldWants_0, ic_0, dX7_toldWants_1, dX7_toldWants_3, dX7_toldWants_4, dX7_toldWants_6, dX7_toldWants_8, bc_21, dX7_toldWants_10, tg_10_52, cnd2_ge, dX7_toldWants_13, dX7_toldWants_14, dX7_toldWants_17, dX7_toldWants_18, fl_7_20_7, dX7_toldWants_21, ic_4, dX7_toldWants_22, dX7_toldWants_23, dX7_toldWants_24, dX7_toldWants_25, dX7_toldWants_26, dX7_toldWants_28, dX7_toldWants_29, dX7_toldWants_31, dX7_toldWants_32, dX7_toldWants_33, dX7_toldWants_34, dX7_toldWants_35, dX7_toldWants_37, dX7_toldWants_39, dX7_toldWants_42, tg_42_10, cnd1_eq, dX7_toldWants_45, ic_1, dX7_toldWants_46, dX7_toldWants_48, dX7_toldWants_49, tg_49_4, dX7_toldWants_52, dX7_toldWants_53, dX7_toldWants_54, dX7_toldWants_56, dX7_toldWants_59, tg_59_m53, dX7_toldWants_62, dX7_toldWants_64, jX7_toldWants_0_122, jX7_toldWants_0_215, st_aload_n, st_bipush, st_getfield, st_goto, st_iadd, st_iastore, st_iconst, st_ifCond, st_if_icmp, st_iinc, st_iload, st_iload_n, st_imul, st_invokevirtual, st_ior, st_ireturn, st_ishl, st_istore]
      exact hk
    | succ m ih =>
      intro v acc s1 σ1 hv hf1 hM1 hR1 hT
      obtain ⟨t, hT⟩ := hT
      have c1 := lt21 (show v < 21 by omega)
      have hL := like_bec (t := t) hP
      obtain ⟨D, hD, hJ⟩ := hL.ci pI
      have hS2 := hR1.sd hL
      have hR2 := hR1.asd
      have hJ3 := supC_cj hJ (what := 1) (p := p) (d := d) (show v ≤ 20 by omega)
      refine yvc1_ok (uX7_toldWants Γ) (S := [6]) 40 ?_
      simp only [yvc1, c1, yvc_s, s1i, s2i, s1l, s2l, sil, s1r, sir, siir, slir, srir, svr, sd1, sd2, lg, lput, ldel, isL_i, isL_r, isL_l, jmp, obj, obj1, fI, fR, arI, arL, arR, hput, f4_0, f4_1, f4_2, f4_3, lc_0, lc_1, rok_i, rok_b, rok_y, strF, fput_1, fput_2, csum_nil, csum_i, csum_l, csum_r, va_up_self, bx_uu, Int.reduceAdd, List.elem_nil, List.elem_cons, List.take_succ_cons, List.take_zero, List.drop_succ_cons, List.drop_zero, List.take_nil, List.drop_nil, List.reverse_cons, List.reverse_nil, List.nil_append, List.cons_append, List.append_nil, Option.toList_some, Option.toList_none, List.getElem?_cons_zero, List.getElem?_cons_succ, List.set_cons_zero, List.set_cons_succ, List.length_cons, List.length_nil, reduceIte, reduceCtorEq, and_true, true_and, and_self, or_true, true_or, false_and, and_false, not_true_eq_false, not_false_eq_true, true_implies, false_implies, implies_true, Nat.reduceAdd, Nat.reduceLT, Nat.reduceEqDiff, Nat.reduceLeDiff, Nat.reduceBEq, Nat.zero_add, Nat.lt_add_one, Bool.false_eq_true, Bool.or_false, Bool.or_true, Bool.or_self, Nat.zero_ne_one, Nat.one_ne_zero, ite_true, ite_false, ne_eq, Nat.reduceSub, Nat.succ_eq_add_one, Nat.zero_lt_succ, Nat.add_one_ne_zero, false_or, or_false, mX7_toldWants_c, mX7_toldWants_n, mX7_toldWants_r, mX7_toldWants_l, dX7_toldWants_0, ic_0, dX7_toldWants_1, dX7_toldWants_3, dX7_toldWants_4, dX7_toldWants_6, dX7_toldWants_8, bc_21, dX7_toldWants_10, tg_10_52, cnd2_ge, dX7_toldWants_13, dX7_toldWants_14, dX7_toldWants_17, dX7_toldWants_18, fl_7_20_7, dX7_toldWants_21, ic_4, dX7_toldWants_22, dX7_toldWants_23, dX7_toldWants_24, dX7_toldWants_25, dX7_toldWants_26, dX7_toldWants_28, dX7_toldWants_29, dX7_toldWants_31, dX7_toldWants_32, dX7_toldWants_33, dX7_toldWants_34, dX7_toldWants_35, dX7_toldWants_37, dX7_toldWants_39, dX7_toldWants_42, tg_42_10, cnd1_eq, dX7_toldWants_45, ic_1, dX7_toldWants_46, dX7_toldWants_48, dX7_toldWants_49, tg_49_4, dX7_toldWants_52, dX7_toldWants_53, dX7_toldWants_54, dX7_toldWants_56, dX7_toldWants_59, tg_59_m53, dX7_toldWants_62, dX7_toldWants_64, jX7_toldWants_0_122, jX7_toldWants_0_215, st_aload_n, st_bipush, st_getfield, st_goto, st_iadd, st_iastore, st_iconst, st_ifCond, st_if_icmp, st_iinc, st_iload, st_iload_n, st_imul, st_invokevirtual, st_ior, st_ireturn, st_ishl, st_istore]
      refine ⟨lab, (a, ad), _, rfl, hM1, trivial, ?_⟩
      rintro σ2 s2 r2 ⟨hs2, rfl⟩ hf2 hM2
      rw [← hs2] at hS2 hR2
      obtain ⟨sc2, ar2, it2⟩ := s2
      have hM3 := hM2.putA (k := 4) rfl (upd (ar2 4) (4 * p + d) (nI v))
      have hF3 : SFr (sc2, ar2, it2) (sc2, updA ar2 4 (upd (ar2 4) (4 * p + d) (nI v)), it2) := SFr.side
      have hS3 : SD (sc2, updA ar2 4 (upd (ar2 4) (4 * p + d) (nI v)), it2) (supC (bec t ψ.1) 1 p d (nI v)) := by
        unfold supC
        rw [if_neg (by decide), if_pos rfl]
        refine hS2.fr hF3 rfl rfl rfl ?_
        rw [ix_n hp5 hd]
        simp only [updA_at]
        exact hS2.2.w hP (show 4 * p + d < 4 * ψ.1.2.2.2.2.2.2.1 by omega) (nI v)
      have hR3 := hR2.fr hF3
      have hit := RS.sh hR3 hq hk hke hIN
      have hPs : (supC (bec t ψ.1) 1 p d (nI v)).2.2.2.2.2.2.1 = ψ.1.2.2.2.2.2.2.1 := supC_P
      generalize supC (bec t ψ.1) 1 p d (nI v) = zc at hS3 hJ3 hT hPs
      obtain ⟨⟨m1, -⟩, e1, -⟩ := id hM2
      obtain ⟨m4, e4⟩ := hM2.arr 4 rfl
      have n1 := fun f x => hM2.neA (k := 4) rfl f x
      have hf3 := (hf1.tr hf2).tr (hM2.frA (k := 4) rfl (e := iA Γ (lenM 4) (upd (ar2 4) (4 * p + d) (nI v))))
      simp only [ME, iA, lenM, hput] at m1 e1 m4 e4 n1 hM3 hf3
      refine yvc_ok (uX7_toldWants Γ) (S := [6]) 60 _ _ _ _ ?_
      simp only [m1, e1, m4, e4, i1, i2, n1, yvc_s, s1i, s2i, s1l, s2l, sil, s1r, sir, siir, slir, srir, svr, sd1, sd2, lg, lput, ldel, isL_i, isL_r, isL_l, jmp, obj, obj1, fI, fR, arI, arL, arR, hput, f4_0, f4_1, f4_2, f4_3, lc_0, lc_1, rok_i, rok_b, rok_y, strF, fput_1, fput_2, csum_nil, csum_i, csum_l, csum_r, va_up_self, bx_uu, Int.reduceAdd, List.elem_nil, List.elem_cons, List.take_succ_cons, List.take_zero, List.drop_succ_cons, List.drop_zero, List.take_nil, List.drop_nil, List.reverse_cons, List.reverse_nil, List.nil_append, List.cons_append, List.append_nil, Option.toList_some, Option.toList_none, List.getElem?_cons_zero, List.getElem?_cons_succ, List.set_cons_zero, List.set_cons_succ, List.length_cons, List.length_nil, reduceIte, reduceCtorEq, and_true, true_and, and_self, or_true, true_or, false_and, and_false, not_true_eq_false, not_false_eq_true, true_implies, false_implies, implies_true, Nat.reduceAdd, Nat.reduceLT, Nat.reduceEqDiff, Nat.reduceLeDiff, Nat.reduceBEq, Nat.zero_add, Nat.lt_add_one, Bool.false_eq_true, Bool.or_false, Bool.or_true, Bool.or_self, Nat.zero_ne_one, Nat.one_ne_zero, ite_true, ite_false, ne_eq, Nat.reduceSub, Nat.succ_eq_add_one, Nat.zero_lt_succ, Nat.add_one_ne_zero, false_or, or_false, mX7_toldWants_c, mX7_toldWants_n, mX7_toldWants_r, mX7_toldWants_l, dX7_toldWants_0, ic_0, dX7_toldWants_1, dX7_toldWants_3, dX7_toldWants_4, dX7_toldWants_6, dX7_toldWants_8, bc_21, dX7_toldWants_10, tg_10_52, cnd2_ge, dX7_toldWants_13, dX7_toldWants_14, dX7_toldWants_17, dX7_toldWants_18, fl_7_20_7, dX7_toldWants_21, ic_4, dX7_toldWants_22, dX7_toldWants_23, dX7_toldWants_24, dX7_toldWants_25, dX7_toldWants_26, dX7_toldWants_28, dX7_toldWants_29, dX7_toldWants_31, dX7_toldWants_32, dX7_toldWants_33, dX7_toldWants_34, dX7_toldWants_35, dX7_toldWants_37, dX7_toldWants_39, dX7_toldWants_42, tg_42_10, cnd1_eq, dX7_toldWants_45, ic_1, dX7_toldWants_46, dX7_toldWants_48, dX7_toldWants_49, tg_49_4, dX7_toldWants_52, dX7_toldWants_53, dX7_toldWants_54, dX7_toldWants_56, dX7_toldWants_59, tg_59_m53, dX7_toldWants_62, dX7_toldWants_64, jX7_toldWants_0_122, jX7_toldWants_0_215, st_aload_n, st_bipush, st_getfield, st_goto, st_iadd, st_iastore, st_iconst, st_ifCond, st_if_icmp, st_iinc, st_iload, st_iload_n, st_imul, st_invokevirtual, st_ior, st_ireturn, st_ishl, st_istore]
      refine ⟨p, d, q, I, N, zc, _, lab, (a, ad), _, rfl, hM3, ⟨hS3, ⟨D, hJ3, by omega⟩, by rw [hPs]; exact hp, hd, hq, by omega, hit⟩, ?_⟩
      rintro σ4 s4 r4 ⟨hF4, rfl⟩ hf4 hM4
      have hi := fun acc' => ih (v + 1) acc' s4 σ4 (by omega) (hf3.tr hf4) hM4 (hR3.fr hF4)
      refine yvc_ok (uX7_toldWants Γ) (S := [6]) 60 _ _ _ _ ?_
      simp only [bI_eq0, Bool.not_eq_false, or0, nI_1, yvc_s, s1i, s2i, s1l, s2l, sil, s1r, sir, siir, slir, srir, svr, sd1, sd2, lg, lput, ldel, isL_i, isL_r, isL_l, jmp, obj, obj1, fI, fR, arI, arL, arR, hput, f4_0, f4_1, f4_2, f4_3, lc_0, lc_1, rok_i, rok_b, rok_y, strF, fput_1, fput_2, csum_nil, csum_i, csum_l, csum_r, va_up_self, bx_uu, Int.reduceAdd, List.elem_nil, List.elem_cons, List.take_succ_cons, List.take_zero, List.drop_succ_cons, List.drop_zero, List.take_nil, List.drop_nil, List.reverse_cons, List.reverse_nil, List.nil_append, List.cons_append, List.append_nil, Option.toList_some, Option.toList_none, List.getElem?_cons_zero, List.getElem?_cons_succ, List.set_cons_zero, List.set_cons_succ, List.length_cons, List.length_nil, reduceIte, reduceCtorEq, and_true, true_and, and_self, or_true, true_or, false_and, and_false, not_true_eq_false, not_false_eq_true, true_implies, false_implies, implies_true, Nat.reduceAdd, Nat.reduceLT, Nat.reduceEqDiff, Nat.reduceLeDiff, Nat.reduceBEq, Nat.zero_add, Nat.lt_add_one, Bool.false_eq_true, Bool.or_false, Bool.or_true, Bool.or_self, Nat.zero_ne_one, Nat.one_ne_zero, ite_true, ite_false, ne_eq, Nat.reduceSub, Nat.succ_eq_add_one, Nat.zero_lt_succ, Nat.add_one_ne_zero, false_or, or_false, mX7_toldWants_c, mX7_toldWants_n, mX7_toldWants_r, mX7_toldWants_l, dX7_toldWants_0, ic_0, dX7_toldWants_1, dX7_toldWants_3, dX7_toldWants_4, dX7_toldWants_6, dX7_toldWants_8, bc_21, dX7_toldWants_10, tg_10_52, cnd2_ge, dX7_toldWants_13, dX7_toldWants_14, dX7_toldWants_17, dX7_toldWants_18, fl_7_20_7, dX7_toldWants_21, ic_4, dX7_toldWants_22, dX7_toldWants_23, dX7_toldWants_24, dX7_toldWants_25, dX7_toldWants_26, dX7_toldWants_28, dX7_toldWants_29, dX7_toldWants_31, dX7_toldWants_32, dX7_toldWants_33, dX7_toldWants_34, dX7_toldWants_35, dX7_toldWants_37, dX7_toldWants_39, dX7_toldWants_42, tg_42_10, cnd1_eq, dX7_toldWants_45, ic_1, dX7_toldWants_46, dX7_toldWants_48, dX7_toldWants_49, tg_49_4, dX7_toldWants_52, dX7_toldWants_53, dX7_toldWants_54, dX7_toldWants_56, dX7_toldWants_59, tg_59_m53, dX7_toldWants_62, dX7_toldWants_64, jX7_toldWants_0_122, jX7_toldWants_0_215, st_aload_n, st_bipush, st_getfield, st_goto, st_iadd, st_iastore, st_iconst, st_ifCond, st_if_icmp, st_iinc, st_iload, st_iload_n, st_imul, st_invokevirtual, st_ior, st_ireturn, st_ishl, st_istore]
      refine ⟨fun z => ?_, fun z => ?_⟩
      · rw [if_neg (by rw [z]; decide)] at hT
        exact hi _ hT
      · rw [if_pos z] at hT
        exact hi _ hT
  refine ⟨Nat.le_of_ble_eq_true rfl, yvc_ok (uX7_toldWants Γ) (S := [6]) 60 _ _ _ _ ?_⟩
  simp only [lv_args, Value.category, yvc_s, s1i, s2i, s1l, s2l, sil, s1r, sir, siir, slir, srir, svr, sd1, sd2, lg, lput, ldel, isL_i, isL_r, isL_l, jmp, obj, obj1, fI, fR, arI, arL, arR, hput, f4_0, f4_1, f4_2, f4_3, lc_0, lc_1, rok_i, rok_b, rok_y, strF, fput_1, fput_2, csum_nil, csum_i, csum_l, csum_r, va_up_self, bx_uu, Int.reduceAdd, List.elem_nil, List.elem_cons, List.take_succ_cons, List.take_zero, List.drop_succ_cons, List.drop_zero, List.take_nil, List.drop_nil, List.reverse_cons, List.reverse_nil, List.nil_append, List.cons_append, List.append_nil, Option.toList_some, Option.toList_none, List.getElem?_cons_zero, List.getElem?_cons_succ, List.set_cons_zero, List.set_cons_succ, List.length_cons, List.length_nil, reduceIte, reduceCtorEq, and_true, true_and, and_self, or_true, true_or, false_and, and_false, not_true_eq_false, not_false_eq_true, true_implies, false_implies, implies_true, Nat.reduceAdd, Nat.reduceLT, Nat.reduceEqDiff, Nat.reduceLeDiff, Nat.reduceBEq, Nat.zero_add, Nat.lt_add_one, Bool.false_eq_true, Bool.or_false, Bool.or_true, Bool.or_self, Nat.zero_ne_one, Nat.one_ne_zero, ite_true, ite_false, ne_eq, Nat.reduceSub, Nat.succ_eq_add_one, Nat.zero_lt_succ, Nat.add_one_ne_zero, false_or, or_false, mX7_toldWants_c, mX7_toldWants_n, mX7_toldWants_r, mX7_toldWants_l, dX7_toldWants_0, ic_0, dX7_toldWants_1, dX7_toldWants_3, dX7_toldWants_4, dX7_toldWants_6, dX7_toldWants_8, bc_21, dX7_toldWants_10, tg_10_52, cnd2_ge, dX7_toldWants_13, dX7_toldWants_14, dX7_toldWants_17, dX7_toldWants_18, fl_7_20_7, dX7_toldWants_21, ic_4, dX7_toldWants_22, dX7_toldWants_23, dX7_toldWants_24, dX7_toldWants_25, dX7_toldWants_26, dX7_toldWants_28, dX7_toldWants_29, dX7_toldWants_31, dX7_toldWants_32, dX7_toldWants_33, dX7_toldWants_34, dX7_toldWants_35, dX7_toldWants_37, dX7_toldWants_39, dX7_toldWants_42, tg_42_10, cnd1_eq, dX7_toldWants_45, ic_1, dX7_toldWants_46, dX7_toldWants_48, dX7_toldWants_49, tg_49_4, dX7_toldWants_52, dX7_toldWants_53, dX7_toldWants_54, dX7_toldWants_56, dX7_toldWants_59, tg_59_m53, dX7_toldWants_62, dX7_toldWants_64, jX7_toldWants_0_122, jX7_toldWants_0_215, st_aload_n, st_bipush, st_getfield, st_goto, st_iadd, st_iastore, st_iconst, st_ifCond, st_if_icmp, st_iinc, st_iload, st_iload_n, st_imul, st_invokevirtual, st_ior, st_ireturn, st_ishl, st_istore]
  exact loop 21 0 0 s σ rfl frm.rf hM hR hT
def sp_X7_toldRules (Γ : Cx) : YSp := fun av σ K => ∃ (ψ : XS) (p d q I N : Nat) (r : Int32), mq Γ [.int (nI p), .int (nI d), .int (nI q), .int (nI I), .int (nI N)] (tdP ψ 2 p d q I N r) (fun _ s' v => R ψ s' ∧ v = some (.int r)) av σ K
theorem rv_X7_toldRules {Γ : Cx} : Recv (sp_X7_toldRules Γ) 5 7 := by
  intro av σ K h
  obtain ⟨ψ, p, d, q, I, N, r, h⟩ := h
  obtain ⟨q, fs, h1, h2, h3⟩ := rv_mq h
  exact ⟨q, _, fs, h1, rfl, h2, h3⟩
theorem tg_20_49 : tgo 20 49 = some 69 := by decide
theorem tg_40_12 : tgo 40 12 = some 52 := by decide
theorem tg_66_m52 : tgo 66 (-52) = some 14 := by decide
def mX7_toldRules : Mt := (⟨4, 0, 0, 96⟩, RX7, cX7_toldRules, 8, some .int, (0, 0), none)
theorem mX7_toldRules_c : mX7_toldRules.2.2.1 = cX7_toldRules := rfl
theorem mX7_toldRules_n : mX7_toldRules.2.2.2.1 = 8 := rfl
theorem mX7_toldRules_r : mX7_toldRules.2.2.2.2.1 = some .int := rfl
theorem mX7_toldRules_l : mX7_toldRules.2.2.2.2.2.2 = none := rfl
def jX7_toldRules (Γ : Cx) : List ((Nat × Nat) × Nat × Bool × YSp) := [((0, 122), 1, false, sp_X7_aside Γ), ((0, 215), 6, false, sp_X7_isTold Γ)]
theorem jX7_toldRules_0_122 (Γ : Cx) : kT (jX7_toldRules Γ) 0 122 = some (1, false, sp_X7_aside Γ) := rfl
theorem jX7_toldRules_0_215 (Γ : Cx) : kT (jX7_toldRules Γ) 0 215 = some (6, false, sp_X7_isTold Γ) := rfl
theorem uX7_toldRules (Γ : Cx) : TbOK Γ mX7_toldRules (fT fX7, cT kX7, kT (jX7_toldRules Γ)) := tb_ok fX7_ok kX7_ok (all_cons ⟨call_V (n := 0) (T := TX7) (N := 26) (ok_X7_aside Γ) (rv_X7_aside (Γ := Γ)) rfl bw_835 bw_832 bw_834 bw_17 bw_49 no_X7_aside ⟨⟨rfl, rfl⟩, ⟨by decide, by decide⟩, ⟨by decide, by decide⟩⟩, fun z => by cases z⟩ (all_cons ⟨call_V (n := 5) (T := TX7) (N := 26) (ok_X7_isTold Γ) (rv_X7_isTold (Γ := Γ)) rfl bw_1035 bw_1032 bw_1034 bw_38 bw_49 no_X7_isTold ⟨⟨rfl, rfl⟩, ⟨by decide, by decide⟩, ⟨by decide, by decide⟩⟩, fun z => by cases z⟩ (all_nil)))
set_option maxRecDepth 20000 in
theorem ok_X7_toldRules (Γ : Cx) : Ok Γ yX7_toldRules mX7_toldRules (sp_X7_toldRules Γ) := by
  refine ok_intro (by decide +kernel) rfl rfl ?_
  intro av σ K h
  obtain ⟨ψ, p, d, q, I, N, r, lab, ⟨a, ad⟩, ⟨sc, ar, it⟩, rfl, hM, ⟨hR, hp, hd, hq, hN, ⟨k, hk, hke, hIN⟩, hT⟩, h⟩ := h
  simp only at h
  have pI := hR.1.2.2.2.2.1
  have p2 : sc 1 = ψ.1.2.2.2.2.2.2.2.1 := hR.1.2.1
  have hP := pI.P5
  have loop : ∀ m v : Nat, ∀ (acc : Int32) (s1 : MS) (σ1 : Hp), v + m = 21 → frm (fL lab 30) σ σ1 → Mod Γ lab (a, ad) s1 σ1 → R (setR ψ.1 (nI v), ψ.2) s1 → TdR ψ 2 p d (ψ.2.2.2.2.2.2 q).1 I N m v acc r → YG Γ mX7_toldRules K 14 [(0, .ref a), (1, .int (nI p)), (2, .int (nI d)), (3, .int (nI q)), (4, .int (nI I)), (5, .int (nI N)), (6, .int acc), (7, .int (sc 1))] [] σ1 := by
    intro m
    induction m with
    | zero =>
      intro v acc s1 σ1 hv hf1 hM1 hR1 hT
      obtain rfl : v = 21 := by omega
      have hR2 := hR1.rl (sc 1)
      have e2 : s1.1 1 = nI 21 := hR1.1.2.1
      obtain ⟨sc1, ar1, it1⟩ := s1
      have hk := h _ _ _ ⟨by
        have e : ((setR (setR ψ.1 (nI 21), ψ.2).1 (sc 1), (setR ψ.1 (nI 21), ψ.2).2) : XS) = ψ := by rw [p2]; rfl
        rw [e] at hR2
        exact hR2, rfl⟩ (hf1.tr hM1.frO) (hM1.putO (upd sc1 1 (sc 1)))
      rw [show r = acc from hT] at hk
      obtain ⟨⟨m1, -⟩, e1, -⟩ := id hM1
      simp only at e2
      simp only [ME, hput] at m1 e1 hk
      rw [e2] at e1
      refine yvc1_ok (uX7_toldRules Γ) (S := [14]) 40 ?_
      simp only [yvc1, ge21, m1, e1, yvc_s, s1i, s2i, s1l, s2l, sil, s1r, sir, siir, slir, srir, svr, sd1, sd2, lg, lput, ldel, isL_i, isL_r, isL_l, jmp, obj, obj1, fI, fR, arI, arL, arR, hput, f4_0, f4_1, f4_2, f4_3, lc_0, lc_1, rok_i, rok_b, rok_y, strF, fput_1, fput_2, csum_nil, csum_i, csum_l, csum_r, va_up_self, bx_uu, Int.reduceAdd, List.elem_nil, List.elem_cons, List.take_succ_cons, List.take_zero, List.drop_succ_cons, List.drop_zero, List.take_nil, List.drop_nil, List.reverse_cons, List.reverse_nil, List.nil_append, List.cons_append, List.append_nil, Option.toList_some, Option.toList_none, List.getElem?_cons_zero, List.getElem?_cons_succ, List.set_cons_zero, List.set_cons_succ, List.length_cons, List.length_nil, reduceIte, reduceCtorEq, and_true, true_and, and_self, or_true, true_or, false_and, and_false, not_true_eq_false, not_false_eq_true, true_implies, false_implies, implies_true, Nat.reduceAdd, Nat.reduceLT, Nat.reduceEqDiff, Nat.reduceLeDiff, Nat.reduceBEq, Nat.zero_add, Nat.lt_add_one, Bool.false_eq_true, Bool.or_false, Bool.or_true, Bool.or_self, Nat.zero_ne_one, Nat.one_ne_zero, ite_true, ite_false, ne_eq, Nat.reduceSub, Nat.succ_eq_add_one, Nat.zero_lt_succ, Nat.add_one_ne_zero, false_or, or_false, mX7_toldRules_c, mX7_toldRules_n, mX7_toldRules_r, mX7_toldRules_l, dX7_toldRules_0, ic_0, dX7_toldRules_1, dX7_toldRules_3, dX7_toldRules_4, fl_7_7_7, dX7_toldRules_7, dX7_toldRules_9, dX7_toldRules_10, ic_1, dX7_toldRules_11, dX7_toldRules_14, dX7_toldRules_15, dX7_toldRules_18, bc_21, dX7_toldRules_20, tg_20_49, cnd2_ge, dX7_toldRules_23, dX7_toldRules_24, dX7_toldRules_27, dX7_toldRules_29, dX7_toldRules_30, dX7_toldRules_31, dX7_toldRules_32, dX7_toldRules_33, dX7_toldRules_35, dX7_toldRules_37, dX7_toldRules_40, tg_40_12, cnd1_eq, dX7_toldRules_43, dX7_toldRules_44, dX7_toldRules_45, dX7_toldRules_48, dX7_toldRules_49, tg_49_4, dX7_toldRules_52, dX7_toldRules_53, dX7_toldRules_54, dX7_toldRules_56, dX7_toldRules_57, dX7_toldRules_58, dX7_toldRules_61, dX7_toldRules_62, dX7_toldRules_63, dX7_toldRules_66, tg_66_m52, dX7_toldRules_69, dX7_toldRules_70, dX7_toldRules_72, dX7_toldRules_75, dX7_toldRules_77, jX7_toldRules_0_122, jX7_toldRules_0_215, st_aload_n, st_bipush, st_dup, st_getfield, st_goto, st_iadd, st_iconst, st_ifCond, st_if_icmp, st_iload, st_iload_n, st_invokevirtual, st_ior, st_ireturn, st_ishl, st_istore, st_putfield]
      exact hk
    | succ m ih =>
      intro v acc s1 σ1 hv hf1 hM1 hR1 hT
      obtain ⟨t, hT⟩ := hT
      have c1 := lt21 (show v < 21 by omega)
      have e2 : s1.1 1 = nI v := hR1.1.2.1
      have hL : Like (setR (bec t ψ.1) (nI v)) (setR ψ.1 (nI v)) := like_bec (t := t) (c := setR ψ.1 (nI v)) hP
      obtain ⟨D, hD, hJ⟩ := hL.ci hR1.1.2.2.2.2.1
      have hS2 := hR1.sd hL
      have hR2 := hR1.asd
      have hes : supC (bec t ψ.1) 2 p d (nI v) = setR (bec t ψ.1) (nI v) := by
        unfold supC
        rw [if_neg (by decide), if_neg (by decide)]
      rw [hes] at hT
      obtain ⟨⟨m1, -⟩, e1, -⟩ := id hM1
      simp only [ME] at m1 e1
      rw [e2] at e1
      refine yvc1_ok (uX7_toldRules Γ) (S := [14]) 40 ?_
      simp only [yvc1, c1, m1, e1, yvc_s, s1i, s2i, s1l, s2l, sil, s1r, sir, siir, slir, srir, svr, sd1, sd2, lg, lput, ldel, isL_i, isL_r, isL_l, jmp, obj, obj1, fI, fR, arI, arL, arR, hput, f4_0, f4_1, f4_2, f4_3, lc_0, lc_1, rok_i, rok_b, rok_y, strF, fput_1, fput_2, csum_nil, csum_i, csum_l, csum_r, va_up_self, bx_uu, Int.reduceAdd, List.elem_nil, List.elem_cons, List.take_succ_cons, List.take_zero, List.drop_succ_cons, List.drop_zero, List.take_nil, List.drop_nil, List.reverse_cons, List.reverse_nil, List.nil_append, List.cons_append, List.append_nil, Option.toList_some, Option.toList_none, List.getElem?_cons_zero, List.getElem?_cons_succ, List.set_cons_zero, List.set_cons_succ, List.length_cons, List.length_nil, reduceIte, reduceCtorEq, and_true, true_and, and_self, or_true, true_or, false_and, and_false, not_true_eq_false, not_false_eq_true, true_implies, false_implies, implies_true, Nat.reduceAdd, Nat.reduceLT, Nat.reduceEqDiff, Nat.reduceLeDiff, Nat.reduceBEq, Nat.zero_add, Nat.lt_add_one, Bool.false_eq_true, Bool.or_false, Bool.or_true, Bool.or_self, Nat.zero_ne_one, Nat.one_ne_zero, ite_true, ite_false, ne_eq, Nat.reduceSub, Nat.succ_eq_add_one, Nat.zero_lt_succ, Nat.add_one_ne_zero, false_or, or_false, mX7_toldRules_c, mX7_toldRules_n, mX7_toldRules_r, mX7_toldRules_l, dX7_toldRules_0, ic_0, dX7_toldRules_1, dX7_toldRules_3, dX7_toldRules_4, fl_7_7_7, dX7_toldRules_7, dX7_toldRules_9, dX7_toldRules_10, ic_1, dX7_toldRules_11, dX7_toldRules_14, dX7_toldRules_15, dX7_toldRules_18, bc_21, dX7_toldRules_20, tg_20_49, cnd2_ge, dX7_toldRules_23, dX7_toldRules_24, dX7_toldRules_27, dX7_toldRules_29, dX7_toldRules_30, dX7_toldRules_31, dX7_toldRules_32, dX7_toldRules_33, dX7_toldRules_35, dX7_toldRules_37, dX7_toldRules_40, tg_40_12, cnd1_eq, dX7_toldRules_43, dX7_toldRules_44, dX7_toldRules_45, dX7_toldRules_48, dX7_toldRules_49, tg_49_4, dX7_toldRules_52, dX7_toldRules_53, dX7_toldRules_54, dX7_toldRules_56, dX7_toldRules_57, dX7_toldRules_58, dX7_toldRules_61, dX7_toldRules_62, dX7_toldRules_63, dX7_toldRules_66, tg_66_m52, dX7_toldRules_69, dX7_toldRules_70, dX7_toldRules_72, dX7_toldRules_75, dX7_toldRules_77, jX7_toldRules_0_122, jX7_toldRules_0_215, st_aload_n, st_bipush, st_dup, st_getfield, st_goto, st_iadd, st_iconst, st_ifCond, st_if_icmp, st_iload, st_iload_n, st_invokevirtual, st_ior, st_ireturn, st_ishl, st_istore, st_putfield]
      refine ⟨lab, (a, ad), _, rfl, hM1, trivial, ?_⟩
      rintro σ2 s2 r2 ⟨hs2, rfl⟩ hf2 hM2
      rw [← hs2] at hS2 hR2
      have hit := RS.sh hR2 hq hk hke hIN
      have hPs : (setR (bec t ψ.1) (nI v)).2.2.2.2.2.2.1 = ψ.1.2.2.2.2.2.2.1 := rfl
      generalize setR (bec t ψ.1) (nI v) = zc at hS2 hJ hT hPs
      refine yvc_ok (uX7_toldRules Γ) (S := [14]) 60 _ _ _ _ ?_
      simp only [yvc_s, s1i, s2i, s1l, s2l, sil, s1r, sir, siir, slir, srir, svr, sd1, sd2, lg, lput, ldel, isL_i, isL_r, isL_l, jmp, obj, obj1, fI, fR, arI, arL, arR, hput, f4_0, f4_1, f4_2, f4_3, lc_0, lc_1, rok_i, rok_b, rok_y, strF, fput_1, fput_2, csum_nil, csum_i, csum_l, csum_r, va_up_self, bx_uu, Int.reduceAdd, List.elem_nil, List.elem_cons, List.take_succ_cons, List.take_zero, List.drop_succ_cons, List.drop_zero, List.take_nil, List.drop_nil, List.reverse_cons, List.reverse_nil, List.nil_append, List.cons_append, List.append_nil, Option.toList_some, Option.toList_none, List.getElem?_cons_zero, List.getElem?_cons_succ, List.set_cons_zero, List.set_cons_succ, List.length_cons, List.length_nil, reduceIte, reduceCtorEq, and_true, true_and, and_self, or_true, true_or, false_and, and_false, not_true_eq_false, not_false_eq_true, true_implies, false_implies, implies_true, Nat.reduceAdd, Nat.reduceLT, Nat.reduceEqDiff, Nat.reduceLeDiff, Nat.reduceBEq, Nat.zero_add, Nat.lt_add_one, Bool.false_eq_true, Bool.or_false, Bool.or_true, Bool.or_self, Nat.zero_ne_one, Nat.one_ne_zero, ite_true, ite_false, ne_eq, Nat.reduceSub, Nat.succ_eq_add_one, Nat.zero_lt_succ, Nat.add_one_ne_zero, false_or, or_false, mX7_toldRules_c, mX7_toldRules_n, mX7_toldRules_r, mX7_toldRules_l, dX7_toldRules_0, ic_0, dX7_toldRules_1, dX7_toldRules_3, dX7_toldRules_4, fl_7_7_7, dX7_toldRules_7, dX7_toldRules_9, dX7_toldRules_10, ic_1, dX7_toldRules_11, dX7_toldRules_14, dX7_toldRules_15, dX7_toldRules_18, bc_21, dX7_toldRules_20, tg_20_49, cnd2_ge, dX7_toldRules_23, dX7_toldRules_24, dX7_toldRules_27, dX7_toldRules_29, dX7_toldRules_30, dX7_toldRules_31, dX7_toldRules_32, dX7_toldRules_33, dX7_toldRules_35, dX7_toldRules_37, dX7_toldRules_40, tg_40_12, cnd1_eq, dX7_toldRules_43, dX7_toldRules_44, dX7_toldRules_45, dX7_toldRules_48, dX7_toldRules_49, tg_49_4, dX7_toldRules_52, dX7_toldRules_53, dX7_toldRules_54, dX7_toldRules_56, dX7_toldRules_57, dX7_toldRules_58, dX7_toldRules_61, dX7_toldRules_62, dX7_toldRules_63, dX7_toldRules_66, tg_66_m52, dX7_toldRules_69, dX7_toldRules_70, dX7_toldRules_72, dX7_toldRules_75, dX7_toldRules_77, jX7_toldRules_0_122, jX7_toldRules_0_215, st_aload_n, st_bipush, st_dup, st_getfield, st_goto, st_iadd, st_iconst, st_ifCond, st_if_icmp, st_iload, st_iload_n, st_invokevirtual, st_ior, st_ireturn, st_ishl, st_istore, st_putfield]
      refine ⟨p, d, q, I, N, zc, _, lab, (a, ad), _, rfl, hM2, ⟨hS2, ⟨D, hJ, by omega⟩, by rw [hPs]; exact hp, hd, hq, by omega, hit⟩, ?_⟩
      rintro σ4 s4 r4 ⟨hF4, rfl⟩ hf4 hM4
      have hR4 := hR2.fr hF4
      have e4 : s4.1 1 = nI v := hR4.1.2.1
      have hR5 := hR4.rl (nI (v + 1))
      obtain ⟨sc4, ar4, it4⟩ := s4
      have hi := fun acc' => ih (v + 1) acc' _ _ (by omega) (((hf1.tr hf2).tr hf4).tr hM4.frO) (hM4.putO (upd sc4 1 (nI (v + 1)))) hR5
      obtain ⟨⟨m1, -⟩, e1, -⟩ := id hM4
      simp only at e4
      simp only [ME, hput] at m1 e1 hi
      rw [e4] at e1
      refine yvc_ok (uX7_toldRules Γ) (S := [14]) 60 _ _ _ _ ?_
      simp only [m1, e1, bI_eq0, Bool.not_eq_false, or0, nI_1, yvc_s, s1i, s2i, s1l, s2l, sil, s1r, sir, siir, slir, srir, svr, sd1, sd2, lg, lput, ldel, isL_i, isL_r, isL_l, jmp, obj, obj1, fI, fR, arI, arL, arR, hput, f4_0, f4_1, f4_2, f4_3, lc_0, lc_1, rok_i, rok_b, rok_y, strF, fput_1, fput_2, csum_nil, csum_i, csum_l, csum_r, va_up_self, bx_uu, Int.reduceAdd, List.elem_nil, List.elem_cons, List.take_succ_cons, List.take_zero, List.drop_succ_cons, List.drop_zero, List.take_nil, List.drop_nil, List.reverse_cons, List.reverse_nil, List.nil_append, List.cons_append, List.append_nil, Option.toList_some, Option.toList_none, List.getElem?_cons_zero, List.getElem?_cons_succ, List.set_cons_zero, List.set_cons_succ, List.length_cons, List.length_nil, reduceIte, reduceCtorEq, and_true, true_and, and_self, or_true, true_or, false_and, and_false, not_true_eq_false, not_false_eq_true, true_implies, false_implies, implies_true, Nat.reduceAdd, Nat.reduceLT, Nat.reduceEqDiff, Nat.reduceLeDiff, Nat.reduceBEq, Nat.zero_add, Nat.lt_add_one, Bool.false_eq_true, Bool.or_false, Bool.or_true, Bool.or_self, Nat.zero_ne_one, Nat.one_ne_zero, ite_true, ite_false, ne_eq, Nat.reduceSub, Nat.succ_eq_add_one, Nat.zero_lt_succ, Nat.add_one_ne_zero, false_or, or_false, mX7_toldRules_c, mX7_toldRules_n, mX7_toldRules_r, mX7_toldRules_l, dX7_toldRules_0, ic_0, dX7_toldRules_1, dX7_toldRules_3, dX7_toldRules_4, fl_7_7_7, dX7_toldRules_7, dX7_toldRules_9, dX7_toldRules_10, ic_1, dX7_toldRules_11, dX7_toldRules_14, dX7_toldRules_15, dX7_toldRules_18, bc_21, dX7_toldRules_20, tg_20_49, cnd2_ge, dX7_toldRules_23, dX7_toldRules_24, dX7_toldRules_27, dX7_toldRules_29, dX7_toldRules_30, dX7_toldRules_31, dX7_toldRules_32, dX7_toldRules_33, dX7_toldRules_35, dX7_toldRules_37, dX7_toldRules_40, tg_40_12, cnd1_eq, dX7_toldRules_43, dX7_toldRules_44, dX7_toldRules_45, dX7_toldRules_48, dX7_toldRules_49, tg_49_4, dX7_toldRules_52, dX7_toldRules_53, dX7_toldRules_54, dX7_toldRules_56, dX7_toldRules_57, dX7_toldRules_58, dX7_toldRules_61, dX7_toldRules_62, dX7_toldRules_63, dX7_toldRules_66, tg_66_m52, dX7_toldRules_69, dX7_toldRules_70, dX7_toldRules_72, dX7_toldRules_75, dX7_toldRules_77, jX7_toldRules_0_122, jX7_toldRules_0_215, st_aload_n, st_bipush, st_dup, st_getfield, st_goto, st_iadd, st_iconst, st_ifCond, st_if_icmp, st_iload, st_iload_n, st_invokevirtual, st_ior, st_ireturn, st_ishl, st_istore, st_putfield]
      refine ⟨fun z => ?_, fun z => ?_⟩
      · rw [if_neg (by rw [z]; decide)] at hT
        exact hi _ hT
      · rw [if_pos z] at hT
        exact hi _ hT
  have hl := loop 20 1 0 _ _ rfl hM.frO (hM.putO (upd sc 1 1)) (hR.rl 1) hT
  obtain ⟨⟨m1, -⟩, e1, -⟩ := id hM
  simp only [ME, hput] at m1 e1 hl
  refine ⟨Nat.le_of_ble_eq_true rfl, yvc_ok (uX7_toldRules Γ) (S := [14]) 60 _ _ _ _ ?_⟩
  simp only [lv_args, Value.category, m1, e1, yvc_s, s1i, s2i, s1l, s2l, sil, s1r, sir, siir, slir, srir, svr, sd1, sd2, lg, lput, ldel, isL_i, isL_r, isL_l, jmp, obj, obj1, fI, fR, arI, arL, arR, hput, f4_0, f4_1, f4_2, f4_3, lc_0, lc_1, rok_i, rok_b, rok_y, strF, fput_1, fput_2, csum_nil, csum_i, csum_l, csum_r, va_up_self, bx_uu, Int.reduceAdd, List.elem_nil, List.elem_cons, List.take_succ_cons, List.take_zero, List.drop_succ_cons, List.drop_zero, List.take_nil, List.drop_nil, List.reverse_cons, List.reverse_nil, List.nil_append, List.cons_append, List.append_nil, Option.toList_some, Option.toList_none, List.getElem?_cons_zero, List.getElem?_cons_succ, List.set_cons_zero, List.set_cons_succ, List.length_cons, List.length_nil, reduceIte, reduceCtorEq, and_true, true_and, and_self, or_true, true_or, false_and, and_false, not_true_eq_false, not_false_eq_true, true_implies, false_implies, implies_true, Nat.reduceAdd, Nat.reduceLT, Nat.reduceEqDiff, Nat.reduceLeDiff, Nat.reduceBEq, Nat.zero_add, Nat.lt_add_one, Bool.false_eq_true, Bool.or_false, Bool.or_true, Bool.or_self, Nat.zero_ne_one, Nat.one_ne_zero, ite_true, ite_false, ne_eq, Nat.reduceSub, Nat.succ_eq_add_one, Nat.zero_lt_succ, Nat.add_one_ne_zero, false_or, or_false, mX7_toldRules_c, mX7_toldRules_n, mX7_toldRules_r, mX7_toldRules_l, dX7_toldRules_0, ic_0, dX7_toldRules_1, dX7_toldRules_3, dX7_toldRules_4, fl_7_7_7, dX7_toldRules_7, dX7_toldRules_9, dX7_toldRules_10, ic_1, dX7_toldRules_11, dX7_toldRules_14, dX7_toldRules_15, dX7_toldRules_18, bc_21, dX7_toldRules_20, tg_20_49, cnd2_ge, dX7_toldRules_23, dX7_toldRules_24, dX7_toldRules_27, dX7_toldRules_29, dX7_toldRules_30, dX7_toldRules_31, dX7_toldRules_32, dX7_toldRules_33, dX7_toldRules_35, dX7_toldRules_37, dX7_toldRules_40, tg_40_12, cnd1_eq, dX7_toldRules_43, dX7_toldRules_44, dX7_toldRules_45, dX7_toldRules_48, dX7_toldRules_49, tg_49_4, dX7_toldRules_52, dX7_toldRules_53, dX7_toldRules_54, dX7_toldRules_56, dX7_toldRules_57, dX7_toldRules_58, dX7_toldRules_61, dX7_toldRules_62, dX7_toldRules_63, dX7_toldRules_66, tg_66_m52, dX7_toldRules_69, dX7_toldRules_70, dX7_toldRules_72, dX7_toldRules_75, dX7_toldRules_77, jX7_toldRules_0_122, jX7_toldRules_0_215, st_aload_n, st_bipush, st_dup, st_getfield, st_goto, st_iadd, st_iconst, st_ifCond, st_if_icmp, st_iload, st_iload_n, st_invokevirtual, st_ior, st_ireturn, st_ishl, st_istore, st_putfield]
  exact hl
/-- as SFr, but for the one whose kind is another -/
def SFk (s s' : MS) : Prop := s'.2.2 = s.2.2 ∧ (∀ k, k ≠ 16 → k ≠ 17 → k ≠ 19 → s'.1 k = s.1 k) ∧ ∀ k, k ≠ 4 → k ≠ 18 → s'.2.1 k = s.2.1 k
theorem SFk.tr {s s' s'' : MS} (h : SFk s s') (h' : SFr s' s'') : SFk s s'' := ⟨h'.1.trans h.1, fun k a b c => (h'.2.1 k c).trans (h.2.1 k a b c), fun k a b => (h'.2.2 k a b).trans (h.2.2 k a b)⟩
theorem SFk.put {s s' : MS} (h : SFk s s') (v : Int32) : SFk s (upd s'.1 17 v, s'.2) := ⟨h.1, fun k a b c => (pk_un b).trans (h.2.1 k a b c), h.2.2⟩
theorem R.fk {ψ : XS} {s s' : MS} (h : R ψ s) (hf : SFk s s') : R ψ (upd s'.1 16 (-4), s'.2) := by
  refine h.upN (s' := (upd s'.1 16 (-4), s'.2)) (c := ψ.1) (pa := ψ.2.2.1) (hf.2.1 7 (by decide) (by decide) (by decide)) (hf.2.1 14 (by decide) (by decide) (by decide)) h.2.2.1.symm (hf.2.2 8 (by decide) (by decide)) (hf.2.2 9 (by decide) (by decide)) (hf.2.2 10 (by decide) (by decide)) (hf.2.2 12 (by decide) (by decide)) (hf.2.2 13 (by decide) (by decide)) (hf.2.2 15 (by decide) (by decide)) hf.1 ?_
  show SN (s'.1 0) (s'.1 1) (s'.1 6) (s'.2.1 2) (s'.2.1 3) (s'.2.1 5) ψ.1 ψ.2.2.1
  rw [hf.2.1 0 (by decide) (by decide) (by decide), hf.2.1 1 (by decide) (by decide) (by decide), hf.2.1 6 (by decide) (by decide) (by decide), hf.2.2 2 (by decide) (by decide), hf.2.2 3 (by decide) (by decide), hf.2.2 5 (by decide) (by decide)]
  exact h.1
/-- one of another kind -/
theorem sdk_R {ψ : XS} {s : MS} {c : CS} {p : Nat} {v : Int32} (h : R ψ (upd s.1 16 (-4), s.2)) (hl : Like c ψ.1) (hp : p < 5) (e16 : s.1 16 = nI p) (e17 : s.1 17 = v) : SD (asd s) (c.1, c.2.1, upd c.2.2.1 p v, c.2.2.2) := by
  have hS := h.sd hl
  have hP := (hl.ci h.1.2.2.2.2.1).P5
  refine ⟨⟨hS.1.1, hS.1.2.1, fun q hq => ?_⟩, hS.2⟩
  show (if nI q = s.1 16 then s.1 17 else s.2.1 2 q) = upd c.2.2.1 p v q
  have hq : q < c.2.2.2.2.2.2.1 := hq
  have h3 := hS.1.2.2 q hq
  have h3 : (if nI q = -4 then s.1 17 else s.2.1 2 q) = c.2.2.1 q := h3
  rw [if_neg (nI_m4 (by omega))] at h3
  rw [e16, e17]
  by_cases e : q = p
  · subst e
    rw [if_pos rfl, pk_us]
  · rw [if_neg (fun z => e ((nI_eq (by omega) (by omega)).mp z)), pk_un e]
    exact h3
def sp_X7_toldKinds (Γ : Cx) : YSp := fun av σ K => ∃ (ψ : XS) (p d q I N : Nat) (r : Int32), mq Γ [.int (nI p), .int (nI d), .int (nI q), .int (nI I), .int (nI N)] (tdP ψ 0 p d q I N r) (fun _ s' v => R ψ s' ∧ v = some (.int r)) av σ K
theorem rv_X7_toldKinds {Γ : Cx} : Recv (sp_X7_toldKinds Γ) 5 7 := by
  intro av σ K h
  obtain ⟨ψ, p, d, q, I, N, r, h⟩ := h
  obtain ⟨q, fs, h1, h2, h3⟩ := rv_mq h
  exact ⟨q, _, fs, h1, rfl, h2, h3⟩
theorem tg_18_49 : tgo 18 49 = some 67 := by decide
theorem tg_38_12 : tgo 38 12 = some 50 := by decide
theorem tg_47_4 : tgo 47 4 = some 51 := by decide
theorem tg_64_m51 : tgo 64 (-51) = some 13 := by decide
def mX7_toldKinds : Mt := (⟨4, 0, 0, 96⟩, RX7, cX7_toldKinds, 7, some .int, (0, 0), none)
theorem mX7_toldKinds_c : mX7_toldKinds.2.2.1 = cX7_toldKinds := rfl
theorem mX7_toldKinds_n : mX7_toldKinds.2.2.2.1 = 7 := rfl
theorem mX7_toldKinds_r : mX7_toldKinds.2.2.2.2.1 = some .int := rfl
theorem mX7_toldKinds_l : mX7_toldKinds.2.2.2.2.2.2 = none := rfl
def jX7_toldKinds (Γ : Cx) : List ((Nat × Nat) × Nat × Bool × YSp) := [((0, 122), 1, false, sp_X7_aside Γ), ((0, 215), 6, false, sp_X7_isTold Γ)]
theorem jX7_toldKinds_0_122 (Γ : Cx) : kT (jX7_toldKinds Γ) 0 122 = some (1, false, sp_X7_aside Γ) := rfl
theorem jX7_toldKinds_0_215 (Γ : Cx) : kT (jX7_toldKinds Γ) 0 215 = some (6, false, sp_X7_isTold Γ) := rfl
theorem uX7_toldKinds (Γ : Cx) : TbOK Γ mX7_toldKinds (fT fX7, cT kX7, kT (jX7_toldKinds Γ)) := tb_ok fX7_ok kX7_ok (all_cons ⟨call_V (n := 0) (T := TX7) (N := 26) (ok_X7_aside Γ) (rv_X7_aside (Γ := Γ)) rfl bw_835 bw_832 bw_834 bw_17 bw_49 no_X7_aside ⟨⟨rfl, rfl⟩, ⟨by decide, by decide⟩, ⟨by decide, by decide⟩⟩, fun z => by cases z⟩ (all_cons ⟨call_V (n := 5) (T := TX7) (N := 26) (ok_X7_isTold Γ) (rv_X7_isTold (Γ := Γ)) rfl bw_1035 bw_1032 bw_1034 bw_38 bw_49 no_X7_isTold ⟨⟨rfl, rfl⟩, ⟨by decide, by decide⟩, ⟨by decide, by decide⟩⟩, fun z => by cases z⟩ (all_nil)))
set_option maxRecDepth 20000 in
theorem ok_X7_toldKinds (Γ : Cx) : Ok Γ yX7_toldKinds mX7_toldKinds (sp_X7_toldKinds Γ) := by
  refine ok_intro (by decide +kernel) rfl rfl ?_
  intro av σ K h
  obtain ⟨ψ, p, d, q, I, N, r, lab, ⟨a, ad⟩, ⟨sc, ar, it⟩, rfl, hM, ⟨hR, hp, hd, hq, hN, ⟨k, hk, hke, hIN⟩, hT⟩, h⟩ := h
  simp only at h
  have pI := hR.1.2.2.2.2.1
  have hP := pI.P5
  have hp5 : p < 5 := by omega
  have loop : ∀ m v : Nat, ∀ (acc : Int32) (s1 : MS) (σ1 : Hp), v + m = 5 → frm (fL lab 30) σ σ1 → Mod Γ lab (a, ad) s1 σ1 → SFk (sc, ar, it) s1 → s1.1 16 = nI p → s1.1 17 = nI v → TdR ψ 0 p d (ψ.2.2.2.2.2.2 q).1 I N m v acc r → YG Γ mX7_toldKinds K 13 [(0, .ref a), (1, .int (nI p)), (2, .int (nI d)), (3, .int (nI q)), (4, .int (nI I)), (5, .int (nI N)), (6, .int acc)] [] σ1 := by
    intro m
    induction m with
    | zero =>
      intro v acc s1 σ1 hv hf1 hM1 hF1 e16 e17 hT
      obtain rfl : v = 5 := by omega
      have hR2 := hR.fk hF1
      obtain ⟨sc1, ar1, it1⟩ := s1
      have hk := h _ _ _ ⟨hR2, rfl⟩ (hf1.tr hM1.frO) (hM1.putO (upd sc1 16 (-4)))
      rw [show r = acc from hT] at hk
      obtain ⟨⟨m1, -⟩, e1, -⟩ := id hM1
      simp only at e17
      simp only [ME, hput] at m1 e1 hk
      rw [e17] at e1
      have hx : upd sc1 16 (-4) 17 = nI 5 := by rw [pk_un (by decide)]; exact e17
      rw [hx] at hk
      refine yvc1_ok (uX7_toldKinds Γ) (S := [13]) 40 ?_
      simp only [yvc1, ge5j, m1, e1, yvc_s, s1i, s2i, s1l, s2l, sil, s1r, sir, siir, slir, srir, svr, sd1, sd2, lg, lput, ldel, isL_i, isL_r, isL_l, jmp, obj, obj1, fI, fR, arI, arL, arR, hput, f4_0, f4_1, f4_2, f4_3, lc_0, lc_1, rok_i, rok_b, rok_y, strF, fput_1, fput_2, csum_nil, csum_i, csum_l, csum_r, va_up_self, bx_uu, Int.reduceAdd, List.elem_nil, List.elem_cons, List.take_succ_cons, List.take_zero, List.drop_succ_cons, List.drop_zero, List.take_nil, List.drop_nil, List.reverse_cons, List.reverse_nil, List.nil_append, List.cons_append, List.append_nil, Option.toList_some, Option.toList_none, List.getElem?_cons_zero, List.getElem?_cons_succ, List.set_cons_zero, List.set_cons_succ, List.length_cons, List.length_nil, reduceIte, reduceCtorEq, and_true, true_and, and_self, or_true, true_or, false_and, and_false, not_true_eq_false, not_false_eq_true, true_implies, false_implies, implies_true, Nat.reduceAdd, Nat.reduceLT, Nat.reduceEqDiff, Nat.reduceLeDiff, Nat.reduceBEq, Nat.zero_add, Nat.lt_add_one, Bool.false_eq_true, Bool.or_false, Bool.or_true, Bool.or_self, Nat.zero_ne_one, Nat.one_ne_zero, ite_true, ite_false, ne_eq, Nat.reduceSub, Nat.succ_eq_add_one, Nat.zero_lt_succ, Nat.add_one_ne_zero, false_or, or_false, mX7_toldKinds_c, mX7_toldKinds_n, mX7_toldKinds_r, mX7_toldKinds_l, dX7_toldKinds_0, ic_0, dX7_toldKinds_1, dX7_toldKinds_3, dX7_toldKinds_4, dX7_toldKinds_5, fl_7_48_7, dX7_toldKinds_8, dX7_toldKinds_9, dX7_toldKinds_10, fl_7_69_7, dX7_toldKinds_13, dX7_toldKinds_14, dX7_toldKinds_17, ic_5, dX7_toldKinds_18, tg_18_49, cnd2_ge, dX7_toldKinds_21, dX7_toldKinds_22, dX7_toldKinds_25, dX7_toldKinds_27, dX7_toldKinds_28, dX7_toldKinds_29, dX7_toldKinds_30, dX7_toldKinds_31, dX7_toldKinds_33, dX7_toldKinds_35, dX7_toldKinds_38, tg_38_12, cnd1_eq, dX7_toldKinds_41, ic_1, dX7_toldKinds_42, dX7_toldKinds_43, dX7_toldKinds_46, dX7_toldKinds_47, tg_47_4, dX7_toldKinds_50, dX7_toldKinds_51, dX7_toldKinds_52, dX7_toldKinds_54, dX7_toldKinds_55, dX7_toldKinds_56, dX7_toldKinds_59, dX7_toldKinds_60, dX7_toldKinds_61, dX7_toldKinds_64, tg_64_m51, dX7_toldKinds_67, dX7_toldKinds_68, bc_m4, dX7_toldKinds_70, dX7_toldKinds_73, dX7_toldKinds_75, jX7_toldKinds_0_122, jX7_toldKinds_0_215, st_aload_n, st_bipush, st_dup, st_getfield, st_goto, st_iadd, st_iconst, st_ifCond, st_if_icmp, st_iload, st_iload_n, st_invokevirtual, st_ior, st_ireturn, st_ishl, st_istore, st_putfield]
      exact hk
    | succ m ih =>
      intro v acc s1 σ1 hv hf1 hM1 hF1 e16 e17 hT
      obtain ⟨t, hT⟩ := hT
      obtain ⟨c1, -, -⟩ := lt5j (show v < 5 by omega)
      have hL := like_bec (t := t) hP
      obtain ⟨D, hD, hJ⟩ := hL.ci pI
      have hR2 := hR.fk hF1
      have hS2 := sdk_R hR2 hL hp5 e16 e17
      have hJ3 := supC_cj hJ (what := 0) (p := p) (d := d) (show v ≤ 20 by omega)
      have hes : supC (bec t ψ.1) 0 p d (nI v) = ((bec t ψ.1).1, (bec t ψ.1).2.1, upd (bec t ψ.1).2.2.1 p (nI v), (bec t ψ.1).2.2.2) := by
        unfold supC
        rw [if_pos rfl]
      rw [← hes] at hS2
      have hPs : (supC (bec t ψ.1) 0 p d (nI v)).2.2.2.2.2.2.1 = ψ.1.2.2.2.2.2.2.1 := supC_P
      generalize supC (bec t ψ.1) 0 p d (nI v) = zc at hS2 hJ3 hT hPs
      have hit := RS.sh hR2 hq hk hke hIN
      have e17' := e17
      obtain ⟨⟨m1, -⟩, e1, -⟩ := id hM1
      simp only [ME] at m1 e1
      rw [e17] at e1
      refine yvc1_ok (uX7_toldKinds Γ) (S := [13]) 40 ?_
      simp only [yvc1, c1, m1, e1, yvc_s, s1i, s2i, s1l, s2l, sil, s1r, sir, siir, slir, srir, svr, sd1, sd2, lg, lput, ldel, isL_i, isL_r, isL_l, jmp, obj, obj1, fI, fR, arI, arL, arR, hput, f4_0, f4_1, f4_2, f4_3, lc_0, lc_1, rok_i, rok_b, rok_y, strF, fput_1, fput_2, csum_nil, csum_i, csum_l, csum_r, va_up_self, bx_uu, Int.reduceAdd, List.elem_nil, List.elem_cons, List.take_succ_cons, List.take_zero, List.drop_succ_cons, List.drop_zero, List.take_nil, List.drop_nil, List.reverse_cons, List.reverse_nil, List.nil_append, List.cons_append, List.append_nil, Option.toList_some, Option.toList_none, List.getElem?_cons_zero, List.getElem?_cons_succ, List.set_cons_zero, List.set_cons_succ, List.length_cons, List.length_nil, reduceIte, reduceCtorEq, and_true, true_and, and_self, or_true, true_or, false_and, and_false, not_true_eq_false, not_false_eq_true, true_implies, false_implies, implies_true, Nat.reduceAdd, Nat.reduceLT, Nat.reduceEqDiff, Nat.reduceLeDiff, Nat.reduceBEq, Nat.zero_add, Nat.lt_add_one, Bool.false_eq_true, Bool.or_false, Bool.or_true, Bool.or_self, Nat.zero_ne_one, Nat.one_ne_zero, ite_true, ite_false, ne_eq, Nat.reduceSub, Nat.succ_eq_add_one, Nat.zero_lt_succ, Nat.add_one_ne_zero, false_or, or_false, mX7_toldKinds_c, mX7_toldKinds_n, mX7_toldKinds_r, mX7_toldKinds_l, dX7_toldKinds_0, ic_0, dX7_toldKinds_1, dX7_toldKinds_3, dX7_toldKinds_4, dX7_toldKinds_5, fl_7_48_7, dX7_toldKinds_8, dX7_toldKinds_9, dX7_toldKinds_10, fl_7_69_7, dX7_toldKinds_13, dX7_toldKinds_14, dX7_toldKinds_17, ic_5, dX7_toldKinds_18, tg_18_49, cnd2_ge, dX7_toldKinds_21, dX7_toldKinds_22, dX7_toldKinds_25, dX7_toldKinds_27, dX7_toldKinds_28, dX7_toldKinds_29, dX7_toldKinds_30, dX7_toldKinds_31, dX7_toldKinds_33, dX7_toldKinds_35, dX7_toldKinds_38, tg_38_12, cnd1_eq, dX7_toldKinds_41, ic_1, dX7_toldKinds_42, dX7_toldKinds_43, dX7_toldKinds_46, dX7_toldKinds_47, tg_47_4, dX7_toldKinds_50, dX7_toldKinds_51, dX7_toldKinds_52, dX7_toldKinds_54, dX7_toldKinds_55, dX7_toldKinds_56, dX7_toldKinds_59, dX7_toldKinds_60, dX7_toldKinds_61, dX7_toldKinds_64, tg_64_m51, dX7_toldKinds_67, dX7_toldKinds_68, bc_m4, dX7_toldKinds_70, dX7_toldKinds_73, dX7_toldKinds_75, jX7_toldKinds_0_122, jX7_toldKinds_0_215, st_aload_n, st_bipush, st_dup, st_getfield, st_goto, st_iadd, st_iconst, st_ifCond, st_if_icmp, st_iload, st_iload_n, st_invokevirtual, st_ior, st_ireturn, st_ishl, st_istore, st_putfield]
      refine ⟨lab, (a, ad), _, rfl, hM1, trivial, ?_⟩
      rintro σ2 s2 r2 ⟨hs2, rfl⟩ hf2 hM2
      rw [← hs2] at hS2
      have hF2 : SFk (sc, ar, it) s2 := by rw [hs2]; exact hF1.tr asd_fr
      have hit2 : ∀ i, i < N → s2.2.2 (24 * q + I + i) = (ψ.2.2.2.2.2.2 q).1 (I + i) := by rw [hs2]; exact hit
      have e16' : s2.1 16 = nI p := by rw [hs2]; exact e16
      have e17' : s2.1 17 = nI v := by rw [hs2]; exact e17
      refine yvc_ok (uX7_toldKinds Γ) (S := [13]) 60 _ _ _ _ ?_
      simp only [yvc_s, s1i, s2i, s1l, s2l, sil, s1r, sir, siir, slir, srir, svr, sd1, sd2, lg, lput, ldel, isL_i, isL_r, isL_l, jmp, obj, obj1, fI, fR, arI, arL, arR, hput, f4_0, f4_1, f4_2, f4_3, lc_0, lc_1, rok_i, rok_b, rok_y, strF, fput_1, fput_2, csum_nil, csum_i, csum_l, csum_r, va_up_self, bx_uu, Int.reduceAdd, List.elem_nil, List.elem_cons, List.take_succ_cons, List.take_zero, List.drop_succ_cons, List.drop_zero, List.take_nil, List.drop_nil, List.reverse_cons, List.reverse_nil, List.nil_append, List.cons_append, List.append_nil, Option.toList_some, Option.toList_none, List.getElem?_cons_zero, List.getElem?_cons_succ, List.set_cons_zero, List.set_cons_succ, List.length_cons, List.length_nil, reduceIte, reduceCtorEq, and_true, true_and, and_self, or_true, true_or, false_and, and_false, not_true_eq_false, not_false_eq_true, true_implies, false_implies, implies_true, Nat.reduceAdd, Nat.reduceLT, Nat.reduceEqDiff, Nat.reduceLeDiff, Nat.reduceBEq, Nat.zero_add, Nat.lt_add_one, Bool.false_eq_true, Bool.or_false, Bool.or_true, Bool.or_self, Nat.zero_ne_one, Nat.one_ne_zero, ite_true, ite_false, ne_eq, Nat.reduceSub, Nat.succ_eq_add_one, Nat.zero_lt_succ, Nat.add_one_ne_zero, false_or, or_false, mX7_toldKinds_c, mX7_toldKinds_n, mX7_toldKinds_r, mX7_toldKinds_l, dX7_toldKinds_0, ic_0, dX7_toldKinds_1, dX7_toldKinds_3, dX7_toldKinds_4, dX7_toldKinds_5, fl_7_48_7, dX7_toldKinds_8, dX7_toldKinds_9, dX7_toldKinds_10, fl_7_69_7, dX7_toldKinds_13, dX7_toldKinds_14, dX7_toldKinds_17, ic_5, dX7_toldKinds_18, tg_18_49, cnd2_ge, dX7_toldKinds_21, dX7_toldKinds_22, dX7_toldKinds_25, dX7_toldKinds_27, dX7_toldKinds_28, dX7_toldKinds_29, dX7_toldKinds_30, dX7_toldKinds_31, dX7_toldKinds_33, dX7_toldKinds_35, dX7_toldKinds_38, tg_38_12, cnd1_eq, dX7_toldKinds_41, ic_1, dX7_toldKinds_42, dX7_toldKinds_43, dX7_toldKinds_46, dX7_toldKinds_47, tg_47_4, dX7_toldKinds_50, dX7_toldKinds_51, dX7_toldKinds_52, dX7_toldKinds_54, dX7_toldKinds_55, dX7_toldKinds_56, dX7_toldKinds_59, dX7_toldKinds_60, dX7_toldKinds_61, dX7_toldKinds_64, tg_64_m51, dX7_toldKinds_67, dX7_toldKinds_68, bc_m4, dX7_toldKinds_70, dX7_toldKinds_73, dX7_toldKinds_75, jX7_toldKinds_0_122, jX7_toldKinds_0_215, st_aload_n, st_bipush, st_dup, st_getfield, st_goto, st_iadd, st_iconst, st_ifCond, st_if_icmp, st_iload, st_iload_n, st_invokevirtual, st_ior, st_ireturn, st_ishl, st_istore, st_putfield]
      refine ⟨p, d, q, I, N, zc, _, lab, (a, ad), _, rfl, hM2, ⟨hS2, ⟨D, hJ3, by omega⟩, by rw [hPs]; exact hp, hd, hq, by omega, hit2⟩, ?_⟩
      rintro σ4 s4 r4 ⟨hF4, rfl⟩ hf4 hM4
      have hF5 := (hF2.tr hF4).put (nI (v + 1))
      have d16 : s4.1 16 = nI p := (hF4.2.1 16 (by decide)).trans e16'
      have d17 : s4.1 17 = nI v := (hF4.2.1 17 (by decide)).trans e17'
      obtain ⟨sc4, ar4, it4⟩ := s4
      simp only at d16 d17
      have hi := fun acc' => ih (v + 1) acc' _ _ (by omega) (((hf1.tr hf2).tr hf4).tr hM4.frO) (hM4.putO (upd sc4 17 (nI (v + 1)))) hF5 (by show upd sc4 17 (nI (v + 1)) 16 = nI p; rw [pk_un (by decide)]; exact d16) (by show upd sc4 17 (nI (v + 1)) 17 = nI (v + 1); rw [pk_us])
      obtain ⟨⟨m1, -⟩, e1, -⟩ := id hM4
      simp only [ME, hput] at m1 e1 hi
      rw [d17] at e1
      refine yvc_ok (uX7_toldKinds Γ) (S := [13]) 60 _ _ _ _ ?_
      simp only [m1, e1, bI_eq0, Bool.not_eq_false, or0, nI_1, yvc_s, s1i, s2i, s1l, s2l, sil, s1r, sir, siir, slir, srir, svr, sd1, sd2, lg, lput, ldel, isL_i, isL_r, isL_l, jmp, obj, obj1, fI, fR, arI, arL, arR, hput, f4_0, f4_1, f4_2, f4_3, lc_0, lc_1, rok_i, rok_b, rok_y, strF, fput_1, fput_2, csum_nil, csum_i, csum_l, csum_r, va_up_self, bx_uu, Int.reduceAdd, List.elem_nil, List.elem_cons, List.take_succ_cons, List.take_zero, List.drop_succ_cons, List.drop_zero, List.take_nil, List.drop_nil, List.reverse_cons, List.reverse_nil, List.nil_append, List.cons_append, List.append_nil, Option.toList_some, Option.toList_none, List.getElem?_cons_zero, List.getElem?_cons_succ, List.set_cons_zero, List.set_cons_succ, List.length_cons, List.length_nil, reduceIte, reduceCtorEq, and_true, true_and, and_self, or_true, true_or, false_and, and_false, not_true_eq_false, not_false_eq_true, true_implies, false_implies, implies_true, Nat.reduceAdd, Nat.reduceLT, Nat.reduceEqDiff, Nat.reduceLeDiff, Nat.reduceBEq, Nat.zero_add, Nat.lt_add_one, Bool.false_eq_true, Bool.or_false, Bool.or_true, Bool.or_self, Nat.zero_ne_one, Nat.one_ne_zero, ite_true, ite_false, ne_eq, Nat.reduceSub, Nat.succ_eq_add_one, Nat.zero_lt_succ, Nat.add_one_ne_zero, false_or, or_false, mX7_toldKinds_c, mX7_toldKinds_n, mX7_toldKinds_r, mX7_toldKinds_l, dX7_toldKinds_0, ic_0, dX7_toldKinds_1, dX7_toldKinds_3, dX7_toldKinds_4, dX7_toldKinds_5, fl_7_48_7, dX7_toldKinds_8, dX7_toldKinds_9, dX7_toldKinds_10, fl_7_69_7, dX7_toldKinds_13, dX7_toldKinds_14, dX7_toldKinds_17, ic_5, dX7_toldKinds_18, tg_18_49, cnd2_ge, dX7_toldKinds_21, dX7_toldKinds_22, dX7_toldKinds_25, dX7_toldKinds_27, dX7_toldKinds_28, dX7_toldKinds_29, dX7_toldKinds_30, dX7_toldKinds_31, dX7_toldKinds_33, dX7_toldKinds_35, dX7_toldKinds_38, tg_38_12, cnd1_eq, dX7_toldKinds_41, ic_1, dX7_toldKinds_42, dX7_toldKinds_43, dX7_toldKinds_46, dX7_toldKinds_47, tg_47_4, dX7_toldKinds_50, dX7_toldKinds_51, dX7_toldKinds_52, dX7_toldKinds_54, dX7_toldKinds_55, dX7_toldKinds_56, dX7_toldKinds_59, dX7_toldKinds_60, dX7_toldKinds_61, dX7_toldKinds_64, tg_64_m51, dX7_toldKinds_67, dX7_toldKinds_68, bc_m4, dX7_toldKinds_70, dX7_toldKinds_73, dX7_toldKinds_75, jX7_toldKinds_0_122, jX7_toldKinds_0_215, st_aload_n, st_bipush, st_dup, st_getfield, st_goto, st_iadd, st_iconst, st_ifCond, st_if_icmp, st_iload, st_iload_n, st_invokevirtual, st_ior, st_ireturn, st_ishl, st_istore, st_putfield]
      refine ⟨fun z => ?_, fun z => ?_⟩
      · rw [if_neg (by rw [z]; decide)] at hT
        exact hi _ hT
      · rw [if_pos z] at hT
        exact hi _ hT
  have hl := loop 5 0 0 _ _ rfl hM.frO (hM.putO (upd (upd sc 16 (nI p)) 17 (nI 0))) ⟨rfl, fun k a b c => (pk_un b).trans (pk_un a), fun _ _ _ => rfl⟩ (by show upd (upd sc 16 (nI p)) 17 (nI 0) 16 = nI p; rw [pk_un (by decide), pk_us]) (by show upd (upd sc 16 (nI p)) 17 (nI 0) 17 = nI 0; rw [pk_us]) hT
  obtain ⟨⟨m1, -⟩, e1, -⟩ := id hM
  simp only [ME, hput] at m1 e1 hl
  refine ⟨Nat.le_of_ble_eq_true rfl, yvc_ok (uX7_toldKinds Γ) (S := [13]) 60 _ _ _ _ ?_⟩
  simp only [lv_args, Value.category, m1, e1, yvc_s, s1i, s2i, s1l, s2l, sil, s1r, sir, siir, slir, srir, svr, sd1, sd2, lg, lput, ldel, isL_i, isL_r, isL_l, jmp, obj, obj1, fI, fR, arI, arL, arR, hput, f4_0, f4_1, f4_2, f4_3, lc_0, lc_1, rok_i, rok_b, rok_y, strF, fput_1, fput_2, csum_nil, csum_i, csum_l, csum_r, va_up_self, bx_uu, Int.reduceAdd, List.elem_nil, List.elem_cons, List.take_succ_cons, List.take_zero, List.drop_succ_cons, List.drop_zero, List.take_nil, List.drop_nil, List.reverse_cons, List.reverse_nil, List.nil_append, List.cons_append, List.append_nil, Option.toList_some, Option.toList_none, List.getElem?_cons_zero, List.getElem?_cons_succ, List.set_cons_zero, List.set_cons_succ, List.length_cons, List.length_nil, reduceIte, reduceCtorEq, and_true, true_and, and_self, or_true, true_or, false_and, and_false, not_true_eq_false, not_false_eq_true, true_implies, false_implies, implies_true, Nat.reduceAdd, Nat.reduceLT, Nat.reduceEqDiff, Nat.reduceLeDiff, Nat.reduceBEq, Nat.zero_add, Nat.lt_add_one, Bool.false_eq_true, Bool.or_false, Bool.or_true, Bool.or_self, Nat.zero_ne_one, Nat.one_ne_zero, ite_true, ite_false, ne_eq, Nat.reduceSub, Nat.succ_eq_add_one, Nat.zero_lt_succ, Nat.add_one_ne_zero, false_or, or_false, mX7_toldKinds_c, mX7_toldKinds_n, mX7_toldKinds_r, mX7_toldKinds_l, dX7_toldKinds_0, ic_0, dX7_toldKinds_1, dX7_toldKinds_3, dX7_toldKinds_4, dX7_toldKinds_5, fl_7_48_7, dX7_toldKinds_8, dX7_toldKinds_9, dX7_toldKinds_10, fl_7_69_7, dX7_toldKinds_13, dX7_toldKinds_14, dX7_toldKinds_17, ic_5, dX7_toldKinds_18, tg_18_49, cnd2_ge, dX7_toldKinds_21, dX7_toldKinds_22, dX7_toldKinds_25, dX7_toldKinds_27, dX7_toldKinds_28, dX7_toldKinds_29, dX7_toldKinds_30, dX7_toldKinds_31, dX7_toldKinds_33, dX7_toldKinds_35, dX7_toldKinds_38, tg_38_12, cnd1_eq, dX7_toldKinds_41, ic_1, dX7_toldKinds_42, dX7_toldKinds_43, dX7_toldKinds_46, dX7_toldKinds_47, tg_47_4, dX7_toldKinds_50, dX7_toldKinds_51, dX7_toldKinds_52, dX7_toldKinds_54, dX7_toldKinds_55, dX7_toldKinds_56, dX7_toldKinds_59, dX7_toldKinds_60, dX7_toldKinds_61, dX7_toldKinds_64, tg_64_m51, dX7_toldKinds_67, dX7_toldKinds_68, bc_m4, dX7_toldKinds_70, dX7_toldKinds_73, dX7_toldKinds_75, jX7_toldKinds_0_122, jX7_toldKinds_0_215, st_aload_n, st_bipush, st_dup, st_getfield, st_goto, st_iadd, st_iconst, st_ifCond, st_if_icmp, st_iload, st_iload_n, st_invokevirtual, st_ior, st_ireturn, st_ishl, st_istore, st_putfield]
  exact hl
def sp_X7_told (Γ : Cx) : YSp := fun av σ K => ∃ (x : Int32) (y : Int32) (z : Int32) (u : Int32) (v : Int32) (w : Int32) (t : Int32), mo Γ [.int x, .int y, .int z, .int u, .int v, .int w, .int t] (x_told x y z u v w t) av σ K
theorem rv_X7_told {Γ : Cx} : Recv (sp_X7_told Γ) 7 7 := by
  intro av σ K h
  obtain ⟨x, y, z, u, v, w, t, h⟩ := h
  obtain ⟨q, fs, h1, h2, h3⟩ := rv_mo h
  exact ⟨q, _, fs, h1, rfl, h2, h3⟩
theorem bw_1031 : Cond.code yX7_toldKinds cX7_toldKinds 7 (some .int) ∈ BW := bw_i 1031 (by decide +kernel) (by decide +kernel)
theorem no_X7_toldKinds : NameOK yX7_toldKinds 5 := by unfold NameOK; decide +kernel
theorem bw_1028 : Cond.methodLink RX7 231 yX7_toldKinds ∈ BW := bw_i 1028 (by decide +kernel) (by decide +kernel)
theorem bw_1030 : Cond.instanceMethod yX7_toldKinds ∈ BW := bw_i 1030 (by decide +kernel) (by decide +kernel)
theorem bw_37 : Cond.selects RX7 yX7_toldKinds yX7_toldKinds ∈ BW := bw_i 37 (by decide +kernel) (by decide +kernel)
theorem bw_1039 : Cond.code yX7_toldWants cX7_toldWants 8 (some .int) ∈ BW := bw_i 1039 (by decide +kernel) (by decide +kernel)
theorem no_X7_toldWants : NameOK yX7_toldWants 5 := by unfold NameOK; decide +kernel
theorem bw_1036 : Cond.methodLink RX7 235 yX7_toldWants ∈ BW := bw_i 1036 (by decide +kernel) (by decide +kernel)
theorem bw_1038 : Cond.instanceMethod yX7_toldWants ∈ BW := bw_i 1038 (by decide +kernel) (by decide +kernel)
theorem bw_39 : Cond.selects RX7 yX7_toldWants yX7_toldWants ∈ BW := bw_i 39 (by decide +kernel) (by decide +kernel)
theorem bw_1043 : Cond.code yX7_toldRules cX7_toldRules 8 (some .int) ∈ BW := bw_i 1043 (by decide +kernel) (by decide +kernel)
theorem no_X7_toldRules : NameOK yX7_toldRules 5 := by unfold NameOK; decide +kernel
theorem bw_1040 : Cond.methodLink RX7 238 yX7_toldRules ∈ BW := bw_i 1040 (by decide +kernel) (by decide +kernel)
theorem bw_1042 : Cond.instanceMethod yX7_toldRules ∈ BW := bw_i 1042 (by decide +kernel) (by decide +kernel)
theorem bw_40 : Cond.selects RX7 yX7_toldRules yX7_toldRules ∈ BW := bw_i 40 (by decide +kernel) (by decide +kernel)
theorem tg_5_51 : tgo 5 51 = some 56 := by decide
theorem tg_12_44 : tgo 12 44 = some 56 := by decide
theorem tg_27_29 : tgo 27 29 = some 56 := by decide
theorem tg_40_16 : tgo 40 16 = some 56 := by decide
theorem tg_53_5 : tgo 53 5 = some 58 := by decide
theorem tg_73_6 : tgo 73 6 = some 79 := by decide
theorem tg_81_17 : tgo 81 17 = some 98 := by decide
theorem tg_95_34 : tgo 95 34 = some 129 := by decide
theorem tg_101_17 : tgo 101 17 = some 118 := by decide
theorem tg_115_14 : tgo 115 14 = some 129 := by decide
def mX7_told : Mt := (⟨5, 0, 0, 123⟩, RX7, cX7_told, 9, some .int, (0, 0), none)
theorem mX7_told_c : mX7_told.2.2.1 = cX7_told := rfl
theorem mX7_told_n : mX7_told.2.2.2.1 = 9 := rfl
theorem mX7_told_r : mX7_told.2.2.2.2.1 = some .int := rfl
theorem mX7_told_l : mX7_told.2.2.2.2.2.2 = none := rfl
def jX7_told (Γ : Cx) : List ((Nat × Nat) × Nat × Bool × YSp) := [((0, 107), 2, true, sp_X7_isOne Γ), ((1, 111), 1, true, sp_X7_isDoor Γ), ((1, 219), 1, true, sp_X7_isSheet Γ), ((1, 222), 1, true, sp_X7_isLane Γ), ((1, 63), 3, true, sp_X7_lies Γ), ((0, 227), 5, false, sp_X7_lacks Γ), ((0, 231), 6, false, sp_X7_toldKinds Γ), ((0, 235), 6, false, sp_X7_toldWants Γ), ((0, 238), 6, false, sp_X7_toldRules Γ)]
theorem jX7_told_0_107 (Γ : Cx) : kT (jX7_told Γ) 0 107 = some (2, true, sp_X7_isOne Γ) := rfl
theorem jX7_told_1_111 (Γ : Cx) : kT (jX7_told Γ) 1 111 = some (1, true, sp_X7_isDoor Γ) := rfl
theorem jX7_told_1_219 (Γ : Cx) : kT (jX7_told Γ) 1 219 = some (1, true, sp_X7_isSheet Γ) := rfl
theorem jX7_told_1_222 (Γ : Cx) : kT (jX7_told Γ) 1 222 = some (1, true, sp_X7_isLane Γ) := rfl
theorem jX7_told_1_63 (Γ : Cx) : kT (jX7_told Γ) 1 63 = some (3, true, sp_X7_lies Γ) := rfl
theorem jX7_told_0_227 (Γ : Cx) : kT (jX7_told Γ) 0 227 = some (5, false, sp_X7_lacks Γ) := rfl
theorem jX7_told_0_231 (Γ : Cx) : kT (jX7_told Γ) 0 231 = some (6, false, sp_X7_toldKinds Γ) := rfl
theorem jX7_told_0_235 (Γ : Cx) : kT (jX7_told Γ) 0 235 = some (6, false, sp_X7_toldWants Γ) := rfl
theorem jX7_told_0_238 (Γ : Cx) : kT (jX7_told Γ) 0 238 = some (6, false, sp_X7_toldRules Γ) := rfl
theorem uX7_told (Γ : Cx) : TbOK Γ mX7_told (fT fX7, cT kX7, kT (jX7_told Γ)) := tb_ok fX7_ok kX7_ok (all_cons ⟨call_V (n := 1) (T := TX7) (N := 26) (ok_X7_isOne Γ) (rv_X7_isOne (Γ := Γ)) rfl bw_810 bw_807 bw_809 bw_14 bw_49 no_X7_isOne ⟨⟨rfl, rfl⟩, ⟨by decide, by decide⟩, ⟨by decide, by decide⟩⟩, fun _ => mono_X7_isOne (Γ := Γ)⟩ (all_cons ⟨call_S (n := 1) (ok_X7_isDoor Γ) (rv_X7_isDoor (Γ := Γ)) bw_813 bw_811 bw_812 bw_49 no_X7_isDoor ⟨⟨rfl, rfl⟩, ⟨by decide, by decide⟩, ⟨by decide, by decide⟩⟩, fun _ => mono_X7_isDoor (Γ := Γ)⟩ (all_cons ⟨call_S (n := 1) (ok_X7_isSheet Γ) (rv_X7_isSheet (Γ := Γ)) bw_1015 bw_1013 bw_1014 bw_49 no_X7_isSheet ⟨⟨rfl, rfl⟩, ⟨by decide, by decide⟩, ⟨by decide, by decide⟩⟩, fun _ => mono_X7_isSheet (Γ := Γ)⟩ (all_cons ⟨call_S (n := 1) (ok_X7_isLane Γ) (rv_X7_isLane (Γ := Γ)) bw_1018 bw_1016 bw_1017 bw_49 no_X7_isLane ⟨⟨rfl, rfl⟩, ⟨by decide, by decide⟩, ⟨by decide, by decide⟩⟩, fun _ => mono_X7_isLane (Γ := Γ)⟩ (all_cons ⟨call_S (n := 3) (ok_X7_lies Γ) (rv_X7_lies (Γ := Γ)) bw_797 bw_795 bw_796 bw_49 no_X7_lies ⟨⟨rfl, rfl⟩, ⟨by decide, by decide⟩, ⟨by decide, by decide⟩⟩, fun _ => mono_X7_lies (Γ := Γ)⟩ (all_cons ⟨call_V (n := 4) (T := TX7) (N := 26) (ok_X7_lacks Γ) (rv_X7_lacks (Γ := Γ)) rfl bw_1023 bw_1020 bw_1022 bw_35 bw_49 no_X7_lacks ⟨⟨rfl, rfl⟩, ⟨by decide, by decide⟩, ⟨by decide, by decide⟩⟩, fun z => by cases z⟩ (all_cons ⟨call_V (n := 5) (T := TX7) (N := 26) (ok_X7_toldKinds Γ) (rv_X7_toldKinds (Γ := Γ)) rfl bw_1031 bw_1028 bw_1030 bw_37 bw_49 no_X7_toldKinds ⟨⟨rfl, rfl⟩, ⟨by decide, by decide⟩, ⟨by decide, by decide⟩⟩, fun z => by cases z⟩ (all_cons ⟨call_V (n := 5) (T := TX7) (N := 26) (ok_X7_toldWants Γ) (rv_X7_toldWants (Γ := Γ)) rfl bw_1039 bw_1036 bw_1038 bw_39 bw_49 no_X7_toldWants ⟨⟨rfl, rfl⟩, ⟨by decide, by decide⟩, ⟨by decide, by decide⟩⟩, fun z => by cases z⟩ (all_cons ⟨call_V (n := 5) (T := TX7) (N := 26) (ok_X7_toldRules Γ) (rv_X7_toldRules (Γ := Γ)) rfl bw_1043 bw_1040 bw_1042 bw_40 bw_49 no_X7_toldRules ⟨⟨rfl, rfl⟩, ⟨by decide, by decide⟩, ⟨by decide, by decide⟩⟩, fun z => by cases z⟩ (all_nil))))))))))
set_option maxRecDepth 20000 in
theorem ok_X7_told (Γ : Cx) : Ok Γ yX7_told mX7_told (sp_X7_told Γ) := by
  refine ok_intro (by decide +kernel) rfl rfl ?_
  intro av σ K h
  obtain ⟨x, y, z, u, v, w, t, h⟩ := h
  obtain ⟨lab, ⟨a, ad⟩, ⟨sc, ar, it⟩, ψ, ψ', r, rfl, hM, hR, hrel, h⟩ := h
  try simp only at h
  obtain ⟨⟨m1, -⟩, e1, -⟩ := id hM
  obtain ⟨⟨p1, p2, p3, p4, pI, p5, p6, p7⟩, hImg, h16, hT, hSh⟩ := id hR
  have hP := pI.P5
  simp only at p1 p2 p3 p4 p5 p6 p7 hImg h16 hT hSh
  simp only [ME] at m1 e1
  obtain ⟨hψ, hrel⟩ := hrel
  rw [hψ] at h
  have no : ¬ okT ψ x y z u w t → K (some (.int (-1))) σ := fun o => by
    obtain ⟨-, hr⟩ := hrel.resolve_right (fun w => o w.1)
    rw [hr] at h
    exact h _ _ hR frm.rf hM
  rw [p1] at e1
  refine ⟨Nat.le_of_ble_eq_true rfl, yvc_ok (uX7_told Γ) (S := [58]) 60 _ _ _ _ ?_⟩
  simp only [lv_args, Value.category, m1, e1, sp_X7_isOne, sp_X7_isDoor, sp_X7_isSheet, sp_X7_isLane, sp_X6_isDoor, sp_X7_lies, inL_18, inL_02, bI_eq0, Bool.not_eq_false, yvc_s, s1i, s2i, s1l, s2l, sil, s1r, sir, siir, slir, srir, svr, sd1, sd2, lg, lput, ldel, isL_i, isL_r, isL_l, jmp, obj, obj1, fI, fR, arI, arL, arR, hput, f4_0, f4_1, f4_2, f4_3, lc_0, lc_1, rok_i, rok_b, rok_y, strF, fput_1, fput_2, csum_nil, csum_i, csum_l, csum_r, va_up_self, bx_uu, Int.reduceAdd, List.elem_nil, List.elem_cons, List.take_succ_cons, List.take_zero, List.drop_succ_cons, List.drop_zero, List.take_nil, List.drop_nil, List.reverse_cons, List.reverse_nil, List.nil_append, List.cons_append, List.append_nil, Option.toList_some, Option.toList_none, List.getElem?_cons_zero, List.getElem?_cons_succ, List.set_cons_zero, List.set_cons_succ, List.length_cons, List.length_nil, reduceIte, reduceCtorEq, and_true, true_and, and_self, or_true, true_or, false_and, and_false, not_true_eq_false, not_false_eq_true, true_implies, false_implies, implies_true, Nat.reduceAdd, Nat.reduceLT, Nat.reduceEqDiff, Nat.reduceLeDiff, Nat.reduceBEq, Nat.zero_add, Nat.lt_add_one, Bool.false_eq_true, Bool.or_false, Bool.or_true, Bool.or_self, Nat.zero_ne_one, Nat.one_ne_zero, ite_true, ite_false, ne_eq, Nat.reduceSub, Nat.succ_eq_add_one, Nat.zero_lt_succ, Nat.add_one_ne_zero, false_or, or_false, mX7_told_c, mX7_told_n, mX7_told_r, mX7_told_l, dX7_told_0, dX7_told_1, dX7_told_2, dX7_told_5, tg_5_51, cnd1_eq, dX7_told_8, dX7_told_9, dX7_told_12, tg_12_44, dX7_told_15, dX7_told_16, dX7_told_19, tg_19_37, dX7_told_22, dX7_told_24, dX7_told_27, tg_27_29, dX7_told_30, dX7_told_32, dX7_told_33, dX7_told_34, cl_7_225, dX7_told_37, dX7_told_40, tg_40_16, dX7_told_43, dX7_told_45, dX7_told_46, dX7_told_47, cl_7_114, dX7_told_50, dX7_told_53, tg_53_5, cnd1_ne, dX7_told_56, ic_m1, dX7_told_57, dX7_told_58, dX7_told_59, dX7_told_60, dX7_told_62, dX7_told_64, dX7_told_66, dX7_told_69, dX7_told_71, dX7_told_73, tg_73_6, dX7_told_76, dX7_told_78, dX7_told_79, dX7_told_81, tg_81_17, dX7_told_84, dX7_told_85, dX7_told_86, dX7_told_87, dX7_told_88, dX7_told_90, dX7_told_92, dX7_told_95, tg_95_34, dX7_told_98, dX7_told_100, ic_1, dX7_told_101, tg_101_17, cnd2_ne, dX7_told_104, dX7_told_105, dX7_told_106, dX7_told_107, dX7_told_108, dX7_told_110, dX7_told_112, dX7_told_115, tg_115_14, dX7_told_118, dX7_told_119, dX7_told_120, dX7_told_121, dX7_told_122, dX7_told_124, dX7_told_126, dX7_told_129, jX7_told_0_107, jX7_told_1_111, jX7_told_1_219, jX7_told_1_222, jX7_told_1_63, jX7_told_0_227, jX7_told_0_231, jX7_told_0_235, jX7_told_0_238, st_aload_n, st_goto, st_i2l, st_iconst, st_ifCond, st_if_icmp, st_iload, st_iload_n, st_invokestatic, st_invokevirtual, st_ireturn, st_istore, st_lconst, st_ldc2_w]
  refine ⟨fun c => no (fun t => by rw [t.1] at c; cases c), fun c1 => ⟨fun c => no (fun t => by rw [t.2.1] at c; cases c), fun c2 => ⟨fun c => no (fun t => by rw [t.2.2.1] at c; cases c), fun c3 => ⟨fun c => no (fun t => by rw [t.2.2.2.1] at c; cases c), fun c4 => ⟨fun c => no (fun t => by rw [t.2.2.2.2.1] at c; cases c), fun c5 => ⟨fun c6 => ?_, fun c => no (fun t => c t.2.2.2.2.2)⟩⟩⟩⟩⟩⟩
  obtain ⟨-, hrel⟩ := hrel.resolve_left (fun o => o.1 ⟨c1, c2, c3, c4, c5, c6⟩)
  obtain ⟨p, hp, rfl⟩ := has_n hP c1
  obtain ⟨d, hd, rfl⟩ := door_n c2
  obtain ⟨q, hq, rfl⟩ := door_n c3
  obtain ⟨N, hN0, hN, rfl⟩ := in1_n (B := 8) (by decide) c5
  obtain ⟨d2, d3⟩ := in4q hq
  rw [d3] at hrel
  obtain ⟨g1, g2, g3, g4⟩ := hSh q hq
  have hz := g1
  rw [← g2] at hz
  refine yvc1_ok (uX7_told Γ) (S := [58]) 60 ?_
  simp only [yvc1, yvc_s, s1i, s2i, s1l, s2l, sil, s1r, sir, siir, slir, srir, svr, sd1, sd2, lg, lput, ldel, isL_i, isL_r, isL_l, jmp, obj, obj1, fI, fR, arI, arL, arR, hput, f4_0, f4_1, f4_2, f4_3, lc_0, lc_1, rok_i, rok_b, rok_y, strF, fput_1, fput_2, csum_nil, csum_i, csum_l, csum_r, va_up_self, bx_uu, Int.reduceAdd, List.elem_nil, List.elem_cons, List.take_succ_cons, List.take_zero, List.drop_succ_cons, List.drop_zero, List.take_nil, List.drop_nil, List.reverse_cons, List.reverse_nil, List.nil_append, List.cons_append, List.append_nil, Option.toList_some, Option.toList_none, List.getElem?_cons_zero, List.getElem?_cons_succ, List.set_cons_zero, List.set_cons_succ, List.length_cons, List.length_nil, reduceIte, reduceCtorEq, and_true, true_and, and_self, or_true, true_or, false_and, and_false, not_true_eq_false, not_false_eq_true, true_implies, false_implies, implies_true, Nat.reduceAdd, Nat.reduceLT, Nat.reduceEqDiff, Nat.reduceLeDiff, Nat.reduceBEq, Nat.zero_add, Nat.lt_add_one, Bool.false_eq_true, Bool.or_false, Bool.or_true, Bool.or_self, Nat.zero_ne_one, Nat.one_ne_zero, ite_true, ite_false, ne_eq, Nat.reduceSub, Nat.succ_eq_add_one, Nat.zero_lt_succ, Nat.add_one_ne_zero, false_or, or_false, mX7_told_c, mX7_told_n, mX7_told_r, mX7_told_l, dX7_told_0, dX7_told_1, dX7_told_2, dX7_told_5, tg_5_51, cnd1_eq, dX7_told_8, dX7_told_9, dX7_told_12, tg_12_44, dX7_told_15, dX7_told_16, dX7_told_19, tg_19_37, dX7_told_22, dX7_told_24, dX7_told_27, tg_27_29, dX7_told_30, dX7_told_32, dX7_told_33, dX7_told_34, cl_7_225, dX7_told_37, dX7_told_40, tg_40_16, dX7_told_43, dX7_told_45, dX7_told_46, dX7_told_47, cl_7_114, dX7_told_50, dX7_told_53, tg_53_5, cnd1_ne, dX7_told_56, ic_m1, dX7_told_57, dX7_told_58, dX7_told_59, dX7_told_60, dX7_told_62, dX7_told_64, dX7_told_66, dX7_told_69, dX7_told_71, dX7_told_73, tg_73_6, dX7_told_76, dX7_told_78, dX7_told_79, dX7_told_81, tg_81_17, dX7_told_84, dX7_told_85, dX7_told_86, dX7_told_87, dX7_told_88, dX7_told_90, dX7_told_92, dX7_told_95, tg_95_34, dX7_told_98, dX7_told_100, ic_1, dX7_told_101, tg_101_17, cnd2_ne, dX7_told_104, dX7_told_105, dX7_told_106, dX7_told_107, dX7_told_108, dX7_told_110, dX7_told_112, dX7_told_115, tg_115_14, dX7_told_118, dX7_told_119, dX7_told_120, dX7_told_121, dX7_told_122, dX7_told_124, dX7_told_126, dX7_told_129, jX7_told_0_107, jX7_told_1_111, jX7_told_1_219, jX7_told_1_222, jX7_told_1_63, jX7_told_0_227, jX7_told_0_231, jX7_told_0_235, jX7_told_0_238, st_aload_n, st_goto, st_i2l, st_iconst, st_ifCond, st_if_icmp, st_iload, st_iload_n, st_invokestatic, st_invokevirtual, st_ireturn, st_istore, st_lconst, st_ldc2_w]
  refine ⟨q, u, v, nI N, lab, (a, ad), (sc, ar, it), rfl, hM, ⟨hq, hz⟩, ?_⟩
  simp only [g2, g3]
  refine yvc_ok (uX7_told Γ) (S := [79]) 60 _ _ _ _ ?_
  simp only [yvc_s, s1i, s2i, s1l, s2l, sil, s1r, sir, siir, slir, srir, svr, sd1, sd2, lg, lput, ldel, isL_i, isL_r, isL_l, jmp, obj, obj1, fI, fR, arI, arL, arR, hput, f4_0, f4_1, f4_2, f4_3, lc_0, lc_1, rok_i, rok_b, rok_y, strF, fput_1, fput_2, csum_nil, csum_i, csum_l, csum_r, va_up_self, bx_uu, Int.reduceAdd, List.elem_nil, List.elem_cons, List.take_succ_cons, List.take_zero, List.drop_succ_cons, List.drop_zero, List.take_nil, List.drop_nil, List.reverse_cons, List.reverse_nil, List.nil_append, List.cons_append, List.append_nil, Option.toList_some, Option.toList_none, List.getElem?_cons_zero, List.getElem?_cons_succ, List.set_cons_zero, List.set_cons_succ, List.length_cons, List.length_nil, reduceIte, reduceCtorEq, and_true, true_and, and_self, or_true, true_or, false_and, and_false, not_true_eq_false, not_false_eq_true, true_implies, false_implies, implies_true, Nat.reduceAdd, Nat.reduceLT, Nat.reduceEqDiff, Nat.reduceLeDiff, Nat.reduceBEq, Nat.zero_add, Nat.lt_add_one, Bool.false_eq_true, Bool.or_false, Bool.or_true, Bool.or_self, Nat.zero_ne_one, Nat.one_ne_zero, ite_true, ite_false, ne_eq, Nat.reduceSub, Nat.succ_eq_add_one, Nat.zero_lt_succ, Nat.add_one_ne_zero, false_or, or_false, mX7_told_c, mX7_told_n, mX7_told_r, mX7_told_l, dX7_told_0, dX7_told_1, dX7_told_2, dX7_told_5, tg_5_51, cnd1_eq, dX7_told_8, dX7_told_9, dX7_told_12, tg_12_44, dX7_told_15, dX7_told_16, dX7_told_19, tg_19_37, dX7_told_22, dX7_told_24, dX7_told_27, tg_27_29, dX7_told_30, dX7_told_32, dX7_told_33, dX7_told_34, cl_7_225, dX7_told_37, dX7_told_40, tg_40_16, dX7_told_43, dX7_told_45, dX7_told_46, dX7_told_47, cl_7_114, dX7_told_50, dX7_told_53, tg_53_5, cnd1_ne, dX7_told_56, ic_m1, dX7_told_57, dX7_told_58, dX7_told_59, dX7_told_60, dX7_told_62, dX7_told_64, dX7_told_66, dX7_told_69, dX7_told_71, dX7_told_73, tg_73_6, dX7_told_76, dX7_told_78, dX7_told_79, dX7_told_81, tg_81_17, dX7_told_84, dX7_told_85, dX7_told_86, dX7_told_87, dX7_told_88, dX7_told_90, dX7_told_92, dX7_told_95, tg_95_34, dX7_told_98, dX7_told_100, ic_1, dX7_told_101, tg_101_17, cnd2_ne, dX7_told_104, dX7_told_105, dX7_told_106, dX7_told_107, dX7_told_108, dX7_told_110, dX7_told_112, dX7_told_115, tg_115_14, dX7_told_118, dX7_told_119, dX7_told_120, dX7_told_121, dX7_told_122, dX7_told_124, dX7_told_126, dX7_told_129, jX7_told_0_107, jX7_told_1_111, jX7_told_1_219, jX7_told_1_222, jX7_told_1_63, jX7_told_0_227, jX7_told_0_231, jX7_told_0_235, jX7_told_0_238, st_aload_n, st_goto, st_i2l, st_iconst, st_ifCond, st_if_icmp, st_iload, st_iload_n, st_invokestatic, st_invokevirtual, st_ireturn, st_istore, st_lconst, st_ldc2_w]
  refine ⟨fun c7 => ?_, fun c7 => ?_⟩
  · obtain ⟨-, hT⟩ := hrel.resolve_left (fun o => o.1 c7)
    obtain ⟨r1, r2, r3⟩ := rfz_0 c7
    obtain ⟨I, N', k, rfl, e7, e8, e9, e10⟩ := span_n g1 r1 r3
    have hNN : N = N' := by
      rcases Nat.lt_or_ge N' (2 ^ 31) with z | z
      · exact (nI_eq (by omega) z).mp e7
      · omega
    subst hNN
    rw [nI_clamp (show p < 2 ^ 31 by omega), nI_clamp (show d < 2 ^ 31 by omega), nI_clamp (show I < 2 ^ 31 by omega), nI_clamp (show N < 2 ^ 31 by omega)] at hT
    generalize rfz (ψ.2.2.2.2.2.2 q).2.1 (ψ.2.2.2.2.2.2 q).2.2 u (nI I) (nI N) = rf
    have hPr : ∀ wh, t = wh → tdP ψ wh p d q I N r (sc, ar, it) := fun wh e => ⟨hR, hp, hd, hq, by omega, ⟨k, e10, e8, e9⟩, by rw [← e]; exact hT⟩
    refine yvc1_ok (uX7_told Γ) (S := [79]) 60 ?_
    simp only [yvc1, yvc_s, s1i, s2i, s1l, s2l, sil, s1r, sir, siir, slir, srir, svr, sd1, sd2, lg, lput, ldel, isL_i, isL_r, isL_l, jmp, obj, obj1, fI, fR, arI, arL, arR, hput, f4_0, f4_1, f4_2, f4_3, lc_0, lc_1, rok_i, rok_b, rok_y, strF, fput_1, fput_2, csum_nil, csum_i, csum_l, csum_r, va_up_self, bx_uu, Int.reduceAdd, List.elem_nil, List.elem_cons, List.take_succ_cons, List.take_zero, List.drop_succ_cons, List.drop_zero, List.take_nil, List.drop_nil, List.reverse_cons, List.reverse_nil, List.nil_append, List.cons_append, List.append_nil, Option.toList_some, Option.toList_none, List.getElem?_cons_zero, List.getElem?_cons_succ, List.set_cons_zero, List.set_cons_succ, List.length_cons, List.length_nil, reduceIte, reduceCtorEq, and_true, true_and, and_self, or_true, true_or, false_and, and_false, not_true_eq_false, not_false_eq_true, true_implies, false_implies, implies_true, Nat.reduceAdd, Nat.reduceLT, Nat.reduceEqDiff, Nat.reduceLeDiff, Nat.reduceBEq, Nat.zero_add, Nat.lt_add_one, Bool.false_eq_true, Bool.or_false, Bool.or_true, Bool.or_self, Nat.zero_ne_one, Nat.one_ne_zero, ite_true, ite_false, ne_eq, Nat.reduceSub, Nat.succ_eq_add_one, Nat.zero_lt_succ, Nat.add_one_ne_zero, false_or, or_false, mX7_told_c, mX7_told_n, mX7_told_r, mX7_told_l, dX7_told_0, dX7_told_1, dX7_told_2, dX7_told_5, tg_5_51, cnd1_eq, dX7_told_8, dX7_told_9, dX7_told_12, tg_12_44, dX7_told_15, dX7_told_16, dX7_told_19, tg_19_37, dX7_told_22, dX7_told_24, dX7_told_27, tg_27_29, dX7_told_30, dX7_told_32, dX7_told_33, dX7_told_34, cl_7_225, dX7_told_37, dX7_told_40, tg_40_16, dX7_told_43, dX7_told_45, dX7_told_46, dX7_told_47, cl_7_114, dX7_told_50, dX7_told_53, tg_53_5, cnd1_ne, dX7_told_56, ic_m1, dX7_told_57, dX7_told_58, dX7_told_59, dX7_told_60, dX7_told_62, dX7_told_64, dX7_told_66, dX7_told_69, dX7_told_71, dX7_told_73, tg_73_6, dX7_told_76, dX7_told_78, dX7_told_79, dX7_told_81, tg_81_17, dX7_told_84, dX7_told_85, dX7_told_86, dX7_told_87, dX7_told_88, dX7_told_90, dX7_told_92, dX7_told_95, tg_95_34, dX7_told_98, dX7_told_100, ic_1, dX7_told_101, tg_101_17, cnd2_ne, dX7_told_104, dX7_told_105, dX7_told_106, dX7_told_107, dX7_told_108, dX7_told_110, dX7_told_112, dX7_told_115, tg_115_14, dX7_told_118, dX7_told_119, dX7_told_120, dX7_told_121, dX7_told_122, dX7_told_124, dX7_told_126, dX7_told_129, jX7_told_0_107, jX7_told_1_111, jX7_told_1_219, jX7_told_1_222, jX7_told_1_63, jX7_told_0_227, jX7_told_0_231, jX7_told_0_235, jX7_told_0_238, st_aload_n, st_goto, st_i2l, st_iconst, st_ifCond, st_if_icmp, st_iload, st_iload_n, st_invokestatic, st_invokevirtual, st_ireturn, st_istore, st_lconst, st_ldc2_w]
    refine ⟨fun t0 => ⟨fun t1 => ?_, fun t1 => ?_⟩, fun t0 => ?_⟩
    · have t2 := no_cases c6 t0 t1
      refine ⟨ψ, p, d, q, I, N, r, lab, (a, ad), _, rfl, hM, hPr 2 t2, ?_⟩
      rintro σ1 s1 r1 ⟨hR1, rfl⟩ hf1 hM1
      have hk := h σ1 s1 hR1 hf1 hM1
      refine yvc_ok (uX7_told Γ) (S := []) 60 _ _ _ _ ?_
      simp only [yvc_s, s1i, s2i, s1l, s2l, sil, s1r, sir, siir, slir, srir, svr, sd1, sd2, lg, lput, ldel, isL_i, isL_r, isL_l, jmp, obj, obj1, fI, fR, arI, arL, arR, hput, f4_0, f4_1, f4_2, f4_3, lc_0, lc_1, rok_i, rok_b, rok_y, strF, fput_1, fput_2, csum_nil, csum_i, csum_l, csum_r, va_up_self, bx_uu, Int.reduceAdd, List.elem_nil, List.elem_cons, List.take_succ_cons, List.take_zero, List.drop_succ_cons, List.drop_zero, List.take_nil, List.drop_nil, List.reverse_cons, List.reverse_nil, List.nil_append, List.cons_append, List.append_nil, Option.toList_some, Option.toList_none, List.getElem?_cons_zero, List.getElem?_cons_succ, List.set_cons_zero, List.set_cons_succ, List.length_cons, List.length_nil, reduceIte, reduceCtorEq, and_true, true_and, and_self, or_true, true_or, false_and, and_false, not_true_eq_false, not_false_eq_true, true_implies, false_implies, implies_true, Nat.reduceAdd, Nat.reduceLT, Nat.reduceEqDiff, Nat.reduceLeDiff, Nat.reduceBEq, Nat.zero_add, Nat.lt_add_one, Bool.false_eq_true, Bool.or_false, Bool.or_true, Bool.or_self, Nat.zero_ne_one, Nat.one_ne_zero, ite_true, ite_false, ne_eq, Nat.reduceSub, Nat.succ_eq_add_one, Nat.zero_lt_succ, Nat.add_one_ne_zero, false_or, or_false, mX7_told_c, mX7_told_n, mX7_told_r, mX7_told_l, dX7_told_0, dX7_told_1, dX7_told_2, dX7_told_5, tg_5_51, cnd1_eq, dX7_told_8, dX7_told_9, dX7_told_12, tg_12_44, dX7_told_15, dX7_told_16, dX7_told_19, tg_19_37, dX7_told_22, dX7_told_24, dX7_told_27, tg_27_29, dX7_told_30, dX7_told_32, dX7_told_33, dX7_told_34, cl_7_225, dX7_told_37, dX7_told_40, tg_40_16, dX7_told_43, dX7_told_45, dX7_told_46, dX7_told_47, cl_7_114, dX7_told_50, dX7_told_53, tg_53_5, cnd1_ne, dX7_told_56, ic_m1, dX7_told_57, dX7_told_58, dX7_told_59, dX7_told_60, dX7_told_62, dX7_told_64, dX7_told_66, dX7_told_69, dX7_told_71, dX7_told_73, tg_73_6, dX7_told_76, dX7_told_78, dX7_told_79, dX7_told_81, tg_81_17, dX7_told_84, dX7_told_85, dX7_told_86, dX7_told_87, dX7_told_88, dX7_told_90, dX7_told_92, dX7_told_95, tg_95_34, dX7_told_98, dX7_told_100, ic_1, dX7_told_101, tg_101_17, cnd2_ne, dX7_told_104, dX7_told_105, dX7_told_106, dX7_told_107, dX7_told_108, dX7_told_110, dX7_told_112, dX7_told_115, tg_115_14, dX7_told_118, dX7_told_119, dX7_told_120, dX7_told_121, dX7_told_122, dX7_told_124, dX7_told_126, dX7_told_129, jX7_told_0_107, jX7_told_1_111, jX7_told_1_219, jX7_told_1_222, jX7_told_1_63, jX7_told_0_227, jX7_told_0_231, jX7_told_0_235, jX7_told_0_238, st_aload_n, st_goto, st_i2l, st_iconst, st_ifCond, st_if_icmp, st_iload, st_iload_n, st_invokestatic, st_invokevirtual, st_ireturn, st_istore, st_lconst, st_ldc2_w]
      exact hk
    · refine ⟨ψ, p, d, q, I, N, r, lab, (a, ad), _, rfl, hM, hPr 1 (Classical.not_not.mp t1), ?_⟩
      rintro σ1 s1 r1 ⟨hR1, rfl⟩ hf1 hM1
      have hk := h σ1 s1 hR1 hf1 hM1
      refine yvc_ok (uX7_told Γ) (S := []) 60 _ _ _ _ ?_
      simp only [yvc_s, s1i, s2i, s1l, s2l, sil, s1r, sir, siir, slir, srir, svr, sd1, sd2, lg, lput, ldel, isL_i, isL_r, isL_l, jmp, obj, obj1, fI, fR, arI, arL, arR, hput, f4_0, f4_1, f4_2, f4_3, lc_0, lc_1, rok_i, rok_b, rok_y, strF, fput_1, fput_2, csum_nil, csum_i, csum_l, csum_r, va_up_self, bx_uu, Int.reduceAdd, List.elem_nil, List.elem_cons, List.take_succ_cons, List.take_zero, List.drop_succ_cons, List.drop_zero, List.take_nil, List.drop_nil, List.reverse_cons, List.reverse_nil, List.nil_append, List.cons_append, List.append_nil, Option.toList_some, Option.toList_none, List.getElem?_cons_zero, List.getElem?_cons_succ, List.set_cons_zero, List.set_cons_succ, List.length_cons, List.length_nil, reduceIte, reduceCtorEq, and_true, true_and, and_self, or_true, true_or, false_and, and_false, not_true_eq_false, not_false_eq_true, true_implies, false_implies, implies_true, Nat.reduceAdd, Nat.reduceLT, Nat.reduceEqDiff, Nat.reduceLeDiff, Nat.reduceBEq, Nat.zero_add, Nat.lt_add_one, Bool.false_eq_true, Bool.or_false, Bool.or_true, Bool.or_self, Nat.zero_ne_one, Nat.one_ne_zero, ite_true, ite_false, ne_eq, Nat.reduceSub, Nat.succ_eq_add_one, Nat.zero_lt_succ, Nat.add_one_ne_zero, false_or, or_false, mX7_told_c, mX7_told_n, mX7_told_r, mX7_told_l, dX7_told_0, dX7_told_1, dX7_told_2, dX7_told_5, tg_5_51, cnd1_eq, dX7_told_8, dX7_told_9, dX7_told_12, tg_12_44, dX7_told_15, dX7_told_16, dX7_told_19, tg_19_37, dX7_told_22, dX7_told_24, dX7_told_27, tg_27_29, dX7_told_30, dX7_told_32, dX7_told_33, dX7_told_34, cl_7_225, dX7_told_37, dX7_told_40, tg_40_16, dX7_told_43, dX7_told_45, dX7_told_46, dX7_told_47, cl_7_114, dX7_told_50, dX7_told_53, tg_53_5, cnd1_ne, dX7_told_56, ic_m1, dX7_told_57, dX7_told_58, dX7_told_59, dX7_told_60, dX7_told_62, dX7_told_64, dX7_told_66, dX7_told_69, dX7_told_71, dX7_told_73, tg_73_6, dX7_told_76, dX7_told_78, dX7_told_79, dX7_told_81, tg_81_17, dX7_told_84, dX7_told_85, dX7_told_86, dX7_told_87, dX7_told_88, dX7_told_90, dX7_told_92, dX7_told_95, tg_95_34, dX7_told_98, dX7_told_100, ic_1, dX7_told_101, tg_101_17, cnd2_ne, dX7_told_104, dX7_told_105, dX7_told_106, dX7_told_107, dX7_told_108, dX7_told_110, dX7_told_112, dX7_told_115, tg_115_14, dX7_told_118, dX7_told_119, dX7_told_120, dX7_told_121, dX7_told_122, dX7_told_124, dX7_told_126, dX7_told_129, jX7_told_0_107, jX7_told_1_111, jX7_told_1_219, jX7_told_1_222, jX7_told_1_63, jX7_told_0_227, jX7_told_0_231, jX7_told_0_235, jX7_told_0_238, st_aload_n, st_goto, st_i2l, st_iconst, st_ifCond, st_if_icmp, st_iload, st_iload_n, st_invokestatic, st_invokevirtual, st_ireturn, st_istore, st_lconst, st_ldc2_w]
      exact hk
    · refine ⟨ψ, p, d, q, I, N, r, lab, (a, ad), _, rfl, hM, hPr 0 (Classical.not_not.mp t0), ?_⟩
      rintro σ1 s1 r1 ⟨hR1, rfl⟩ hf1 hM1
      have hk := h σ1 s1 hR1 hf1 hM1
      refine yvc_ok (uX7_told Γ) (S := []) 60 _ _ _ _ ?_
      simp only [yvc_s, s1i, s2i, s1l, s2l, sil, s1r, sir, siir, slir, srir, svr, sd1, sd2, lg, lput, ldel, isL_i, isL_r, isL_l, jmp, obj, obj1, fI, fR, arI, arL, arR, hput, f4_0, f4_1, f4_2, f4_3, lc_0, lc_1, rok_i, rok_b, rok_y, strF, fput_1, fput_2, csum_nil, csum_i, csum_l, csum_r, va_up_self, bx_uu, Int.reduceAdd, List.elem_nil, List.elem_cons, List.take_succ_cons, List.take_zero, List.drop_succ_cons, List.drop_zero, List.take_nil, List.drop_nil, List.reverse_cons, List.reverse_nil, List.nil_append, List.cons_append, List.append_nil, Option.toList_some, Option.toList_none, List.getElem?_cons_zero, List.getElem?_cons_succ, List.set_cons_zero, List.set_cons_succ, List.length_cons, List.length_nil, reduceIte, reduceCtorEq, and_true, true_and, and_self, or_true, true_or, false_and, and_false, not_true_eq_false, not_false_eq_true, true_implies, false_implies, implies_true, Nat.reduceAdd, Nat.reduceLT, Nat.reduceEqDiff, Nat.reduceLeDiff, Nat.reduceBEq, Nat.zero_add, Nat.lt_add_one, Bool.false_eq_true, Bool.or_false, Bool.or_true, Bool.or_self, Nat.zero_ne_one, Nat.one_ne_zero, ite_true, ite_false, ne_eq, Nat.reduceSub, Nat.succ_eq_add_one, Nat.zero_lt_succ, Nat.add_one_ne_zero, false_or, or_false, mX7_told_c, mX7_told_n, mX7_told_r, mX7_told_l, dX7_told_0, dX7_told_1, dX7_told_2, dX7_told_5, tg_5_51, cnd1_eq, dX7_told_8, dX7_told_9, dX7_told_12, tg_12_44, dX7_told_15, dX7_told_16, dX7_told_19, tg_19_37, dX7_told_22, dX7_told_24, dX7_told_27, tg_27_29, dX7_told_30, dX7_told_32, dX7_told_33, dX7_told_34, cl_7_225, dX7_told_37, dX7_told_40, tg_40_16, dX7_told_43, dX7_told_45, dX7_told_46, dX7_told_47, cl_7_114, dX7_told_50, dX7_told_53, tg_53_5, cnd1_ne, dX7_told_56, ic_m1, dX7_told_57, dX7_told_58, dX7_told_59, dX7_told_60, dX7_told_62, dX7_told_64, dX7_told_66, dX7_told_69, dX7_told_71, dX7_told_73, tg_73_6, dX7_told_76, dX7_told_78, dX7_told_79, dX7_told_81, tg_81_17, dX7_told_84, dX7_told_85, dX7_told_86, dX7_told_87, dX7_told_88, dX7_told_90, dX7_told_92, dX7_told_95, tg_95_34, dX7_told_98, dX7_told_100, ic_1, dX7_told_101, tg_101_17, cnd2_ne, dX7_told_104, dX7_told_105, dX7_told_106, dX7_told_107, dX7_told_108, dX7_told_110, dX7_told_112, dX7_told_115, tg_115_14, dX7_told_118, dX7_told_119, dX7_told_120, dX7_told_121, dX7_told_122, dX7_told_124, dX7_told_126, dX7_told_129, jX7_told_0_107, jX7_told_1_111, jX7_told_1_219, jX7_told_1_222, jX7_told_1_63, jX7_told_0_227, jX7_told_0_231, jX7_told_0_235, jX7_told_0_238, st_aload_n, st_goto, st_i2l, st_iconst, st_ifCond, st_if_icmp, st_iload, st_iload_n, st_invokestatic, st_invokevirtual, st_ireturn, st_istore, st_lconst, st_ldc2_w]
      exact hk
  · obtain ⟨-, hr⟩ := hrel.resolve_right (fun o => c7 o.1)
    rw [hr] at h
    exact h _ _ hR frm.rf hM
