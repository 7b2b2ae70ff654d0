/-! ===== THE LAW: from its entry ===== -/
theorem lb_58 : Cond.classLink RL 7 RX6 ∈ BW := bw_i 58 (by decide +kernel) (by decide +kernel)
theorem lb_59 : Cond.instantiable RX6 9 ∈ BW := bw_i 59 (by decide +kernel) (by decide +kernel)
theorem lb_42 : Cond.initialized RX6 ∈ BW := bw_i 42 (by decide +kernel) (by decide +kernel)
theorem lb_60 : Cond.methodLink RL 9 yX6_init ∈ BW := bw_i 60 (by decide +kernel) (by decide +kernel)
theorem lb_61 : Cond.instanceMethod yX6_init ∈ BW := bw_i 61 (by decide +kernel) (by decide +kernel)
theorem lb_62 : Cond.code yX6_init cX6_init 1 none ∈ BW := bw_i 62 (by decide +kernel) (by decide +kernel)
theorem nn_L_7 : NewOK RL 7 6 9 [.null, .null, .null, .null, .null, .int 0, .null, .null, .null] := ⟨RX6, TX6, tyX6, rfl, lb_58, lb_59, lb_42, wsIn_6, tyX6_ok, fun j hj => match j, hj with | 0, _ => rfl | 1, _ => rfl | 2, _ => rfl | 3, _ => rfl | 4, _ => rfl | 5, _ => rfl | 6, _ => rfl | 7, _ => rfl | 8, _ => rfl⟩
theorem nl_X6_init : NameOK yX6_init 0 := by unfold NameOK; decide +kernel
theorem li_X6_init {Γ : Cx} {K : Option Value → Hp → Prop} {kn : Nat × Nat} {pc : Nat} {lv : Lv} {st : List Value} {σ : Hp} {b : Nat} (hd : decode mL_law.2.2.1 pc = .ok (.invokespecial 9, 3)) (hcs : csum st ≤ 8) (k1 : kn.1 + mX6_init.1.cells ≤ 600000) (k2 : kn.2 + mX6_init.1.slots ≤ 7302250) (h : sp_X6_init Γ [.ref b] σ (fun v σ' => v = none ∧ YN Γ mL_law K (kn.1 + mX6_init.1.cells, kn.2 + mX6_init.1.slots) (pc + 3) lv st σ')) : YN Γ mL_law K kn pc lv (.ref b :: st) σ := n_init (μ := mL_law) (μ' := mX6_init) (oki_X6_init Γ) rfl lb_62 (Or.inl lb_60) lb_61 lb_42 rfl nl_X6_init ⟨by decide, by decide⟩ hd hcs k1 k2 h
theorem lb_705 : Cond.classLink RL 10 RX7 ∈ BW := bw_i 705 (by decide +kernel) (by decide +kernel)
theorem lb_706 : Cond.instantiable RX7 26 ∈ BW := bw_i 706 (by decide +kernel) (by decide +kernel)
theorem lb_49 : Cond.initialized RX7 ∈ BW := bw_i 49 (by decide +kernel) (by decide +kernel)
theorem lb_707 : Cond.methodLink RL 12 yX7_init ∈ BW := bw_i 707 (by decide +kernel) (by decide +kernel)
theorem lb_708 : Cond.instanceMethod yX7_init ∈ BW := bw_i 708 (by decide +kernel) (by decide +kernel)
theorem lb_709 : Cond.code yX7_init cX7_init 2 none ∈ BW := bw_i 709 (by decide +kernel) (by decide +kernel)
theorem nn_L_10 : NewOK RL 10 7 26 [.int 0, .int 0, .null, .null, .null, .null, .int 0, .int 0, .null, .null, .null, .null, .null, .null, .int 0, .null, .int 0, .int 0, .null, .int 0, .int 0, .int 0, .int 0, .int 0, .null, .null] := ⟨RX7, TX7, tyX7, rfl, lb_705, lb_706, lb_49, wsIn_7, tyX7_ok, fun j hj => match j, hj with | 0, _ => rfl | 1, _ => rfl | 2, _ => rfl | 3, _ => rfl | 4, _ => rfl | 5, _ => rfl | 6, _ => rfl | 7, _ => rfl | 8, _ => rfl | 9, _ => rfl | 10, _ => rfl | 11, _ => rfl | 12, _ => rfl | 13, _ => rfl | 14, _ => rfl | 15, _ => rfl | 16, _ => rfl | 17, _ => rfl | 18, _ => rfl | 19, _ => rfl | 20, _ => rfl | 21, _ => rfl | 22, _ => rfl | 23, _ => rfl | 24, _ => rfl | 25, _ => rfl | n + 26, hj => absurd hj (by omega)⟩
theorem nl_X7_init : NameOK yX7_init 0 := by unfold NameOK; decide +kernel
theorem li_X7_init {Γ : Cx} {K : Option Value → Hp → Prop} {kn : Nat × Nat} {pc : Nat} {lv : Lv} {st : List Value} {σ : Hp} {b : Nat} (hd : decode mL_law.2.2.1 pc = .ok (.invokespecial 12, 3)) (hcs : csum st ≤ 8) (k1 : kn.1 + mX7_init.1.cells ≤ 600000) (k2 : kn.2 + mX7_init.1.slots ≤ 7302250) (h : sp_X7_init Γ [.ref b] σ (fun v σ' => v = none ∧ YN Γ mL_law K (kn.1 + mX7_init.1.cells, kn.2 + mX7_init.1.slots) (pc + 3) lv st σ')) : YN Γ mL_law K kn pc lv (.ref b :: st) σ := n_init (μ := mL_law) (μ' := mX7_init) (oki_X7_init Γ) rfl lb_709 (Or.inl lb_707) lb_708 lb_49 rfl nl_X7_init ⟨by decide, by decide⟩ hd hcs k1 k2 h
theorem lb_67 : Cond.instantiable RX0 9 ∈ BW := bw_i 67 (by decide +kernel) (by decide +kernel)
theorem lb_135 : Cond.instantiable RX1 5 ∈ BW := bw_i 135 (by decide +kernel) (by decide +kernel)
theorem lb_128 : Cond.instantiable RX2 2 ∈ BW := bw_i 128 (by decide +kernel) (by decide +kernel)
theorem lb_169 : Cond.instantiable RX3 3 ∈ BW := bw_i 169 (by decide +kernel) (by decide +kernel)
theorem lb_189 : Cond.instantiable RX4 3 ∈ BW := bw_i 189 (by decide +kernel) (by decide +kernel)
theorem lb_152 : Cond.instantiable RX5 3 ∈ BW := bw_i 152 (by decide +kernel) (by decide +kernel)
theorem YN.ofYG {Γ : Cx} {μ : Mt} {K : Option Value → Hp → Prop} {kn : Nat × Nat} {pc : Nat} {lv : Lv} {st : List Value} {σ : Hp} (h3 : μ.2.2.2.2.2.1 = (μ.1.cells, μ.1.slots)) (h1 : kn.1 ≤ μ.1.cells) (h2 : kn.2 ≤ μ.1.slots) (h : YG Γ μ K pc lv st σ) : YN Γ μ K kn pc lv st σ := fun p e s m args below meth c H locs ls F B S hl _ => by
  have := h p e s m args below meth c H locs ls F B S hl
  rw [h3] at this
  exact W.widen h1 h2 this
theorem XW.ext {Γ : Cx} {lab lab' : Nat → Nat} {X : XA} {ψ : XS} {σ σ' : Hp} (h : XW Γ lab X ψ σ) (hE : ∀ q, q ∈ σ.1 → q ∈ σ'.1 ∧ lab' q = lab q ∧ σ'.2 q = σ.2 q) : XW Γ lab' X ψ σ' := by
  have E : ExtA lab lab' σ σ' := hE
  obtain ⟨⟨a1, a2, a3, a4⟩, b, ⟨f, c1, c2⟩, d, ⟨⟨t, e⟩, e'⟩, g, i, j, ⟨⟨p, k⟩, k', k''⟩, ⟨⟨q, l⟩, l'⟩, n⟩ := h
  have E2 := E.loc loc_col (P := colL Γ X.2.2.2.1 t 2) ⟨e, e'⟩
  have E6 := E.loc loc_tap (P := tapL Γ X.2.2.2.2.2.2.2.1 ψ.2.2.2.2.2.1.1 ψ.2.2.2.2.2.1.2 p 6) ⟨k, k'⟩
  have E7 := E.loc loc_pla (P := plaL Γ X.2.2.2.2.2.2.2.2.1 q 7) ⟨l, l'⟩
  exact ⟨⟨(hE _ a1).1, (hE _ a2).1, (hE _ a1).2.1.trans a3, (hE _ a2).2.1.trans a4⟩, (hE _ a1).2.2.trans b, ⟨f, (hE _ a2).2.2.trans c1, c2⟩, E.loc loc_col (P := colL Γ X.2.2.1 ψ.1 1) d, ⟨⟨t, E2.1⟩, E2.2⟩, E.loc loc_pas (P := pasL Γ X.2.2.2.2.1 ψ.2.2.1.1 ψ.2.2.1.2 3) g, E.loc loc_col (P := colL Γ X.2.2.2.2.2.1 ψ.2.1 4) i, E.loc loc_pas (P := pasL Γ X.2.2.2.2.2.2.1 ψ.2.2.2.1.1 ψ.2.2.2.1.2 5) j, ⟨⟨p, E6.1⟩, E6.2, k''⟩, ⟨⟨q, E7.1⟩, E7.2⟩, fun r hr => E.loc loc_she (P := sheL Γ (X.2.2.2.2.2.2.2.2.2 r) (ψ.2.2.2.2.2.2 r) (8 + r)) (n r hr)⟩
/-- both stand alike at the start -/
theorem r_start {f g : Nat → Int32} {c d : Nat → MC} {ar : Nat → Nat → Int32} (hf : ∀ k, k < 4 → f k = -4) (h : Ar0 ar) : R (c0S f, c0S g, (c, 0), (d, 0), false, (fun _ => 0, 0), fun _ => (fun _ => 0, 0, -1)) (sc0, ar, fun _ => 0) := by
  obtain ⟨h1, h2, h3, h4, h5, h6⟩ := h
  refine ⟨⟨rfl, rfl, rfl, Nat.zero_le _, ⟨0, Nat.zero_le _, ⟨Nat.zero_le _, fun q hq => Or.inl (hf q hq)⟩, fun k hk => absurd hk (Nat.not_lt_zero _), rfl, 0, Nat.le_refl _, rfl⟩, fun q hq => absurd hq (Nat.not_lt_zero _), ⟨fun k hk => absurd hk (Nat.not_lt_zero _), fun q hq => (h2 q hq).trans (hf q hq).symm, h3, h4, h5⟩, fun i hi => absurd hi (Nat.not_lt_zero _)⟩, ⟨rfl, fun z => by cases z⟩, rfl, ⟨rfl, Nat.zero_le _, fun k hk => absurd hk (Nat.not_lt_zero _)⟩, fun j hj => ⟨Or.inl rfl, h6 j hj, ?_, fun z k hz he hk => ?_⟩⟩
  · show ar 12 j = 0
    rw [h1 12 (by decide) (by decide)]
  · exfalso
    have := congrArg Int32.toInt he
    simp only at this
    rw [nI_toInt (by omega), show (-1 : Int32).toInt = -1 by decide] at this
    omega
def σ00 : Hp := ([], fun _ => .inr (0, []))
set_option maxRecDepth 20000 in
theorem law_begin {Γ : Cx} (hL : Γ.2.2.2.2.2.2.2.1 ≤ 4096) : YN Γ mL_law KL (0, 0) 0 [(0, .ref Γ.2.2.2.2.2.2.1)] [] σ00 := by
  refine n_new nn_L_7 dL_law_0 (by decide) (by decide) (fun x hx => ?_)
  have mx : x ∈ (hnew σ00 x (.inr (6, [.null, .null, .null, .null, .null, .int 0, .null, .null, .null]))).1 := hnew_q
  have ex : (hnew σ00 x (.inr (6, [.null, .null, .null, .null, .null, .int 0, .null, .null, .null]))).2 x = .inr (6, [.null, .null, .null, .null, .null, .int 0, .null, .null, .null]) := hnew_at
  generalize hnew σ00 x (.inr (6, [.null, .null, .null, .null, .null, .int 0, .null, .null, .null])) = σ1 at mx ex ⊢
  refine nvc_ok (uL_law Γ) (S := [4]) 2 _ _ _ _ ?_
  simp only [nvc_s, s1i, s2i, s1l, s2l, sil, s1r, sir, siir, slir, srir, svr, sd1, sd2, lg, lput, ldel, isL_i, isL_r, isL_l, jmp, obj, obj1, fI, fR, arI, arL, arR, hput, f4_0, f4_1, f4_2, f4_3, lc_0, lc_1, rok_i, rok_b, rok_y, strF, fput_1, fput_2, csum_nil, csum_i, csum_l, csum_r, va_up_self, bx_uu, Int.reduceAdd, List.elem_nil, List.elem_cons, List.take_succ_cons, List.take_zero, List.drop_succ_cons, List.drop_zero, List.take_nil, List.drop_nil, List.reverse_cons, List.reverse_nil, List.nil_append, List.cons_append, List.append_nil, Option.toList_some, Option.toList_none, List.getElem?_cons_zero, List.getElem?_cons_succ, List.set_cons_zero, List.set_cons_succ, List.length_cons, List.length_nil, ↓reduceIte, reduceCtorEq, and_true, true_and, and_self, or_true, true_or, false_and, and_false, not_true_eq_false, not_false_eq_true, true_implies, false_implies, implies_true, Nat.reduceAdd, Nat.reduceLT, Nat.reduceEqDiff, Nat.reduceLeDiff, Nat.reduceBEq, Nat.zero_add, Nat.lt_add_one, Bool.false_eq_true, Bool.or_false, Bool.or_true, Bool.or_self, Nat.zero_ne_one, Nat.one_ne_zero, ite_true, ite_false, ne_eq, Nat.reduceSub, Nat.succ_eq_add_one, Nat.zero_lt_succ, Nat.add_one_ne_zero, false_or, or_false, mL_law_c, mL_law_n, mL_law_r, mL_law_l, dL_law_0, dL_law_3, dL_law_4, dL_law_7, dL_law_8, dL_law_11, dL_law_12, dL_law_15, dL_law_16, dL_law_17, ic_0, sn_dup, sn_astore_n, sn_istore_n, sn_iconst]
  refine li_X6_init dL_law_4 (Nat.le_of_ble_eq_true rfl) (by decide) (by decide) ⟨x, fun _ => 0, rfl, mx, ex, rfl, ?_⟩
  rintro σ2 lab2 X f g c d rfl E2 hXW hf
  refine ⟨rfl, ?_⟩
  refine nvc_ok (uL_law Γ) (S := [8]) 3 _ _ _ _ ?_
  simp only [nvc_s, s1i, s2i, s1l, s2l, sil, s1r, sir, siir, slir, srir, svr, sd1, sd2, lg, lput, ldel, isL_i, isL_r, isL_l, jmp, obj, obj1, fI, fR, arI, arL, arR, hput, f4_0, f4_1, f4_2, f4_3, lc_0, lc_1, rok_i, rok_b, rok_y, strF, fput_1, fput_2, csum_nil, csum_i, csum_l, csum_r, va_up_self, bx_uu, Int.reduceAdd, List.elem_nil, List.elem_cons, List.take_succ_cons, List.take_zero, List.drop_succ_cons, List.drop_zero, List.take_nil, List.drop_nil, List.reverse_cons, List.reverse_nil, List.nil_append, List.cons_append, List.append_nil, Option.toList_some, Option.toList_none, List.getElem?_cons_zero, List.getElem?_cons_succ, List.set_cons_zero, List.set_cons_succ, List.length_cons, List.length_nil, ↓reduceIte, reduceCtorEq, and_true, true_and, and_self, or_true, true_or, false_and, and_false, not_true_eq_false, not_false_eq_true, true_implies, false_implies, implies_true, Nat.reduceAdd, Nat.reduceLT, Nat.reduceEqDiff, Nat.reduceLeDiff, Nat.reduceBEq, Nat.zero_add, Nat.lt_add_one, Bool.false_eq_true, Bool.or_false, Bool.or_true, Bool.or_self, Nat.zero_ne_one, Nat.one_ne_zero, ite_true, ite_false, ne_eq, Nat.reduceSub, Nat.succ_eq_add_one, Nat.zero_lt_succ, Nat.add_one_ne_zero, false_or, or_false, mL_law_c, mL_law_n, mL_law_r, mL_law_l, dL_law_0, dL_law_3, dL_law_4, dL_law_7, dL_law_8, dL_law_11, dL_law_12, dL_law_15, dL_law_16, dL_law_17, ic_0, sn_dup, sn_astore_n, sn_istore_n, sn_iconst]
  refine n_new nn_L_10 dL_law_8 (by decide) (by decide) (fun a ha => ?_)
  have Ea : ExtA lab2 (labU lab2 a 30) σ2 (hnew σ2 a (.inr (7, [.int 0, .int 0, .null, .null, .null, .null, .int 0, .int 0, .null, .null, .null, .null, .null, .null, .int 0, .null, .int 0, .int 0, .null, .int 0, .int 0, .int 0, .int 0, .int 0, .null, .null]))) := ExtA.new ha
  have ma : a ∈ (hnew σ2 a (.inr (7, [.int 0, .int 0, .null, .null, .null, .null, .int 0, .int 0, .null, .null, .null, .null, .null, .null, .int 0, .null, .int 0, .int 0, .null, .int 0, .int 0, .int 0, .int 0, .int 0, .null, .null]))).1 := hnew_q
  have ea : (hnew σ2 a (.inr (7, [.int 0, .int 0, .null, .null, .null, .null, .int 0, .int 0, .null, .null, .null, .null, .null, .null, .int 0, .null, .int 0, .int 0, .null, .int 0, .int 0, .int 0, .int 0, .int 0, .null, .null]))).2 a = .inr (7, [.int 0, .int 0, .null, .null, .null, .null, .int 0, .int 0, .null, .null, .null, .null, .null, .null, .int 0, .null, .int 0, .int 0, .null, .int 0, .int 0, .int 0, .int 0, .int 0, .null, .null]) := hnew_at
  generalize hnew σ2 a (.inr (7, [.int 0, .int 0, .null, .null, .null, .null, .int 0, .int 0, .null, .null, .null, .null, .null, .null, .int 0, .null, .int 0, .int 0, .null, .int 0, .int 0, .int 0, .int 0, .int 0, .null, .null])) = σ3 at Ea ma ea ⊢
  refine nvc_ok (uL_law Γ) (S := [12]) 2 _ _ _ _ ?_
  simp only [nvc_s, s1i, s2i, s1l, s2l, sil, s1r, sir, siir, slir, srir, svr, sd1, sd2, lg, lput, ldel, isL_i, isL_r, isL_l, jmp, obj, obj1, fI, fR, arI, arL, arR, hput, f4_0, f4_1, f4_2, f4_3, lc_0, lc_1, rok_i, rok_b, rok_y, strF, fput_1, fput_2, csum_nil, csum_i, csum_l, csum_r, va_up_self, bx_uu, Int.reduceAdd, List.elem_nil, List.elem_cons, List.take_succ_cons, List.take_zero, List.drop_succ_cons, List.drop_zero, List.take_nil, List.drop_nil, List.reverse_cons, List.reverse_nil, List.nil_append, List.cons_append, List.append_nil, Option.toList_some, Option.toList_none, List.getElem?_cons_zero, List.getElem?_cons_succ, List.set_cons_zero, List.set_cons_succ, List.length_cons, List.length_nil, ↓reduceIte, reduceCtorEq, and_true, true_and, and_self, or_true, true_or, false_and, and_false, not_true_eq_false, not_false_eq_true, true_implies, false_implies, implies_true, Nat.reduceAdd, Nat.reduceLT, Nat.reduceEqDiff, Nat.reduceLeDiff, Nat.reduceBEq, Nat.zero_add, Nat.lt_add_one, Bool.false_eq_true, Bool.or_false, Bool.or_true, Bool.or_self, Nat.zero_ne_one, Nat.one_ne_zero, ite_true, ite_false, ne_eq, Nat.reduceSub, Nat.succ_eq_add_one, Nat.zero_lt_succ, Nat.add_one_ne_zero, false_or, or_false, mL_law_c, mL_law_n, mL_law_r, mL_law_l, dL_law_0, dL_law_3, dL_law_4, dL_law_7, dL_law_8, dL_law_11, dL_law_12, dL_law_15, dL_law_16, dL_law_17, ic_0, sn_dup, sn_astore_n, sn_istore_n, sn_iconst]
  refine li_X7_init dL_law_12 (Nat.le_of_ble_eq_true rfl) (by decide) (by decide) ⟨a, labU lab2 a 30, rfl, ma, ea, labU_at, ?_⟩
  intro σ4 lab4 ad ar E4 hM hA0
  refine ⟨rfl, ?_⟩
  have hW := hXW.ext (Ea.sub E4 ha)
  have hl := law_loop hL (lab := lab4) (X := X) (m := a) (ad := ad) 512 0 _ _ σ4 (by omega) (by omega) hW hM (r_start (d := d) (g := g) hf hA0)
  rw [nI_0] at hl
  refine nvc_ok (uL_law Γ) (S := [18]) 4 _ _ _ _ ?_
  simp only [nvc_s, s1i, s2i, s1l, s2l, sil, s1r, sir, siir, slir, srir, svr, sd1, sd2, lg, lput, ldel, isL_i, isL_r, isL_l, jmp, obj, obj1, fI, fR, arI, arL, arR, hput, f4_0, f4_1, f4_2, f4_3, lc_0, lc_1, rok_i, rok_b, rok_y, strF, fput_1, fput_2, csum_nil, csum_i, csum_l, csum_r, va_up_self, bx_uu, Int.reduceAdd, List.elem_nil, List.elem_cons, List.take_succ_cons, List.take_zero, List.drop_succ_cons, List.drop_zero, List.take_nil, List.drop_nil, List.reverse_cons, List.reverse_nil, List.nil_append, List.cons_append, List.append_nil, Option.toList_some, Option.toList_none, List.getElem?_cons_zero, List.getElem?_cons_succ, List.set_cons_zero, List.set_cons_succ, List.length_cons, List.length_nil, ↓reduceIte, reduceCtorEq, and_true, true_and, and_self, or_true, true_or, false_and, and_false, not_true_eq_false, not_false_eq_true, true_implies, false_implies, implies_true, Nat.reduceAdd, Nat.reduceLT, Nat.reduceEqDiff, Nat.reduceLeDiff, Nat.reduceBEq, Nat.zero_add, Nat.lt_add_one, Bool.false_eq_true, Bool.or_false, Bool.or_true, Bool.or_self, Nat.zero_ne_one, Nat.one_ne_zero, ite_true, ite_false, ne_eq, Nat.reduceSub, Nat.succ_eq_add_one, Nat.zero_lt_succ, Nat.add_one_ne_zero, false_or, or_false, mL_law_c, mL_law_n, mL_law_r, mL_law_l, dL_law_0, dL_law_3, dL_law_4, dL_law_7, dL_law_8, dL_law_11, dL_law_12, dL_law_15, dL_law_16, dL_law_17, ic_0, sn_dup, sn_astore_n, sn_istore_n, sn_iconst]
  exact YN.ofYG rfl (by decide) (by decide) hl
/-- the end of the law's walk -/
theorem mq_lwz {Γ : Cx} {below : List Frame} {args : Array Value} {s t : State} (hA : ∀ q, Γ.2.2.1 q → s.heap.size ≤ q) (h : MQ below (Qk Γ KL) args s 600000 7302250 Γ.2.2.1 t) : lw_Z below args s t := by
  obtain ⟨o, h1, h2, ⟨⟨v, σ, rfl, hk, -⟩, -⟩, L, ⟨h3, h4, h5⟩, h6⟩ := h
  cases hk
  refine ⟨_, h1, h2, rfl, ⟨_, rfl⟩, h4, h5.1, h5.2.1, h5.2.2.1, h5.2.2.2.1, h5.2.2.2.2.1, fun a c hc => ?_⟩
  obtain ⟨c', g1, g2, g3, g4⟩ := h5.2.2.2.2.2 a c hc
  refine ⟨c', g1, g2, g3, fun i _ => g4 i (fun hm => ?_)⟩
  have z1 := hA _ (h6 _ hm)
  have z2 := (Array.getElem?_eq_some_iff.mp hc).1
  exact absurd z2 (Nat.not_lt.mpr z1)

set_option maxRecDepth 20000 in
theorem kn_start {A : Array Value} {s : State} (hts : ∀ w ∈ BW, w.before A s = true) (c : Nat) : ∃ q : ClassId × (Nat → Nat), ∀ r, kcl[c]? = some r → u_Kn s r.1 r.2.1 r.2.2 q.1 q.2 := by
  match c with
  | 0 =>
    obtain ⟨cC, iS, h⟩ := u_known hts wsIn_0 (hts _ lb_67)
    exact ⟨(cC, iS), fun r hr => by cases hr; exact h⟩
  | 1 =>
    obtain ⟨cC, iS, h⟩ := u_known hts wsIn_1 (hts _ lb_135)
    exact ⟨(cC, iS), fun r hr => by cases hr; exact h⟩
  | 2 =>
    obtain ⟨cC, iS, h⟩ := u_known hts wsIn_2 (hts _ lb_128)
    exact ⟨(cC, iS), fun r hr => by cases hr; exact h⟩
  | 3 =>
    obtain ⟨cC, iS, h⟩ := u_known hts wsIn_3 (hts _ lb_169)
    exact ⟨(cC, iS), fun r hr => by cases hr; exact h⟩
  | 4 =>
    obtain ⟨cC, iS, h⟩ := u_known hts wsIn_4 (hts _ lb_189)
    exact ⟨(cC, iS), fun r hr => by cases hr; exact h⟩
  | 5 =>
    obtain ⟨cC, iS, h⟩ := u_known hts wsIn_5 (hts _ lb_152)
    exact ⟨(cC, iS), fun r hr => by cases hr; exact h⟩
  | 6 =>
    obtain ⟨cC, iS, h⟩ := u_known hts wsIn_6 (hts _ lb_59)
    exact ⟨(cC, iS), fun r hr => by cases hr; exact h⟩
  | 7 =>
    obtain ⟨cC, iS, h⟩ := u_known hts wsIn_7 (hts _ lb_706)
    exact ⟨(cC, iS), fun r hr => by cases hr; exact h⟩
  | n + 8 => exact ⟨(0, fun _ => 0), fun r hr => by simp [kcl] at hr⟩
theorem whole_start {p : Program} {e : Env} {s : State} {m : MethodId} {below : List Frame} {meth : Method} {c : Code} (l : Launch) {b L : Nat} {xs : Nat → Int32} (hL : L ≤ 4096) (C0 : lw_At p s m meth c b L xs) : W p l e room_1 s m #[Value.ref b] below meth c s.heap [] 0 0 (lw_Z below #[Value.ref b] s) (entryFrame m ([Value.ref b] : List Value).toArray 4) := by
  obtain ⟨hx, hb, hr, hml, hown, hts, hX, hbl, hlocks, hgv⟩ := C0
  have htB : ∀ w ∈ BW, w.before #[Value.ref b] s = true := fun w hw => hts w (List.mem_filter.mp hw).1
  have hA : ∀ q : Nat, q < s.heap.size → ¬ (fun q : Nat => s.heap.size ≤ q) q := fun q h => Nat.not_le.mpr h
  obtain ⟨D, hD⟩ := Classical.axiomOfChoice (kn_start htB)
  obtain ⟨c0, k0, p0, a1, a2, a3⟩ := Cond.arrayClass_spec (htB _ bw_126)
  obtain ⟨c1, k1, p1, b1, b2, b3⟩ := Cond.arrayClass_spec (htB _ bw_206)
  have ao1 : (Cond.arrayOver (.object RX1)).before #[Value.ref b] s = true := hts _ (List.mem_of_getElem? (i := 134) (by decide +kernel))
  have ao4 : (Cond.arrayOver (.object RX4)).before #[Value.ref b] s = true := hts _ (List.mem_of_getElem? (i := 188) (by decide +kernel))
  obtain ⟨p2, c2, k2, d1, -, d3, d4, d5⟩ := Cond.arrayOver_spec ao1
  obtain ⟨p3, c3, k3, e1, -, e3, e4, e5⟩ := Cond.arrayOver_spec ao4
  have hs := flat_of_before _ hgv
  have hex : (Cond.exactly (.string "YawnKeys$Tape" 58) "java/lang/String").before #[Value.ref b] s = true := hs _ (by decide +kernel)
  have hco : (Cond.eq (.field (.string "YawnKeys$Tape" 58) "java/lang/String" "coder" "B") (.int 0)).before #[Value.ref b] s = true := hs _ (by decide +kernel)
  have har : (Cond.arrayOf (.field (.string "YawnKeys$Tape" 58) "java/lang/String" "value" "[B") .byte).before #[Value.ref b] s = true := hs _ (by decide +kernel)
  have hle : (Cond.eq (.length (.field (.string "YawnKeys$Tape" 58) "java/lang/String" "value" "[B")) (.int 5)).before #[Value.ref b] s = true := hs _ (by decide +kernel)
  have q0 : (Cond.eq (.elem (.field (.string "YawnKeys$Tape" 58) "java/lang/String" "value" "[B") (.int 0)) (.int 100)).before #[Value.ref b] s = true := hs _ (by decide +kernel)
  have q1 : (Cond.eq (.elem (.field (.string "YawnKeys$Tape" 58) "java/lang/String" "value" "[B") (.int 1)) (.int 99)).before #[Value.ref b] s = true := hs _ (by decide +kernel)
  have q2 : (Cond.eq (.elem (.field (.string "YawnKeys$Tape" 58) "java/lang/String" "value" "[B") (.int 2)) (.int 111)).before #[Value.ref b] s = true := hs _ (by decide +kernel)
  have q3 : (Cond.eq (.elem (.field (.string "YawnKeys$Tape" 58) "java/lang/String" "value" "[B") (.int 3)) (.int 108)).before #[Value.ref b] s = true := hs _ (by decide +kernel)
  have q4 : (Cond.eq (.elem (.field (.string "YawnKeys$Tape" 58) "java/lang/String" "value" "[B") (.int 4)) (.int 98)).before #[Value.ref b] s = true := hs _ (by decide +kernel)
  have hcs : (Cond.eq (.static "java/lang/String" "COMPACT_STRINGS" "Z") (.int 1)).before #[Value.ref b] s = true := hs _ (by decide +kernel)
  obtain ⟨adK, adV, hvS, hev⟩ := vk_Sof (args := #[Value.ref b]) (s := s) (N := 1) (tm := fun _ => (.string "YawnKeys$Tape" 58)) (len := [5]) (byt := [[100, 99, 111, 108, 98]]) (A := fun q : Nat => s.heap.size ≤ q) (fun i hi => by
    have e : i = 0 := (by omega)
    subst e
    decide) (fun i hi => hex) (fun i hi => hco) (fun i hi => har) (fun i hi => by
    have e : i = 0 := (by omega)
    subst e
    exact hle) (fun i hi j hj => by
    obtain rfl : i = 0 := by omega
    have hj : j < 5 := hj
    rcases (show j = 0 ∨ j = 1 ∨ j = 2 ∨ j = 3 ∨ j = 4 by omega) with rfl | rfl | rfl | rfl | rfl
    · exact q0
    · exact q1
    · exact q2
    · exact q3
    · exact q4) (fun i j hi hj hn => absurd (show i = j by omega) hn) hA
  have hsr : (Cond.stringRef "YawnKeys$Tape" 58 "dcolb").before #[Value.ref b] s = true := hts _ (List.mem_of_getElem? (i := 354) (by decide +kernel))
  have hvR : vk_R RX5 58 "dcolb" (adK 0) s := vk_R.of hsr (hev 0 (by decide))
  have hZ : va_Z "java/lang/String" "COMPACT_STRINGS" "Z" (.int 1) (fun q : Nat => s.heap.size ≤ q) s s.heap := va_Zof (hts _ (List.mem_of_getElem? (i := 368) (by decide +kernel))) (hts _ (List.mem_of_getElem? (i := 51) (by decide +kernel))) (va_eqi hcs) hA
  obtain ⟨Γ, hΓ⟩ : ∃ Γ : Cx, Γ = (l, (fun c => (D c).1, fun c => (D c).2), fun q : Nat => s.heap.size ≤ q, fun k => match k with | 0 => c0 | 1 => c1 | 2 => c2 | _ => c3, adK 0, adV 0, b, L, xs) := ⟨_, rfl⟩
  have hE : EV Γ s s.heap := by
    rw [hΓ]
    refine ⟨⟨fun c q hq => hD c q hq, fun k q hq => ?_⟩, fun w hw => ?_, hvR, ⟨fun i hi => ?_, fun i j hi hj _ => by omega⟩, hZ, hX, Nat.not_le.mpr hbl⟩
    · match k, hq with
      | 0, hq => cases hq; exact ⟨fun n z => ⟨fun k h => (by cases h), k0, a2, p0, a3⟩, a1⟩
      | 1, hq => cases hq; exact ⟨fun n z => ⟨fun k h => (by cases h), k1, b2, p1, b3⟩, b1⟩
      | 2, hq => cases hq; exact ⟨fun n z => ⟨fun k h => (by cases h), k2, d3, p2, d4⟩, k2, p2, d3, d4, d1, d5⟩
      | 3, hq => cases hq; exact ⟨fun n z => ⟨fun k h => (by cases h), k3, e3, p3, e4⟩, k3, p3, e3, e4, e1, e5⟩
      | n + 4, hq => simp [tysC] at hq
    · have hw1 := hts w (List.mem_filter.mp hw).1
      have hw2 := (List.mem_filter.mp hw).2
      cases w <;> first | exact va_Nw.of rfl hw1 | exact absurd hw2 (by simp)
    · obtain rfl : i = 0 := by omega
      exact hvS.1 0 hi
  have hF : Fx Γ mL_law p s m #[Value.ref b] meth c := ⟨hx, hb, hml, hown, htB, hr, hlocks, hE, fun q hq => by rw [hΓ]; exact hq⟩
  have hB : Bq Γ σ00 s.heap := ⟨fun k q hq => by simp [σ00, va_pl] at hq, fun i j p q hp => by simp [σ00, va_pl] at hp, fun k q hq => by simp [σ00, va_pl] at hq⟩
  have hl := lv_entry [Value.ref b] (n := 4) (Nat.le_of_ble_eq_true rfl)
  rw [lg_entry_eq]
  have hmain := law_begin (Γ := Γ) (by rw [hΓ]; exact hL)
  have hbb : Γ.2.2.2.2.2.2.1 = b := by rw [hΓ]
  have hll : Γ.1 = l := by rw [hΓ]
  rw [hbb] at hmain
  have hrun := hmain p e s m #[Value.ref b] below meth c s.heap [] _ hF hB va_S.rf hl ⟨fun z => (by cases z), va_AO.of ao1, va_AO.of ao4⟩
  rw [hll] at hrun
  intro T hT X
  obtain ⟨t, g1, g2⟩ := hrun T hT X
  exact ⟨t, g1, mq_lwz (Γ := Γ) (fun q hq => by rw [hΓ] at hq; exact hq) g2⟩
