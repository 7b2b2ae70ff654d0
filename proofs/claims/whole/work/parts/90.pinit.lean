/-! ===== constructors: Past ===== -/
def sp_X2_init (Γ : Cx) : YSp := fun av σ K => ∃ (b i : Nat) (lab : Nat → Nat), av = [.ref b] ∧ b ∈ σ.1 ∧ σ.2 b = .inr (2, [.null, .int 0]) ∧ lab b = i ∧ ∀ (σ' : Hp) (lab' : Nat → Nat) (c : Nat → MC), Ext lab lab' b σ σ' → PastAt Γ (fL lab' i) b c 0 σ' → K none σ'
/-- the first j moments stand -/
def PstN (Γ : Cx) (i : Nat) (lab : Nat → Nat) (p pm : Nat) (m : Nat → MA) (c : Nat → MC) (j : Nat) (σ : Hp) : Prop := (p ∈ σ.1 ∧ pm ∈ σ.1) ∧ (lab p = i ∧ lab pm = i) ∧ σ.2 p = PstE pm 0 ∧ (∃ f, σ.2 pm = rA Γ f ∧ ∀ k, k < j → f k = some (m k).1) ∧ (∀ k, k < j → MomAt Γ (m k) (c k) σ ∧ lab (m k).1 = i ∧ lab (m k).2.1 = i ∧ lab (m k).2.2 = i) ∧ ∀ k l, k < j → l < j → k ≠ l → (m k).1 ≠ (m l).1 ∧ (m k).2.1 ≠ (m l).2.1 ∧ (m k).2.2 ≠ (m l).2.2
theorem bw_132 : Cond.methodLink RX2 3 objectInit ∈ BW := bw_i 132 (by decide +kernel) (by decide +kernel)
theorem ol_X2_init : Cond.methodLink RX2 3 objectInit ∈ BW := bw_132
theorem nw_136 : Cond.methodLinkNest RX2 21 yX1_init "YawnKeys" ∈ nestW := List.mem_filter.mpr ⟨List.mem_of_getElem? (i := 136) (by decide +kernel), rfl⟩
theorem bw_133 : Cond.classLink RX2 9 RX1 ∈ BW := bw_i 133 (by decide +kernel) (by decide +kernel)
theorem nq_X2_init : Cond.classLink RX2 9 RX1 ∈ BW := bw_133
theorem fin_2_2_0 : finT RX2 2 0 := ⟨_, _, _, tyX2 0, rfl, rfl, rfl, by decide +kernel, fun v => ⟨rfl, rfl⟩⟩
theorem bw_135 : Cond.instantiable RX1 5 ∈ BW := bw_i 135 (by decide +kernel) (by decide +kernel)
theorem nn_X2_init_9 : NewOK RX2 9 1 5 [.null, .null, .int 0, .int 0, .int 0] := ⟨RX1, TX1, tyX1, rfl, bw_133, bw_135, bw_43, wsIn_1, tyX1_ok, fun j hj => match j, hj with | 0, _ => rfl | 1, _ => rfl | 2, _ => rfl | 3, _ => rfl | 4, _ => rfl⟩
theorem tg_23_22 : tgo 23 22 = some 45 := by decide
theorem tg_42_m22 : tgo 42 (-22) = some 20 := by decide
def mX2_init : Mt := (⟨2, 25, 240, 40⟩, RX2, cX2_init, 2, none, (0, 0), none)
theorem mX2_init_c : mX2_init.2.2.1 = cX2_init := rfl
theorem mX2_init_n : mX2_init.2.2.2.1 = 2 := rfl
theorem mX2_init_r : mX2_init.2.2.2.2.1 = none := rfl
theorem mX2_init_l : mX2_init.2.2.2.2.2.2 = none := rfl
theorem mX2_init_o : mX2_init.2.1 = RX2 := rfl
theorem mX2_init_k : mX2_init.1.cells = 25 := rfl
theorem mX2_init_s : mX2_init.1.slots = 240 := rfl
theorem uX2_init (Γ : Cx) : TbOK Γ mX2_init (fT fX2, cT kX2, kT []) := tb_ok fX2_ok kX2_ok all_nil
theorem ni_X2_init_21 {Γ : Cx} {K : Option Value → Hp → Prop} {kn : Nat × Nat} {pc : Nat} {lv : Lv} {st : List Value} {σ : Hp} {b : Nat} (hd : decode mX2_init.2.2.1 pc = .ok (.invokespecial 21, 3)) (hcs : csum st ≤ 8) (k1 : kn.1 + 2 ≤ 25) (k2 : kn.2 + 24 ≤ 240) (h : sp_X1_init Γ [.ref b] σ (fun v σ' => v = none ∧ YN Γ mX2_init K (kn.1 + 2, kn.2 + 24) (pc + 3) lv st σ')) : YN Γ mX2_init K kn pc lv (.ref b :: st) σ := n_init (μ := mX2_init) (μ' := mX1_init) (oki_X1_init Γ) rfl bw_73 (Or.inr ⟨_, nw_136⟩) bw_72 bw_43 rfl no_X1_init ⟨by decide, by decide⟩ hd hcs k1 k2 h
theorem in8q {q : Nat} (h : q < 8) : vp_in (nI q) 8 ∧ (nI q).toNatClampNeg = q ∧ ¬ (8 : Int32) ≤ nI q := ⟨vp_in_nI h (by decide), nI_clamp (by omega), nI_ge h (by decide)⟩
theorem ge8p : (8 : Int32) ≤ nI 8 := by decide
theorem momAt_ext {Γ : Cx} {t : MA} {x : MC} {σ σ' : Hp} (h : MomAt Γ t x σ) (h1 : ∀ q, q ∈ σ.1 → q ∈ σ'.1) (e1 : σ'.2 t.1 = σ.2 t.1) (e2 : σ'.2 t.2.1 = σ.2 t.2.1) (e3 : σ'.2 t.2.2 = σ.2 t.2.2) : MomAt Γ t x σ' := by
  obtain ⟨⟨a1, a2, a3⟩, a, b, c⟩ := h
  exact ⟨⟨h1 _ a1, h1 _ a2, h1 _ a3⟩, e1.trans a, by rw [e2]; exact b, by rw [e3]; exact c⟩
set_option maxRecDepth 20000 in
theorem oki_X2_init (Γ : Cx) : OkI Γ yX2_init mX2_init (sp_X2_init Γ) := by
  refine oki_intro (by decide +kernel) rfl rfl ?_
  intro av σ K h
  obtain ⟨b, i, lab, rfl, m1, e1, hlb, h⟩ := h
  have loop : ∀ (n j : Nat) (m : Nat → MA) (c : Nat → MC) (pm : Nat) (lab1 : Nat → Nat) (σ1 : Hp), j + n = 8 → Ext lab lab1 b σ σ1 → pm ∉ σ.1 → PstN Γ i lab1 b pm m c j σ1 → YN Γ mX2_init K (1 + 3 * j, 8 + 29 * j) 20 [(0, .ref b), (1, .int (nI j))] [] σ1 := by
    intro n
    induction n with
    | zero =>
      intro j m c pm lab1 σ1 hj E1 hpm hP
      obtain rfl : j = 8 := by omega
      obtain ⟨⟨a1, a2⟩, ⟨b1, b2⟩, d1, d2, d3, d4⟩ := hP
      have hk := h σ1 lab1 c E1 ⟨pm, m, ⟨⟨a1, a2, Nat.zero_le _⟩, d1, d2, fun k hk => (d3 k hk).1, d4⟩, by
        rintro q (rfl | rfl | ⟨k, hk, rfl | rfl | rfl⟩)
        · exact b1
        · exact b2
        · exact (d3 k hk).2.1
        · exact (d3 k hk).2.2.1
        · exact (d3 k hk).2.2.2⟩
      refine nvc1_ok (uX2_init Γ) (S := [26]) 5 ?_
      simp only [nvc1, ge8p, Nat.reduceMul, nvc_s, s1i, s2i, s1l, s2l, sil, s1r, sir, siir, slir, srir, svr, sd1, sd2, lg, lput, ldel, isL_i, isL_r, isL_l, jmp, obj, obj1, fI, fR, arI, arL, arR, hput, f4_0, f4_1, f4_2, f4_3, lc_0, lc_1, rok_i, rok_b, rok_y, strF, fput_1, fput_2, csum_nil, csum_i, csum_l, csum_r, va_up_self, bx_uu, Int.reduceAdd, List.elem_nil, List.elem_cons, List.take_succ_cons, List.take_zero, List.drop_succ_cons, List.drop_zero, List.take_nil, List.drop_nil, List.reverse_cons, List.reverse_nil, List.nil_append, List.cons_append, List.append_nil, Option.toList_some, Option.toList_none, List.getElem?_cons_zero, List.getElem?_cons_succ, List.set_cons_zero, List.set_cons_succ, List.length_cons, List.length_nil, reduceIte, reduceCtorEq, and_true, true_and, and_self, or_true, true_or, false_and, and_false, not_true_eq_false, not_false_eq_true, true_implies, false_implies, implies_true, Nat.reduceAdd, Nat.reduceLT, Nat.reduceEqDiff, Nat.reduceLeDiff, Nat.reduceBEq, Nat.zero_add, Nat.lt_add_one, Bool.false_eq_true, Bool.or_false, Bool.or_true, Bool.or_self, Nat.zero_ne_one, Nat.one_ne_zero, ite_true, ite_false, ne_eq, Nat.reduceSub, Nat.succ_eq_add_one, Nat.zero_lt_succ, Nat.add_one_ne_zero, false_or, or_false, or_self, mX2_init_c, mX2_init_n, mX2_init_r, mX2_init_l, mX2_init_o, mX2_init_k, mX2_init_s, dX2_init_0, dX2_init_1, dX2_init_4, dX2_init_5, bc_8, dX2_init_7, dX2_init_10, fl_2_11_2, dX2_init_13, dX2_init_14, ic_0, dX2_init_15, fl_2_17_2, dX2_init_18, dX2_init_19, dX2_init_20, dX2_init_21, dX2_init_23, tg_23_22, cnd2_ge, dX2_init_26, dX2_init_27, dX2_init_30, dX2_init_31, dX2_init_34, dX2_init_35, dX2_init_38, dX2_init_39, ic_1, dX2_init_42, tg_42_m22, dX2_init_45, fin_2_2_0, sn_aastore, sn_aload_n, sn_bipush, sn_dup, sn_getfield, sn_goto, sn_iconst, sn_if_icmp, sn_iinc, sn_iload_n, sn_istore_n, sn_putfield, sn_return]
      exact hk
    | succ n ih =>
      intro j m c pm lab1 σ1 hj E1 hpm hP
      obtain ⟨c2, c3, c1⟩ := in8q (show j < 8 by omega)
      obtain ⟨⟨a1, a2⟩, ⟨b1, b2⟩, d1, ⟨f, d2, d2'⟩, d3, d4⟩ := id hP
      simp only [PstE] at d1
      refine nvc1_ok (uX2_init Γ) (S := [31, 45]) 8 ?_
      simp only [nvc1, c1, a1, d1, nvc_s, s1i, s2i, s1l, s2l, sil, s1r, sir, siir, slir, srir, svr, sd1, sd2, lg, lput, ldel, isL_i, isL_r, isL_l, jmp, obj, obj1, fI, fR, arI, arL, arR, hput, f4_0, f4_1, f4_2, f4_3, lc_0, lc_1, rok_i, rok_b, rok_y, strF, fput_1, fput_2, csum_nil, csum_i, csum_l, csum_r, va_up_self, bx_uu, Int.reduceAdd, List.elem_nil, List.elem_cons, List.take_succ_cons, List.take_zero, List.drop_succ_cons, List.drop_zero, List.take_nil, List.drop_nil, List.reverse_cons, List.reverse_nil, List.nil_append, List.cons_append, List.append_nil, Option.toList_some, Option.toList_none, List.getElem?_cons_zero, List.getElem?_cons_succ, List.set_cons_zero, List.set_cons_succ, List.length_cons, List.length_nil, reduceIte, reduceCtorEq, and_true, true_and, and_self, or_true, true_or, false_and, and_false, not_true_eq_false, not_false_eq_true, true_implies, false_implies, implies_true, Nat.reduceAdd, Nat.reduceLT, Nat.reduceEqDiff, Nat.reduceLeDiff, Nat.reduceBEq, Nat.zero_add, Nat.lt_add_one, Bool.false_eq_true, Bool.or_false, Bool.or_true, Bool.or_self, Nat.zero_ne_one, Nat.one_ne_zero, ite_true, ite_false, ne_eq, Nat.reduceSub, Nat.succ_eq_add_one, Nat.zero_lt_succ, Nat.add_one_ne_zero, false_or, or_false, or_self, mX2_init_c, mX2_init_n, mX2_init_r, mX2_init_l, mX2_init_o, mX2_init_k, mX2_init_s, dX2_init_0, dX2_init_1, dX2_init_4, dX2_init_5, bc_8, dX2_init_7, dX2_init_10, fl_2_11_2, dX2_init_13, dX2_init_14, ic_0, dX2_init_15, fl_2_17_2, dX2_init_18, dX2_init_19, dX2_init_20, dX2_init_21, dX2_init_23, tg_23_22, cnd2_ge, dX2_init_26, dX2_init_27, dX2_init_30, dX2_init_31, dX2_init_34, dX2_init_35, dX2_init_38, dX2_init_39, ic_1, dX2_init_42, tg_42_m22, dX2_init_45, fin_2_2_0, sn_aastore, sn_aload_n, sn_bipush, sn_dup, sn_getfield, sn_goto, sn_iconst, sn_if_icmp, sn_iinc, sn_iload_n, sn_istore_n, sn_putfield, sn_return]
      refine n_new nn_X2_init_9 dX2_init_31 (by show 1 + 3 * j + 1 ≤ 25; omega) (by show 8 + 29 * j + 5 ≤ 240; omega) (fun o ho => ?_)
      have E2 : Ext lab1 (labU lab1 o i) b σ1 (hnew σ1 o (.inr (1, [.null, .null, .int 0, .int 0, .int 0]))) := Ext.new ho
      have mo : o ∈ (hnew σ1 o (.inr (1, [.null, .null, .int 0, .int 0, .int 0]))).1 := hnew_q
      have eo : (hnew σ1 o (.inr (1, [.null, .null, .int 0, .int 0, .int 0]))).2 o = .inr (1, [.null, .null, .int 0, .int 0, .int 0]) := hnew_at
      have keep2 : ∀ q, q ∈ σ1.1 → (hnew σ1 o (.inr (1, [.null, .null, .int 0, .int 0, .int 0]))).2 q = σ1.2 q := fun q hq => hnew_ne (ne_fresh ho hq)
      generalize hnew σ1 o (.inr (1, [.null, .null, .int 0, .int 0, .int 0])) = σ2 at E2 mo eo keep2 ⊢
      refine nvc_ok (uX2_init Γ) (S := [35]) 3 _ _ _ _ ?_
      simp only [nvc_s, s1i, s2i, s1l, s2l, sil, s1r, sir, siir, slir, srir, svr, sd1, sd2, lg, lput, ldel, isL_i, isL_r, isL_l, jmp, obj, obj1, fI, fR, arI, arL, arR, hput, f4_0, f4_1, f4_2, f4_3, lc_0, lc_1, rok_i, rok_b, rok_y, strF, fput_1, fput_2, csum_nil, csum_i, csum_l, csum_r, va_up_self, bx_uu, Int.reduceAdd, List.elem_nil, List.elem_cons, List.take_succ_cons, List.take_zero, List.drop_succ_cons, List.drop_zero, List.take_nil, List.drop_nil, List.reverse_cons, List.reverse_nil, List.nil_append, List.cons_append, List.append_nil, Option.toList_some, Option.toList_none, List.getElem?_cons_zero, List.getElem?_cons_succ, List.set_cons_zero, List.set_cons_succ, List.length_cons, List.length_nil, reduceIte, reduceCtorEq, and_true, true_and, and_self, or_true, true_or, false_and, and_false, not_true_eq_false, not_false_eq_true, true_implies, false_implies, implies_true, Nat.reduceAdd, Nat.reduceLT, Nat.reduceEqDiff, Nat.reduceLeDiff, Nat.reduceBEq, Nat.zero_add, Nat.lt_add_one, Bool.false_eq_true, Bool.or_false, Bool.or_true, Bool.or_self, Nat.zero_ne_one, Nat.one_ne_zero, ite_true, ite_false, ne_eq, Nat.reduceSub, Nat.succ_eq_add_one, Nat.zero_lt_succ, Nat.add_one_ne_zero, false_or, or_false, or_self, mX2_init_c, mX2_init_n, mX2_init_r, mX2_init_l, mX2_init_o, mX2_init_k, mX2_init_s, dX2_init_0, dX2_init_1, dX2_init_4, dX2_init_5, bc_8, dX2_init_7, dX2_init_10, fl_2_11_2, dX2_init_13, dX2_init_14, ic_0, dX2_init_15, fl_2_17_2, dX2_init_18, dX2_init_19, dX2_init_20, dX2_init_21, dX2_init_23, tg_23_22, cnd2_ge, dX2_init_26, dX2_init_27, dX2_init_30, dX2_init_31, dX2_init_34, dX2_init_35, dX2_init_38, dX2_init_39, ic_1, dX2_init_42, tg_42_m22, dX2_init_45, fin_2_2_0, sn_aastore, sn_aload_n, sn_bipush, sn_dup, sn_getfield, sn_goto, sn_iconst, sn_if_icmp, sn_iinc, sn_iload_n, sn_istore_n, sn_putfield, sn_return]
      refine ni_X2_init_21 dX2_init_35 (Nat.le_of_ble_eq_true rfl) (by show 1 + 3 * j + 1 + 2 ≤ 25; omega) (by show 8 + 29 * j + 5 + 24 ≤ 240; omega) ⟨o, i, labU lab1 o i, 1, [], rfl, mo, eo, Or.inl ⟨rfl, rfl⟩, labU_at, ?_⟩
      rintro σ3 lab3 aw ak E3 ⟨⟨mw, mk, nw, nk⟩, ⟨lw, lk⟩, eb, ew, g, ek, hg⟩
      refine ⟨rfl, ?_⟩
      -- all of σ1 stands in σ3
      have all3 : ∀ q, q ∈ σ1.1 → q ∈ σ3.1 ∧ lab3 q = lab1 q ∧ σ3.2 q = σ1.2 q := fun q hq => by
        obtain ⟨u1, u2, -⟩ := E2 q hq
        obtain ⟨v1, v2, v3⟩ := E3 q u1
        exact ⟨v1, v2.trans u2, (v3 (ne_fresh ho hq)).trans (keep2 q hq)⟩
      have hpmo : pm ≠ o := ne_fresh ho a2
      have hbp : b ≠ pm := fun e => hpm (e ▸ m1)
      have o3 := (E3 o mo).1
      have lo3 := ((E3 o mo).2.1).trans (labU_at (lab := lab1) (q := o) (i := i))
      have nw1 : aw ∉ σ1.1 := fun z => nw (E2 aw z).1
      have nk1 : ak ∉ σ1.1 := fun z => nk (E2 ak z).1
      have hwp : aw ≠ pm := fun z => nw1 (z ▸ a2)
      have hkp : ak ≠ pm := fun z => nk1 (z ▸ a2)
      have e3p := (all3 pm a2).2.2.trans d2
      have m3p := (all3 pm a2).1
      simp only [MomE] at eb
      have hi := ih (j + 1) (fun k => if k = j then (o, aw, ak) else m k) (fun k => if k = j then (fun _ => 0, fun _ => -4, 0, 0, 1) else c k) pm lab3 (hput σ3 pm (rA Γ (va_up f j (some o)))) (by omega) (((E1.tr E2).sub E3 (fun z => ho (E1 o z).1)).putQ hpm) hpm (by
        refine ⟨⟨(all3 b a1).1, m3p⟩, ⟨(all3 b a1).2.1.trans b1, (all3 pm a2).2.1.trans b2⟩, ((va_up_ne _ _ hbp).trans (all3 b a1).2.2).trans d1, ⟨_, va_up_self _ _ _, fun k hk => ?_⟩, fun k hk => ?_, fun k l hk hl hne => ?_⟩
        · by_cases e : k = j
          · subst e
            show va_up f k (some o) k = some (if k = k then (o, aw, ak) else m k).1
            rw [va_up_self, if_pos rfl]
          · show va_up f j (some o) k = some (if k = j then (o, aw, ak) else m k).1
            rw [va_up_ne _ _ e, if_neg e]
            exact d2' k (by omega)
        · by_cases e : k = j
          · subst e
            simp only [if_pos]
            refine ⟨⟨⟨o3, mw, mk⟩, (va_up_ne _ _ hpmo.symm).trans eb, ⟨_, (va_up_ne _ _ hwp).trans ew, fun _ _ => rfl⟩, ⟨g, (va_up_ne _ _ hkp).trans ek, hg⟩⟩, lo3, lw, lk⟩
          · simp only [if_neg e]
            obtain ⟨hm, l1, l2, l3⟩ := d3 k (by omega)
            obtain ⟨⟨w1, w2, w3⟩, x1, ⟨f1, x2, -⟩, ⟨f2, x3, -⟩⟩ := id hm
            refine ⟨momAt_ext hm (fun q hq => (all3 q hq).1) ?_ ?_ ?_, (all3 _ w1).2.1.trans l1, (all3 _ w2).2.1.trans l2, (all3 _ w3).2.1.trans l3⟩
            · exact (va_up_ne _ _ (ne_of x1 d2 (fun z => rA_mom z.symm))).trans (all3 _ w1).2.2
            · exact (va_up_ne _ _ (ne_of x2 d2 (fun z => rA_iA z.symm))).trans (all3 _ w2).2.2
            · exact (va_up_ne _ _ (ne_of x3 d2 (fun z => rA_iA z.symm))).trans (all3 _ w3).2.2
        · by_cases ek : k = j
          · by_cases el : l = j
            · exact absurd (ek.trans el.symm) hne
            · simp only [if_pos ek, if_neg el]
              obtain ⟨⟨w1, w2, w3⟩, -⟩ := (d3 l (by omega)).1
              exact ⟨fun z => ho (z ▸ w1), fun z => nw1 (z ▸ w2), fun z => nk1 (z ▸ w3)⟩
          · by_cases el : l = j
            · simp only [if_neg ek, if_pos el]
              obtain ⟨⟨w1, w2, w3⟩, -⟩ := (d3 k (by omega)).1
              exact ⟨fun z => ho (z ▸ w1), fun z => nw1 (z ▸ w2), fun z => nk1 (z ▸ w3)⟩
            · simp only [if_neg ek, if_neg el]
              exact d4 k l (by omega) (by omega) hne)
      simp only [rA, hput] at hi e3p
      rw [show 1 + 3 * (j + 1) = 1 + 3 * j + 1 + 2 by omega, show 8 + 29 * (j + 1) = 8 + 29 * j + 5 + 24 by omega] at hi
      refine nvc_ok (uX2_init Γ) (S := [20]) 8 _ _ _ _ ?_
      simp only [m3p, e3p, o3, eb, c2, c3, nI_1, nvc_s, s1i, s2i, s1l, s2l, sil, s1r, sir, siir, slir, srir, svr, sd1, sd2, lg, lput, ldel, isL_i, isL_r, isL_l, jmp, obj, obj1, fI, fR, arI, arL, arR, hput, f4_0, f4_1, f4_2, f4_3, lc_0, lc_1, rok_i, rok_b, rok_y, strF, fput_1, fput_2, csum_nil, csum_i, csum_l, csum_r, va_up_self, bx_uu, Int.reduceAdd, List.elem_nil, List.elem_cons, List.take_succ_cons, List.take_zero, List.drop_succ_cons, List.drop_zero, List.take_nil, List.drop_nil, List.reverse_cons, List.reverse_nil, List.nil_append, List.cons_append, List.append_nil, Option.toList_some, Option.toList_none, List.getElem?_cons_zero, List.getElem?_cons_succ, List.set_cons_zero, List.set_cons_succ, List.length_cons, List.length_nil, reduceIte, reduceCtorEq, and_true, true_and, and_self, or_true, true_or, false_and, and_false, not_true_eq_false, not_false_eq_true, true_implies, false_implies, implies_true, Nat.reduceAdd, Nat.reduceLT, Nat.reduceEqDiff, Nat.reduceLeDiff, Nat.reduceBEq, Nat.zero_add, Nat.lt_add_one, Bool.false_eq_true, Bool.or_false, Bool.or_true, Bool.or_self, Nat.zero_ne_one, Nat.one_ne_zero, ite_true, ite_false, ne_eq, Nat.reduceSub, Nat.succ_eq_add_one, Nat.zero_lt_succ, Nat.add_one_ne_zero, false_or, or_false, or_self, mX2_init_c, mX2_init_n, mX2_init_r, mX2_init_l, mX2_init_o, mX2_init_k, mX2_init_s, dX2_init_0, dX2_init_1, dX2_init_4, dX2_init_5, bc_8, dX2_init_7, dX2_init_10, fl_2_11_2, dX2_init_13, dX2_init_14, ic_0, dX2_init_15, fl_2_17_2, dX2_init_18, dX2_init_19, dX2_init_20, dX2_init_21, dX2_init_23, tg_23_22, cnd2_ge, dX2_init_26, dX2_init_27, dX2_init_30, dX2_init_31, dX2_init_34, dX2_init_35, dX2_init_38, dX2_init_39, ic_1, dX2_init_42, tg_42_m22, dX2_init_45, fin_2_2_0, sn_aastore, sn_aload_n, sn_bipush, sn_dup, sn_getfield, sn_goto, sn_iconst, sn_if_icmp, sn_iinc, sn_iload_n, sn_istore_n, sn_putfield, sn_return]
      exact hi
  refine ⟨Nat.le_of_ble_eq_true rfl, nvc_ok (uX2_init Γ) (S := [1]) 4 _ _ _ _ ?_⟩
  simp only [lv_args, Value.category, nvc_s, s1i, s2i, s1l, s2l, sil, s1r, sir, siir, slir, srir, svr, sd1, sd2, lg, lput, ldel, isL_i, isL_r, isL_l, jmp, obj, obj1, fI, fR, arI, arL, arR, hput, f4_0, f4_1, f4_2, f4_3, lc_0, lc_1, rok_i, rok_b, rok_y, strF, fput_1, fput_2, csum_nil, csum_i, csum_l, csum_r, va_up_self, bx_uu, Int.reduceAdd, List.elem_nil, List.elem_cons, List.take_succ_cons, List.take_zero, List.drop_succ_cons, List.drop_zero, List.take_nil, List.drop_nil, List.reverse_cons, List.reverse_nil, List.nil_append, List.cons_append, List.append_nil, Option.toList_some, Option.toList_none, List.getElem?_cons_zero, List.getElem?_cons_succ, List.set_cons_zero, List.set_cons_succ, List.length_cons, List.length_nil, reduceIte, reduceCtorEq, and_true, true_and, and_self, or_true, true_or, false_and, and_false, not_true_eq_false, not_false_eq_true, true_implies, false_implies, implies_true, Nat.reduceAdd, Nat.reduceLT, Nat.reduceEqDiff, Nat.reduceLeDiff, Nat.reduceBEq, Nat.zero_add, Nat.lt_add_one, Bool.false_eq_true, Bool.or_false, Bool.or_true, Bool.or_self, Nat.zero_ne_one, Nat.one_ne_zero, ite_true, ite_false, ne_eq, Nat.reduceSub, Nat.succ_eq_add_one, Nat.zero_lt_succ, Nat.add_one_ne_zero, false_or, or_false, or_self, mX2_init_c, mX2_init_n, mX2_init_r, mX2_init_l, mX2_init_o, mX2_init_k, mX2_init_s, dX2_init_0, dX2_init_1, dX2_init_4, dX2_init_5, bc_8, dX2_init_7, dX2_init_10, fl_2_11_2, dX2_init_13, dX2_init_14, ic_0, dX2_init_15, fl_2_17_2, dX2_init_18, dX2_init_19, dX2_init_20, dX2_init_21, dX2_init_23, tg_23_22, cnd2_ge, dX2_init_26, dX2_init_27, dX2_init_30, dX2_init_31, dX2_init_34, dX2_init_35, dX2_init_38, dX2_init_39, ic_1, dX2_init_42, tg_42_m22, dX2_init_45, fin_2_2_0, sn_aastore, sn_aload_n, sn_bipush, sn_dup, sn_getfield, sn_goto, sn_iconst, sn_if_icmp, sn_iinc, sn_iload_n, sn_istore_n, sn_putfield, sn_return]
  refine n_obj ol_X2_init dX2_init_1 (by decide) (by decide) (by decide) ?_
  refine nvc_ok (uX2_init Γ) (S := [7]) 4 _ _ _ _ ?_
  simp only [nvc_s, s1i, s2i, s1l, s2l, sil, s1r, sir, siir, slir, srir, svr, sd1, sd2, lg, lput, ldel, isL_i, isL_r, isL_l, jmp, obj, obj1, fI, fR, arI, arL, arR, hput, f4_0, f4_1, f4_2, f4_3, lc_0, lc_1, rok_i, rok_b, rok_y, strF, fput_1, fput_2, csum_nil, csum_i, csum_l, csum_r, va_up_self, bx_uu, Int.reduceAdd, List.elem_nil, List.elem_cons, List.take_succ_cons, List.take_zero, List.drop_succ_cons, List.drop_zero, List.take_nil, List.drop_nil, List.reverse_cons, List.reverse_nil, List.nil_append, List.cons_append, List.append_nil, Option.toList_some, Option.toList_none, List.getElem?_cons_zero, List.getElem?_cons_succ, List.set_cons_zero, List.set_cons_succ, List.length_cons, List.length_nil, reduceIte, reduceCtorEq, and_true, true_and, and_self, or_true, true_or, false_and, and_false, not_true_eq_false, not_false_eq_true, true_implies, false_implies, implies_true, Nat.reduceAdd, Nat.reduceLT, Nat.reduceEqDiff, Nat.reduceLeDiff, Nat.reduceBEq, Nat.zero_add, Nat.lt_add_one, Bool.false_eq_true, Bool.or_false, Bool.or_true, Bool.or_self, Nat.zero_ne_one, Nat.one_ne_zero, ite_true, ite_false, ne_eq, Nat.reduceSub, Nat.succ_eq_add_one, Nat.zero_lt_succ, Nat.add_one_ne_zero, false_or, or_false, or_self, mX2_init_c, mX2_init_n, mX2_init_r, mX2_init_l, mX2_init_o, mX2_init_k, mX2_init_s, dX2_init_0, dX2_init_1, dX2_init_4, dX2_init_5, bc_8, dX2_init_7, dX2_init_10, fl_2_11_2, dX2_init_13, dX2_init_14, ic_0, dX2_init_15, fl_2_17_2, dX2_init_18, dX2_init_19, dX2_init_20, dX2_init_21, dX2_init_23, tg_23_22, cnd2_ge, dX2_init_26, dX2_init_27, dX2_init_30, dX2_init_31, dX2_init_34, dX2_init_35, dX2_init_38, dX2_init_39, ic_1, dX2_init_42, tg_42_m22, dX2_init_45, fin_2_2_0, sn_aastore, sn_aload_n, sn_bipush, sn_dup, sn_getfield, sn_goto, sn_iconst, sn_if_icmp, sn_iinc, sn_iload_n, sn_istore_n, sn_putfield, sn_return]
  refine n_newq 8 2 (Or.inl ⟨rfl, rfl⟩) nq_X2_init dX2_init_7 (by decide) (by decide) (by decide) (by decide) (by decide) (fun pm hpm => ?_)
  have hbp := ne_fresh hpm m1
  have E1 : Ext lab (labU lab pm i) b σ (hnew σ pm (rA Γ (fun _ => none))) := Ext.new hpm
  have m1' : b ∈ (hnew σ pm (rA Γ (fun _ => none))).1 := hnew_in m1
  have e1' := (hnew_ne (e := rA Γ (fun _ => none)) hbp).trans e1
  have mp : pm ∈ (hnew σ pm (rA Γ (fun _ => none))).1 := hnew_q
  have ep : (hnew σ pm (rA Γ (fun _ => none))).2 pm = rA Γ (fun _ => none) := hnew_at
  show YN Γ mX2_init K (0 + 1, 0 + 8) _ _ _ (hnew σ pm (rA Γ (fun _ => none)))
  generalize hnew σ pm (rA Γ (fun _ => none)) = σ1 at E1 m1' e1' mp ep ⊢
  have hl := loop 8 0 (fun _ => (0, 0, 0)) (fun _ => (fun _ => 0, fun _ => 0, 0, 0, 0)) pm (labU lab pm i) (hput σ1 b (PstE pm 0)) rfl (E1.tr Ext.put) hpm ⟨⟨m1', mp⟩, ⟨(labU_ne hbp).trans hlb, labU_at⟩, va_up_self _ _ _, ⟨_, (va_up_ne _ _ hbp.symm).trans ep, fun k hk => absurd hk (Nat.not_lt_zero _)⟩, fun k hk => absurd hk (Nat.not_lt_zero _), fun k l hk => absurd hk (Nat.not_lt_zero _)⟩
  simp only [PstE, hput, nI_0, Nat.reduceMul, Nat.reduceAdd] at hl
  refine nvc_ok (uX2_init Γ) (S := [20]) 12 _ _ _ _ ?_
  simp only [m1', e1', nvc_s, s1i, s2i, s1l, s2l, sil, s1r, sir, siir, slir, srir, svr, sd1, sd2, lg, lput, ldel, isL_i, isL_r, isL_l, jmp, obj, obj1, fI, fR, arI, arL, arR, hput, f4_0, f4_1, f4_2, f4_3, lc_0, lc_1, rok_i, rok_b, rok_y, strF, fput_1, fput_2, csum_nil, csum_i, csum_l, csum_r, va_up_self, bx_uu, Int.reduceAdd, List.elem_nil, List.elem_cons, List.take_succ_cons, List.take_zero, List.drop_succ_cons, List.drop_zero, List.take_nil, List.drop_nil, List.reverse_cons, List.reverse_nil, List.nil_append, List.cons_append, List.append_nil, Option.toList_some, Option.toList_none, List.getElem?_cons_zero, List.getElem?_cons_succ, List.set_cons_zero, List.set_cons_succ, List.length_cons, List.length_nil, reduceIte, reduceCtorEq, and_true, true_and, and_self, or_true, true_or, false_and, and_false, not_true_eq_false, not_false_eq_true, true_implies, false_implies, implies_true, Nat.reduceAdd, Nat.reduceLT, Nat.reduceEqDiff, Nat.reduceLeDiff, Nat.reduceBEq, Nat.zero_add, Nat.lt_add_one, Bool.false_eq_true, Bool.or_false, Bool.or_true, Bool.or_self, Nat.zero_ne_one, Nat.one_ne_zero, ite_true, ite_false, ne_eq, Nat.reduceSub, Nat.succ_eq_add_one, Nat.zero_lt_succ, Nat.add_one_ne_zero, false_or, or_false, or_self, mX2_init_c, mX2_init_n, mX2_init_r, mX2_init_l, mX2_init_o, mX2_init_k, mX2_init_s, dX2_init_0, dX2_init_1, dX2_init_4, dX2_init_5, bc_8, dX2_init_7, dX2_init_10, fl_2_11_2, dX2_init_13, dX2_init_14, ic_0, dX2_init_15, fl_2_17_2, dX2_init_18, dX2_init_19, dX2_init_20, dX2_init_21, dX2_init_23, tg_23_22, cnd2_ge, dX2_init_26, dX2_init_27, dX2_init_30, dX2_init_31, dX2_init_34, dX2_init_35, dX2_init_38, dX2_init_39, ic_1, dX2_init_42, tg_42_m22, dX2_init_45, fin_2_2_0, sn_aastore, sn_aload_n, sn_bipush, sn_dup, sn_getfield, sn_goto, sn_iconst, sn_if_icmp, sn_iinc, sn_iload_n, sn_istore_n, sn_putfield, sn_return]
  exact hl
