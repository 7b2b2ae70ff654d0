/-! ===== constructors: YawnKeysModel ===== -/
/-- arrays of the model, just made -/
def Ars (Γ : Cx) (L : List (Nat × Nat)) (a : Nat) (lab : Nat → Nat) (σ : Hp) : Prop := (∀ x, x ∈ L → x.1 ∈ σ.1 ∧ σ.2 x.1 = iA Γ x.2 (fun _ => 0) ∧ lab x.1 = 30 ∧ x.1 ≠ a) ∧ (L.map (fun x => x.1)).Nodup
theorem Ars.keep {Γ : Cx} {L : List (Nat × Nat)} {a : Nat} {lab lab' : Nat → Nat} {σ σ' : Hp} (h : Ars Γ L a lab σ) (E : Ext lab lab' a σ σ') : Ars Γ L a lab' σ' := ⟨fun x hx => by
  obtain ⟨h1, h2, h3, h4⟩ := h.1 x hx
  obtain ⟨e1, e2, e3⟩ := E x.1 h1
  exact ⟨e1, (e3 h4).trans h2, e2.trans h3, h4⟩, h.2⟩
theorem Ars.add {Γ : Cx} {L : List (Nat × Nat)} {a N q : Nat} {lab : Nat → Nat} {σ : Hp} (h : Ars Γ L a lab σ) (hq : q ∉ σ.1) (ha : a ∈ σ.1) : Ars Γ ((q, N) :: L) a (labU lab q 30) (hnew σ q (iA Γ N (fun _ => 0))) := by
  have h' := h.keep (Ext.new (i := 30) (b := a) (e := iA Γ N (fun _ => 0)) hq)
  refine ⟨fun x hx => ?_, ?_⟩
  · rcases List.mem_cons.mp hx with rfl | hx
    · exact ⟨hnew_q, hnew_at, labU_at, fun e => hq ((show q = a from e) ▸ ha)⟩
    · exact h'.1 x hx
  · simp only [List.map_cons]
    refine List.nodup_cons.mpr ⟨fun z => ?_, h.2⟩
    obtain ⟨x, hx, e⟩ := List.mem_map.mp z
    have := (h.1 x hx).1
    rw [e] at this
    exact hq this
def sc0 : Nat → Int32 := upd (upd (fun _ => 0) 1 8) 16 (-4)
/-- what the reference's rows are at the start -/
def Ar0 (ar : Nat → Nat → Int32) : Prop := (∀ k, k ≠ 3 → k ≠ 13 → ar k = fun _ => 0) ∧ (∀ d, d < 4 → ar 3 (20 + d) = -4) ∧ ar 3 24 = 0 ∧ ar 3 25 = 0 ∧ ar 3 26 = 1 ∧ ∀ d, d < 4 → ar 13 d = -1
def sp_X7_init (Γ : Cx) : YSp := fun av σ K => ∃ (a : Nat) (lab : Nat → Nat), av = [.ref a] ∧ a ∈ σ.1 ∧ σ.2 a = .inr (7, [.int 0, .int 0, .null, .null, .null, .null, .int 0, .int 0, .null, .null, .null, .null, .null, .null, .int 0, .null, .int 0, .int 0, .null, .int 0, .int 0, .int 0, .int 0, .int 0, .null, .null]) ∧ lab a = 30 ∧ ∀ (σ' : Hp) (lab' : Nat → Nat) (ad : Nat → Nat) (ar : Nat → Nat → Int32), Ext lab lab' a σ σ' → Mod Γ lab' (a, ad) (sc0, ar, fun _ => 0) σ' → Ar0 ar → K none σ'
theorem bw_710 : Cond.methodLink RX7 1 objectInit ∈ BW := bw_i 710 (by decide +kernel) (by decide +kernel)
theorem ol_X7_init : Cond.methodLink RX7 1 objectInit ∈ BW := bw_710
theorem fin_7_7_2 : finT RX7 7 2 := ⟨_, _, _, tyX7 2, rfl, rfl, rfl, by decide +kernel, fun v => ⟨rfl, rfl⟩⟩
theorem fin_7_7_3 : finT RX7 7 3 := ⟨_, _, _, tyX7 3, rfl, rfl, rfl, by decide +kernel, fun v => ⟨rfl, rfl⟩⟩
theorem fin_7_7_4 : finT RX7 7 4 := ⟨_, _, _, tyX7 4, rfl, rfl, rfl, by decide +kernel, fun v => ⟨rfl, rfl⟩⟩
theorem fin_7_7_5 : finT RX7 7 5 := ⟨_, _, _, tyX7 5, rfl, rfl, rfl, by decide +kernel, fun v => ⟨rfl, rfl⟩⟩
theorem fin_7_7_8 : finT RX7 7 8 := ⟨_, _, _, tyX7 8, rfl, rfl, rfl, by decide +kernel, fun v => ⟨rfl, rfl⟩⟩
theorem fin_7_7_9 : finT RX7 7 9 := ⟨_, _, _, tyX7 9, rfl, rfl, rfl, by decide +kernel, fun v => ⟨rfl, rfl⟩⟩
theorem fin_7_7_10 : finT RX7 7 10 := ⟨_, _, _, tyX7 10, rfl, rfl, rfl, by decide +kernel, fun v => ⟨rfl, rfl⟩⟩
theorem fin_7_7_11 : finT RX7 7 11 := ⟨_, _, _, tyX7 11, rfl, rfl, rfl, by decide +kernel, fun v => ⟨rfl, rfl⟩⟩
theorem fin_7_7_12 : finT RX7 7 12 := ⟨_, _, _, tyX7 12, rfl, rfl, rfl, by decide +kernel, fun v => ⟨rfl, rfl⟩⟩
theorem fin_7_7_13 : finT RX7 7 13 := ⟨_, _, _, tyX7 13, rfl, rfl, rfl, by decide +kernel, fun v => ⟨rfl, rfl⟩⟩
theorem fin_7_7_15 : finT RX7 7 15 := ⟨_, _, _, tyX7 15, rfl, rfl, rfl, by decide +kernel, fun v => ⟨rfl, rfl⟩⟩
theorem fin_7_7_18 : finT RX7 7 18 := ⟨_, _, _, tyX7 18, rfl, rfl, rfl, by decide +kernel, fun v => ⟨rfl, rfl⟩⟩
theorem fin_7_7_24 : finT RX7 7 24 := ⟨_, _, _, tyX7 24, rfl, rfl, rfl, by decide +kernel, fun v => ⟨rfl, rfl⟩⟩
theorem fin_7_7_25 : finT RX7 7 25 := ⟨_, _, _, tyX7 25, rfl, rfl, rfl, by decide +kernel, fun v => ⟨rfl, rfl⟩⟩
theorem bc_96 : (Int8.ofInt 96).toInt32 = 96 := by decide
theorem tg_129_27 : tgo 129 27 = some 156 := by decide
theorem tg_153_m26 : tgo 153 (-26) = some 127 := by decide
def mX7_init : Mt := (⟨1, 14, 713, 20⟩, RX7, cX7_init, 2, none, (0, 0), none)
theorem mX7_init_c : mX7_init.2.2.1 = cX7_init := rfl
theorem mX7_init_n : mX7_init.2.2.2.1 = 2 := rfl
theorem mX7_init_r : mX7_init.2.2.2.2.1 = none := rfl
theorem mX7_init_l : mX7_init.2.2.2.2.2.2 = none := rfl
theorem mX7_init_o : mX7_init.2.1 = RX7 := rfl
theorem mX7_init_k : mX7_init.1.cells = 14 := rfl
theorem mX7_init_s : mX7_init.1.slots = 713 := rfl
theorem uX7_init (Γ : Cx) : TbOK Γ mX7_init (fT fX7, cT kX7, kT []) := tb_ok fX7_ok kX7_ok all_nil
theorem Mod.ext {Γ : Cx} {lab0 lab : Nat → Nat} {a : Nat} {ad : Nat → Nat} {s : MS} {σ0 σ : Hp} {e : va_E} {k : Nat} (E : Ext lab0 lab a σ0 σ) (h : Mod Γ lab (a, ad) s σ) (hk : isA k = true) (hn : ad k ∉ σ0.1) : Ext lab0 lab a σ0 (hput σ (ad k) e) := E.putQ hn
set_option maxRecDepth 20000 in
theorem oki_X7_init (Γ : Cx) : OkI Γ yX7_init mX7_init (sp_X7_init Γ) := by
  refine oki_intro (by decide +kernel) rfl rfl ?_
  intro av σ K h
  obtain ⟨a, lab, rfl, m0, e0, l0, h⟩ := h
  have loop : ∀ (n d : Nat) (lab1 : Nat → Nat) (ad : Nat → Nat) (ar : Nat → Nat → Int32) (σ1 : Hp), d + n = 4 → Ext lab lab1 a σ σ1 → ad 3 ∉ σ.1 → ad 13 ∉ σ.1 → Mod Γ lab1 (a, ad) (sc0, ar, fun _ => 0) σ1 → (∀ k, k ≠ 3 → k ≠ 13 → ar k = fun _ => 0) → (∀ j, j < d → ar 3 (20 + j) = -4) → (∀ j, 24 ≤ j → ar 3 j = 0) → (∀ j, j < d → ar 13 j = -1) → YN Γ mX7_init K (14, 713) 127 [(0, .ref a), (1, .int (nI d))] [] σ1 := by
    intro n
    induction n with
    | zero =>
      intro d lab1 ad ar σ1 hd E1 n3 n13 hM ho h3 h3' h13
      obtain rfl : d = 4 := by omega
      have hM2 := hM.putA (k := 3) rfl (upd (ar 3) 26 1)
      have hk := h _ lab1 ad (updA ar 3 (upd (ar 3) 26 1)) (E1.putQ n3) hM2 ⟨fun k a b => by rw [updA_ne a]; exact ho k a b, fun d hd => by rw [updA_at, pk_un (by omega)]; exact h3 d hd, by rw [updA_at, pk_un (by omega)]; exact h3' 24 (by omega), by rw [updA_at, pk_un (by omega)]; exact h3' 25 (by omega), by rw [updA_at, pk_us], fun d hd => by rw [updA_ne (by decide)]; exact h13 d hd⟩
      obtain ⟨⟨m1, -⟩, e1, -⟩ := id hM
      obtain ⟨m3, e3⟩ := hM.arr 3 rfl
      simp only [ME, iA, lenM, hput] at m1 e1 m3 e3 hk
      refine nvc1_ok (uX7_init Γ) (S := [132]) 12 ?_
      simp only [nvc1, ge4, m1, e1, m3, e3, in26_27, n26, nvc_s, s1i, s2i, s1l, s2l, sil, s1r, sir, siir, slir, srir, svr, sd1, sd2, lg, lput, ldel, isL_i, isL_r, isL_l, jmp, obj, obj1, fI, fR, arI, arL, arR, hput, f4_0, f4_1, f4_2, f4_3, lc_0, lc_1, rok_i, rok_b, rok_y, strF, fput_1, fput_2, csum_nil, csum_i, csum_l, csum_r, va_up_self, bx_uu, Int.reduceAdd, List.elem_nil, List.elem_cons, List.take_succ_cons, List.take_zero, List.drop_succ_cons, List.drop_zero, List.take_nil, List.drop_nil, List.reverse_cons, List.reverse_nil, List.nil_append, List.cons_append, List.append_nil, Option.toList_some, Option.toList_none, List.getElem?_cons_zero, List.getElem?_cons_succ, List.set_cons_zero, List.set_cons_succ, List.length_cons, List.length_nil, reduceIte, reduceCtorEq, and_true, true_and, and_self, or_true, true_or, false_and, and_false, not_true_eq_false, not_false_eq_true, true_implies, false_implies, implies_true, Nat.reduceAdd, Nat.reduceLT, Nat.reduceEqDiff, Nat.reduceLeDiff, Nat.reduceBEq, Nat.zero_add, Nat.lt_add_one, Bool.false_eq_true, Bool.or_false, Bool.or_true, Bool.or_self, Nat.zero_ne_one, Nat.one_ne_zero, ite_true, ite_false, ne_eq, Nat.reduceSub, Nat.succ_eq_add_one, Nat.zero_lt_succ, Nat.add_one_ne_zero, false_or, or_false, or_self, mX7_init_c, mX7_init_n, mX7_init_r, mX7_init_l, mX7_init_o, mX7_init_k, mX7_init_s, dX7_init_0, dX7_init_1, dX7_init_4, dX7_init_5, bc_8, dX7_init_7, fl_7_7_7, dX7_init_10, dX7_init_11, ic_5, dX7_init_12, dX7_init_14, fl_7_13_7, dX7_init_17, dX7_init_18, bc_27, dX7_init_20, dX7_init_22, fl_7_17_7, dX7_init_25, dX7_init_26, dX7_init_28, dX7_init_30, fl_7_20_7, dX7_init_33, dX7_init_34, sc_216, dX7_init_37, dX7_init_39, fl_7_23_7, dX7_init_42, dX7_init_43, dX7_init_45, dX7_init_47, fl_7_26_7, dX7_init_50, dX7_init_51, dX7_init_53, dX7_init_55, fl_7_29_7, dX7_init_58, dX7_init_59, dX7_init_62, dX7_init_64, fl_7_32_7, dX7_init_67, dX7_init_68, bc_96, dX7_init_70, dX7_init_72, fl_7_35_7, dX7_init_75, dX7_init_76, ic_4, dX7_init_77, dX7_init_79, fl_7_39_7, dX7_init_82, dX7_init_83, dX7_init_84, dX7_init_86, fl_7_42_7, dX7_init_89, dX7_init_90, bc_50, dX7_init_92, dX7_init_94, fl_7_45_7, dX7_init_97, dX7_init_98, bc_m4, dX7_init_100, fl_7_48_7, dX7_init_103, dX7_init_104, dX7_init_105, dX7_init_107, fl_7_51_7, dX7_init_110, dX7_init_111, dX7_init_112, dX7_init_114, fl_7_54_7, dX7_init_117, dX7_init_118, bc_24, dX7_init_120, dX7_init_122, fl_7_57_7, dX7_init_125, ic_0, dX7_init_126, dX7_init_127, dX7_init_128, dX7_init_129, tg_129_27, cnd2_ge, dX7_init_132, dX7_init_133, dX7_init_136, bc_20, dX7_init_138, dX7_init_139, dX7_init_140, dX7_init_142, dX7_init_143, dX7_init_144, dX7_init_147, dX7_init_148, ic_m1, dX7_init_149, dX7_init_150, ic_1, dX7_init_153, tg_153_m26, dX7_init_156, dX7_init_157, dX7_init_160, bc_26, dX7_init_162, dX7_init_163, dX7_init_164, fin_7_7_2, fin_7_7_3, fin_7_7_4, fin_7_7_5, fin_7_7_8, fin_7_7_9, fin_7_7_10, fin_7_7_11, fin_7_7_12, fin_7_7_13, fin_7_7_15, fin_7_7_18, fin_7_7_24, fin_7_7_25, sn_aload_n, sn_bipush, sn_getfield, sn_goto, sn_iadd, sn_iastore, sn_iconst, sn_if_icmp, sn_iinc, sn_iload_n, sn_istore_n, sn_putfield, sn_return, sn_sipush]
      exact hk
    | succ n ih =>
      intro d lab1 ad ar σ1 hd E1 n3 n13 hM ho h3 h3' h13
      obtain ⟨c1, c2, c3⟩ := lt4 (show d < 4 by omega)
      obtain ⟨i1, i2⟩ := ix20 (show d < 4 by omega)
      have hM2 := hM.putA (k := 3) rfl (upd (ar 3) (20 + d) (-4))
      have hM3 := hM2.putA (k := 13) rfl (upd (ar 13) d (-1))
      have hi := ih (d + 1) lab1 ad (updA (updA ar 3 (upd (ar 3) (20 + d) (-4))) 13 (upd (ar 13) d (-1))) _ (by omega) ((E1.putQ n3).putQ n13) n3 n13 hM3 (fun k a b => by rw [updA_ne b, updA_ne a]; exact ho k a b) (fun j hj => by
        rw [updA_ne (by decide), updA_at]
        by_cases e : j = d
        · subst e; rw [pk_us]
        · rw [pk_un (by omega)]; exact h3 j (by omega)) (fun j hj => by rw [updA_ne (by decide), updA_at, pk_un (by omega)]; exact h3' j hj) (fun j hj => by
        rw [updA_at]
        by_cases e : j = d
        · subst e; rw [pk_us]
        · rw [pk_un e]; exact h13 j (by omega))
      obtain ⟨⟨m1, -⟩, e1, -⟩ := id hM
      obtain ⟨m3, e3⟩ := hM.arr 3 rfl
      obtain ⟨m13, e13⟩ := hM.arr 13 rfl
      have q1 := fun f x => hM.neA (k := 3) rfl f x
      have q2 := fun f x => hM.neK (j := 3) (k := 13) rfl rfl (by decide) f x
      simp only [ME, iA, lenM, hput] at m1 e1 m3 e3 m13 e13 q1 q2 hi
      refine nvc1_ok (uX7_init Γ) (S := [127, 156]) 20 ?_
      simp only [nvc1, c1, c2, c3, i1, i2, m1, e1, m3, e3, m13, e13, q1, q2, nI_1, nvc_s, s1i, s2i, s1l, s2l, sil, s1r, sir, siir, slir, srir, svr, sd1, sd2, lg, lput, ldel, isL_i, isL_r, isL_l, jmp, obj, obj1, fI, fR, arI, arL, arR, hput, f4_0, f4_1, f4_2, f4_3, lc_0, lc_1, rok_i, rok_b, rok_y, strF, fput_1, fput_2, csum_nil, csum_i, csum_l, csum_r, va_up_self, bx_uu, Int.reduceAdd, List.elem_nil, List.elem_cons, List.take_succ_cons, List.take_zero, List.drop_succ_cons, List.drop_zero, List.take_nil, List.drop_nil, List.reverse_cons, List.reverse_nil, List.nil_append, List.cons_append, List.append_nil, Option.toList_some, Option.toList_none, List.getElem?_cons_zero, List.getElem?_cons_succ, List.set_cons_zero, List.set_cons_succ, List.length_cons, List.length_nil, reduceIte, reduceCtorEq, and_true, true_and, and_self, or_true, true_or, false_and, and_false, not_true_eq_false, not_false_eq_true, true_implies, false_implies, implies_true, Nat.reduceAdd, Nat.reduceLT, Nat.reduceEqDiff, Nat.reduceLeDiff, Nat.reduceBEq, Nat.zero_add, Nat.lt_add_one, Bool.false_eq_true, Bool.or_false, Bool.or_true, Bool.or_self, Nat.zero_ne_one, Nat.one_ne_zero, ite_true, ite_false, ne_eq, Nat.reduceSub, Nat.succ_eq_add_one, Nat.zero_lt_succ, Nat.add_one_ne_zero, false_or, or_false, or_self, mX7_init_c, mX7_init_n, mX7_init_r, mX7_init_l, mX7_init_o, mX7_init_k, mX7_init_s, dX7_init_0, dX7_init_1, dX7_init_4, dX7_init_5, bc_8, dX7_init_7, fl_7_7_7, dX7_init_10, dX7_init_11, ic_5, dX7_init_12, dX7_init_14, fl_7_13_7, dX7_init_17, dX7_init_18, bc_27, dX7_init_20, dX7_init_22, fl_7_17_7, dX7_init_25, dX7_init_26, dX7_init_28, dX7_init_30, fl_7_20_7, dX7_init_33, dX7_init_34, sc_216, dX7_init_37, dX7_init_39, fl_7_23_7, dX7_init_42, dX7_init_43, dX7_init_45, dX7_init_47, fl_7_26_7, dX7_init_50, dX7_init_51, dX7_init_53, dX7_init_55, fl_7_29_7, dX7_init_58, dX7_init_59, dX7_init_62, dX7_init_64, fl_7_32_7, dX7_init_67, dX7_init_68, bc_96, dX7_init_70, dX7_init_72, fl_7_35_7, dX7_init_75, dX7_init_76, ic_4, dX7_init_77, dX7_init_79, fl_7_39_7, dX7_init_82, dX7_init_83, dX7_init_84, dX7_init_86, fl_7_42_7, dX7_init_89, dX7_init_90, bc_50, dX7_init_92, dX7_init_94, fl_7_45_7, dX7_init_97, dX7_init_98, bc_m4, dX7_init_100, fl_7_48_7, dX7_init_103, dX7_init_104, dX7_init_105, dX7_init_107, fl_7_51_7, dX7_init_110, dX7_init_111, dX7_init_112, dX7_init_114, fl_7_54_7, dX7_init_117, dX7_init_118, bc_24, dX7_init_120, dX7_init_122, fl_7_57_7, dX7_init_125, ic_0, dX7_init_126, dX7_init_127, dX7_init_128, dX7_init_129, tg_129_27, cnd2_ge, dX7_init_132, dX7_init_133, dX7_init_136, bc_20, dX7_init_138, dX7_init_139, dX7_init_140, dX7_init_142, dX7_init_143, dX7_init_144, dX7_init_147, dX7_init_148, ic_m1, dX7_init_149, dX7_init_150, ic_1, dX7_init_153, tg_153_m26, dX7_init_156, dX7_init_157, dX7_init_160, bc_26, dX7_init_162, dX7_init_163, dX7_init_164, fin_7_7_2, fin_7_7_3, fin_7_7_4, fin_7_7_5, fin_7_7_8, fin_7_7_9, fin_7_7_10, fin_7_7_11, fin_7_7_12, fin_7_7_13, fin_7_7_15, fin_7_7_18, fin_7_7_24, fin_7_7_25, sn_aload_n, sn_bipush, sn_getfield, sn_goto, sn_iadd, sn_iastore, sn_iconst, sn_if_icmp, sn_iinc, sn_iload_n, sn_istore_n, sn_putfield, sn_return, sn_sipush]
      exact hi
  refine ⟨Nat.le_of_ble_eq_true rfl, nvc_ok (uX7_init Γ) (S := [1]) 4 _ _ _ _ ?_⟩
  simp only [lv_args, Value.category, nvc_s, s1i, s2i, s1l, s2l, sil, s1r, sir, siir, slir, srir, svr, sd1, sd2, lg, lput, ldel, isL_i, isL_r, isL_l, jmp, obj, obj1, fI, fR, arI, arL, arR, hput, f4_0, f4_1, f4_2, f4_3, lc_0, lc_1, rok_i, rok_b, rok_y, strF, fput_1, fput_2, csum_nil, csum_i, csum_l, csum_r, va_up_self, bx_uu, Int.reduceAdd, List.elem_nil, List.elem_cons, List.take_succ_cons, List.take_zero, List.drop_succ_cons, List.drop_zero, List.take_nil, List.drop_nil, List.reverse_cons, List.reverse_nil, List.nil_append, List.cons_append, List.append_nil, Option.toList_some, Option.toList_none, List.getElem?_cons_zero, List.getElem?_cons_succ, List.set_cons_zero, List.set_cons_succ, List.length_cons, List.length_nil, reduceIte, reduceCtorEq, and_true, true_and, and_self, or_true, true_or, false_and, and_false, not_true_eq_false, not_false_eq_true, true_implies, false_implies, implies_true, Nat.reduceAdd, Nat.reduceLT, Nat.reduceEqDiff, Nat.reduceLeDiff, Nat.reduceBEq, Nat.zero_add, Nat.lt_add_one, Bool.false_eq_true, Bool.or_false, Bool.or_true, Bool.or_self, Nat.zero_ne_one, Nat.one_ne_zero, ite_true, ite_false, ne_eq, Nat.reduceSub, Nat.succ_eq_add_one, Nat.zero_lt_succ, Nat.add_one_ne_zero, false_or, or_false, or_self, mX7_init_c, mX7_init_n, mX7_init_r, mX7_init_l, mX7_init_o, mX7_init_k, mX7_init_s, dX7_init_0, dX7_init_1, dX7_init_4, dX7_init_5, bc_8, dX7_init_7, fl_7_7_7, dX7_init_10, dX7_init_11, ic_5, dX7_init_12, dX7_init_14, fl_7_13_7, dX7_init_17, dX7_init_18, bc_27, dX7_init_20, dX7_init_22, fl_7_17_7, dX7_init_25, dX7_init_26, dX7_init_28, dX7_init_30, fl_7_20_7, dX7_init_33, dX7_init_34, sc_216, dX7_init_37, dX7_init_39, fl_7_23_7, dX7_init_42, dX7_init_43, dX7_init_45, dX7_init_47, fl_7_26_7, dX7_init_50, dX7_init_51, dX7_init_53, dX7_init_55, fl_7_29_7, dX7_init_58, dX7_init_59, dX7_init_62, dX7_init_64, fl_7_32_7, dX7_init_67, dX7_init_68, bc_96, dX7_init_70, dX7_init_72, fl_7_35_7, dX7_init_75, dX7_init_76, ic_4, dX7_init_77, dX7_init_79, fl_7_39_7, dX7_init_82, dX7_init_83, dX7_init_84, dX7_init_86, fl_7_42_7, dX7_init_89, dX7_init_90, bc_50, dX7_init_92, dX7_init_94, fl_7_45_7, dX7_init_97, dX7_init_98, bc_m4, dX7_init_100, fl_7_48_7, dX7_init_103, dX7_init_104, dX7_init_105, dX7_init_107, fl_7_51_7, dX7_init_110, dX7_init_111, dX7_init_112, dX7_init_114, fl_7_54_7, dX7_init_117, dX7_init_118, bc_24, dX7_init_120, dX7_init_122, fl_7_57_7, dX7_init_125, ic_0, dX7_init_126, dX7_init_127, dX7_init_128, dX7_init_129, tg_129_27, cnd2_ge, dX7_init_132, dX7_init_133, dX7_init_136, bc_20, dX7_init_138, dX7_init_139, dX7_init_140, dX7_init_142, dX7_init_143, dX7_init_144, dX7_init_147, dX7_init_148, ic_m1, dX7_init_149, dX7_init_150, ic_1, dX7_init_153, tg_153_m26, dX7_init_156, dX7_init_157, dX7_init_160, bc_26, dX7_init_162, dX7_init_163, dX7_init_164, fin_7_7_2, fin_7_7_3, fin_7_7_4, fin_7_7_5, fin_7_7_8, fin_7_7_9, fin_7_7_10, fin_7_7_11, fin_7_7_12, fin_7_7_13, fin_7_7_15, fin_7_7_18, fin_7_7_24, fin_7_7_25, sn_aload_n, sn_bipush, sn_getfield, sn_goto, sn_iadd, sn_iastore, sn_iconst, sn_if_icmp, sn_iinc, sn_iload_n, sn_istore_n, sn_putfield, sn_return, sn_sipush]
  refine n_obj ol_X7_init dX7_init_1 (by decide) (by decide) (by decide) ?_
  have E0 : Ext lab lab a σ σ := Ext.rf
  have R0 : Ars Γ [] a lab σ := ⟨fun x hx => absurd hx List.not_mem_nil, List.nodup_nil⟩
  obtain ⟨σn, hσn⟩ : ∃ x, x = hput σ a (.inr (7, [.int 0, .int 8, .null, .null, .null, .null, .int 0, .int 0, .null, .null, .null, .null, .null, .null, .int 0, .null, .int 0, .int 0, .null, .int 0, .int 0, .int 0, .int 0, .int 0, .null, .null])) := ⟨_, rfl⟩
  have E1 : Ext lab lab a σ σn := by rw [hσn]; exact Ext.put
  have m1 : a ∈ σn.1 := by rw [hσn]; exact m0
  have e1 : σn.2 a = .inr (7, [.int 0, .int 8, .null, .null, .null, .null, .int 0, .int 0, .null, .null, .null, .null, .null, .null, .int 0, .null, .int 0, .int 0, .null, .int 0, .int 0, .int 0, .int 0, .int 0, .null, .null]) := by rw [hσn]; exact va_up_self _ _ _
  refine nvc_ok (uX7_init Γ) (S := [12]) 7 _ _ _ _ ?_
  simp only [m0, e0, nvc_s, s1i, s2i, s1l, s2l, sil, s1r, sir, siir, slir, srir, svr, sd1, sd2, lg, lput, ldel, isL_i, isL_r, isL_l, jmp, obj, obj1, fI, fR, arI, arL, arR, hput, f4_0, f4_1, f4_2, f4_3, lc_0, lc_1, rok_i, rok_b, rok_y, strF, fput_1, fput_2, csum_nil, csum_i, csum_l, csum_r, va_up_self, bx_uu, Int.reduceAdd, List.elem_nil, List.elem_cons, List.take_succ_cons, List.take_zero, List.drop_succ_cons, List.drop_zero, List.take_nil, List.drop_nil, List.reverse_cons, List.reverse_nil, List.nil_append, List.cons_append, List.append_nil, Option.toList_some, Option.toList_none, List.getElem?_cons_zero, List.getElem?_cons_succ, List.set_cons_zero, List.set_cons_succ, List.length_cons, List.length_nil, reduceIte, reduceCtorEq, and_true, true_and, and_self, or_true, true_or, false_and, and_false, not_true_eq_false, not_false_eq_true, true_implies, false_implies, implies_true, Nat.reduceAdd, Nat.reduceLT, Nat.reduceEqDiff, Nat.reduceLeDiff, Nat.reduceBEq, Nat.zero_add, Nat.lt_add_one, Bool.false_eq_true, Bool.or_false, Bool.or_true, Bool.or_self, Nat.zero_ne_one, Nat.one_ne_zero, ite_true, ite_false, ne_eq, Nat.reduceSub, Nat.succ_eq_add_one, Nat.zero_lt_succ, Nat.add_one_ne_zero, false_or, or_false, or_self, mX7_init_c, mX7_init_n, mX7_init_r, mX7_init_l, mX7_init_o, mX7_init_k, mX7_init_s, dX7_init_0, dX7_init_1, dX7_init_4, dX7_init_5, bc_8, dX7_init_7, fl_7_7_7, dX7_init_10, dX7_init_11, ic_5, dX7_init_12, dX7_init_14, fl_7_13_7, dX7_init_17, dX7_init_18, bc_27, dX7_init_20, dX7_init_22, fl_7_17_7, dX7_init_25, dX7_init_26, dX7_init_28, dX7_init_30, fl_7_20_7, dX7_init_33, dX7_init_34, sc_216, dX7_init_37, dX7_init_39, fl_7_23_7, dX7_init_42, dX7_init_43, dX7_init_45, dX7_init_47, fl_7_26_7, dX7_init_50, dX7_init_51, dX7_init_53, dX7_init_55, fl_7_29_7, dX7_init_58, dX7_init_59, dX7_init_62, dX7_init_64, fl_7_32_7, dX7_init_67, dX7_init_68, bc_96, dX7_init_70, dX7_init_72, fl_7_35_7, dX7_init_75, dX7_init_76, ic_4, dX7_init_77, dX7_init_79, fl_7_39_7, dX7_init_82, dX7_init_83, dX7_init_84, dX7_init_86, fl_7_42_7, dX7_init_89, dX7_init_90, bc_50, dX7_init_92, dX7_init_94, fl_7_45_7, dX7_init_97, dX7_init_98, bc_m4, dX7_init_100, fl_7_48_7, dX7_init_103, dX7_init_104, dX7_init_105, dX7_init_107, fl_7_51_7, dX7_init_110, dX7_init_111, dX7_init_112, dX7_init_114, fl_7_54_7, dX7_init_117, dX7_init_118, bc_24, dX7_init_120, dX7_init_122, fl_7_57_7, dX7_init_125, ic_0, dX7_init_126, dX7_init_127, dX7_init_128, dX7_init_129, tg_129_27, cnd2_ge, dX7_init_132, dX7_init_133, dX7_init_136, bc_20, dX7_init_138, dX7_init_139, dX7_init_140, dX7_init_142, dX7_init_143, dX7_init_144, dX7_init_147, dX7_init_148, ic_m1, dX7_init_149, dX7_init_150, ic_1, dX7_init_153, tg_153_m26, dX7_init_156, dX7_init_157, dX7_init_160, bc_26, dX7_init_162, dX7_init_163, dX7_init_164, fin_7_7_2, fin_7_7_3, fin_7_7_4, fin_7_7_5, fin_7_7_8, fin_7_7_9, fin_7_7_10, fin_7_7_11, fin_7_7_12, fin_7_7_13, fin_7_7_15, fin_7_7_18, fin_7_7_24, fin_7_7_25, sn_aload_n, sn_bipush, sn_getfield, sn_goto, sn_iadd, sn_iastore, sn_iconst, sn_if_icmp, sn_iinc, sn_iload_n, sn_istore_n, sn_putfield, sn_return, sn_sipush]
  simp only [hput] at hσn
  rw [← hσn]
  clear hσn
  have E0 := E0.tr E1
  have R0 := R0.keep E1
  have m0 := m1
  have e0 := e1
  clear E1 m1 e1
  refine n_newI 5 dX7_init_12 (by decide) (by decide) (by decide) (by decide) (by decide) (fun q2 hq2 => ?_)
  have nq2 : q2 ∉ σ.1 := E0.out hq2
  have Ea : Ext lab (labU lab q2 30) a σn (hnew σn q2 (iA Γ 5 (fun _ => 0))) := Ext.new hq2
  have hne := ne_fresh hq2 m0
  have e0 := (hnew_ne (e := iA Γ 5 (fun _ => 0)) hne).trans e0
  have R0 := R0.add (N := 5) hq2 m0
  have E0 := E0.tr Ea
  have l0 := (Ea a m0).2.1.trans l0
  have m0 := (Ea a m0).1
  clear Ea hne
  generalize hnew σn q2 (iA Γ 5 (fun _ => 0)) = σb at R0 E0 m0 e0 ⊢
  generalize labU lab q2 30 = labn at R0 E0 l0 
  obtain ⟨σn, hσn⟩ : ∃ x, x = hput σb a (.inr (7, [.int 0, .int 8, .ref q2, .null, .null, .null, .int 0, .int 0, .null, .null, .null, .null, .null, .null, .int 0, .null, .int 0, .int 0, .null, .int 0, .int 0, .int 0, .int 0, .int 0, .null, .null])) := ⟨_, rfl⟩
  have E1 : Ext labn labn a σb σn := by rw [hσn]; exact Ext.put
  have m1 : a ∈ σn.1 := by rw [hσn]; exact m0
  have e1 : σn.2 a = .inr (7, [.int 0, .int 8, .ref q2, .null, .null, .null, .int 0, .int 0, .null, .null, .null, .null, .null, .null, .int 0, .null, .int 0, .int 0, .null, .int 0, .int 0, .int 0, .int 0, .int 0, .null, .null]) := by rw [hσn]; exact va_up_self _ _ _
  refine nvc_ok (uX7_init Γ) (S := [20]) 5 _ _ _ _ ?_
  simp only [m0, e0, nvc_s, s1i, s2i, s1l, s2l, sil, s1r, sir, siir, slir, srir, svr, sd1, sd2, lg, lput, ldel, isL_i, isL_r, isL_l, jmp, obj, obj1, fI, fR, arI, arL, arR, hput, f4_0, f4_1, f4_2, f4_3, lc_0, lc_1, rok_i, rok_b, rok_y, strF, fput_1, fput_2, csum_nil, csum_i, csum_l, csum_r, va_up_self, bx_uu, Int.reduceAdd, List.elem_nil, List.elem_cons, List.take_succ_cons, List.take_zero, List.drop_succ_cons, List.drop_zero, List.take_nil, List.drop_nil, List.reverse_cons, List.reverse_nil, List.nil_append, List.cons_append, List.append_nil, Option.toList_some, Option.toList_none, List.getElem?_cons_zero, List.getElem?_cons_succ, List.set_cons_zero, List.set_cons_succ, List.length_cons, List.length_nil, reduceIte, reduceCtorEq, and_true, true_and, and_self, or_true, true_or, false_and, and_false, not_true_eq_false, not_false_eq_true, true_implies, false_implies, implies_true, Nat.reduceAdd, Nat.reduceLT, Nat.reduceEqDiff, Nat.reduceLeDiff, Nat.reduceBEq, Nat.zero_add, Nat.lt_add_one, Bool.false_eq_true, Bool.or_false, Bool.or_true, Bool.or_self, Nat.zero_ne_one, Nat.one_ne_zero, ite_true, ite_false, ne_eq, Nat.reduceSub, Nat.succ_eq_add_one, Nat.zero_lt_succ, Nat.add_one_ne_zero, false_or, or_false, or_self, mX7_init_c, mX7_init_n, mX7_init_r, mX7_init_l, mX7_init_o, mX7_init_k, mX7_init_s, dX7_init_0, dX7_init_1, dX7_init_4, dX7_init_5, bc_8, dX7_init_7, fl_7_7_7, dX7_init_10, dX7_init_11, ic_5, dX7_init_12, dX7_init_14, fl_7_13_7, dX7_init_17, dX7_init_18, bc_27, dX7_init_20, dX7_init_22, fl_7_17_7, dX7_init_25, dX7_init_26, dX7_init_28, dX7_init_30, fl_7_20_7, dX7_init_33, dX7_init_34, sc_216, dX7_init_37, dX7_init_39, fl_7_23_7, dX7_init_42, dX7_init_43, dX7_init_45, dX7_init_47, fl_7_26_7, dX7_init_50, dX7_init_51, dX7_init_53, dX7_init_55, fl_7_29_7, dX7_init_58, dX7_init_59, dX7_init_62, dX7_init_64, fl_7_32_7, dX7_init_67, dX7_init_68, bc_96, dX7_init_70, dX7_init_72, fl_7_35_7, dX7_init_75, dX7_init_76, ic_4, dX7_init_77, dX7_init_79, fl_7_39_7, dX7_init_82, dX7_init_83, dX7_init_84, dX7_init_86, fl_7_42_7, dX7_init_89, dX7_init_90, bc_50, dX7_init_92, dX7_init_94, fl_7_45_7, dX7_init_97, dX7_init_98, bc_m4, dX7_init_100, fl_7_48_7, dX7_init_103, dX7_init_104, dX7_init_105, dX7_init_107, fl_7_51_7, dX7_init_110, dX7_init_111, dX7_init_112, dX7_init_114, fl_7_54_7, dX7_init_117, dX7_init_118, bc_24, dX7_init_120, dX7_init_122, fl_7_57_7, dX7_init_125, ic_0, dX7_init_126, dX7_init_127, dX7_init_128, dX7_init_129, tg_129_27, cnd2_ge, dX7_init_132, dX7_init_133, dX7_init_136, bc_20, dX7_init_138, dX7_init_139, dX7_init_140, dX7_init_142, dX7_init_143, dX7_init_144, dX7_init_147, dX7_init_148, ic_m1, dX7_init_149, dX7_init_150, ic_1, dX7_init_153, tg_153_m26, dX7_init_156, dX7_init_157, dX7_init_160, bc_26, dX7_init_162, dX7_init_163, dX7_init_164, fin_7_7_2, fin_7_7_3, fin_7_7_4, fin_7_7_5, fin_7_7_8, fin_7_7_9, fin_7_7_10, fin_7_7_11, fin_7_7_12, fin_7_7_13, fin_7_7_15, fin_7_7_18, fin_7_7_24, fin_7_7_25, sn_aload_n, sn_bipush, sn_getfield, sn_goto, sn_iadd, sn_iastore, sn_iconst, sn_if_icmp, sn_iinc, sn_iload_n, sn_istore_n, sn_putfield, sn_return, sn_sipush]
  simp only [hput] at hσn
  rw [← hσn]
  clear hσn
  have E0 := E0.tr E1
  have R0 := R0.keep E1
  have m0 := m1
  have e0 := e1
  clear E1 m1 e1
  refine n_newI 27 dX7_init_20 (by decide) (by decide) (by decide) (by decide) (by decide) (fun q3 hq3 => ?_)
  have nq3 : q3 ∉ σ.1 := E0.out hq3
  have Ea : Ext labn (labU labn q3 30) a σn (hnew σn q3 (iA Γ 27 (fun _ => 0))) := Ext.new hq3
  have hne := ne_fresh hq3 m0
  have e0 := (hnew_ne (e := iA Γ 27 (fun _ => 0)) hne).trans e0
  have R0 := R0.add (N := 27) hq3 m0
  have E0 := E0.tr Ea
  have l0 := (Ea a m0).2.1.trans l0
  have m0 := (Ea a m0).1
  clear Ea hne
  generalize hnew σn q3 (iA Γ 27 (fun _ => 0)) = σb at R0 E0 m0 e0 ⊢
  generalize labU labn q3 30 = labn at R0 E0 l0 
  obtain ⟨σn, hσn⟩ : ∃ x, x = hput σb a (.inr (7, [.int 0, .int 8, .ref q2, .ref q3, .null, .null, .int 0, .int 0, .null, .null, .null, .null, .null, .null, .int 0, .null, .int 0, .int 0, .null, .int 0, .int 0, .int 0, .int 0, .int 0, .null, .null])) := ⟨_, rfl⟩
  have E1 : Ext labn labn a σb σn := by rw [hσn]; exact Ext.put
  have m1 : a ∈ σn.1 := by rw [hσn]; exact m0
  have e1 : σn.2 a = .inr (7, [.int 0, .int 8, .ref q2, .ref q3, .null, .null, .int 0, .int 0, .null, .null, .null, .null, .null, .null, .int 0, .null, .int 0, .int 0, .null, .int 0, .int 0, .int 0, .int 0, .int 0, .null, .null]) := by rw [hσn]; exact va_up_self _ _ _
  refine nvc_ok (uX7_init Γ) (S := [28]) 5 _ _ _ _ ?_
  simp only [m0, e0, nvc_s, s1i, s2i, s1l, s2l, sil, s1r, sir, siir, slir, srir, svr, sd1, sd2, lg, lput, ldel, isL_i, isL_r, isL_l, jmp, obj, obj1, fI, fR, arI, arL, arR, hput, f4_0, f4_1, f4_2, f4_3, lc_0, lc_1, rok_i, rok_b, rok_y, strF, fput_1, fput_2, csum_nil, csum_i, csum_l, csum_r, va_up_self, bx_uu, Int.reduceAdd, List.elem_nil, List.elem_cons, List.take_succ_cons, List.take_zero, List.drop_succ_cons, List.drop_zero, List.take_nil, List.drop_nil, List.reverse_cons, List.reverse_nil, List.nil_append, List.cons_append, List.append_nil, Option.toList_some, Option.toList_none, List.getElem?_cons_zero, List.getElem?_cons_succ, List.set_cons_zero, List.set_cons_succ, List.length_cons, List.length_nil, reduceIte, reduceCtorEq, and_true, true_and, and_self, or_true, true_or, false_and, and_false, not_true_eq_false, not_false_eq_true, true_implies, false_implies, implies_true, Nat.reduceAdd, Nat.reduceLT, Nat.reduceEqDiff, Nat.reduceLeDiff, Nat.reduceBEq, Nat.zero_add, Nat.lt_add_one, Bool.false_eq_true, Bool.or_false, Bool.or_true, Bool.or_self, Nat.zero_ne_one, Nat.one_ne_zero, ite_true, ite_false, ne_eq, Nat.reduceSub, Nat.succ_eq_add_one, Nat.zero_lt_succ, Nat.add_one_ne_zero, false_or, or_false, or_self, mX7_init_c, mX7_init_n, mX7_init_r, mX7_init_l, mX7_init_o, mX7_init_k, mX7_init_s, dX7_init_0, dX7_init_1, dX7_init_4, dX7_init_5, bc_8, dX7_init_7, fl_7_7_7, dX7_init_10, dX7_init_11, ic_5, dX7_init_12, dX7_init_14, fl_7_13_7, dX7_init_17, dX7_init_18, bc_27, dX7_init_20, dX7_init_22, fl_7_17_7, dX7_init_25, dX7_init_26, dX7_init_28, dX7_init_30, fl_7_20_7, dX7_init_33, dX7_init_34, sc_216, dX7_init_37, dX7_init_39, fl_7_23_7, dX7_init_42, dX7_init_43, dX7_init_45, dX7_init_47, fl_7_26_7, dX7_init_50, dX7_init_51, dX7_init_53, dX7_init_55, fl_7_29_7, dX7_init_58, dX7_init_59, dX7_init_62, dX7_init_64, fl_7_32_7, dX7_init_67, dX7_init_68, bc_96, dX7_init_70, dX7_init_72, fl_7_35_7, dX7_init_75, dX7_init_76, ic_4, dX7_init_77, dX7_init_79, fl_7_39_7, dX7_init_82, dX7_init_83, dX7_init_84, dX7_init_86, fl_7_42_7, dX7_init_89, dX7_init_90, bc_50, dX7_init_92, dX7_init_94, fl_7_45_7, dX7_init_97, dX7_init_98, bc_m4, dX7_init_100, fl_7_48_7, dX7_init_103, dX7_init_104, dX7_init_105, dX7_init_107, fl_7_51_7, dX7_init_110, dX7_init_111, dX7_init_112, dX7_init_114, fl_7_54_7, dX7_init_117, dX7_init_118, bc_24, dX7_init_120, dX7_init_122, fl_7_57_7, dX7_init_125, ic_0, dX7_init_126, dX7_init_127, dX7_init_128, dX7_init_129, tg_129_27, cnd2_ge, dX7_init_132, dX7_init_133, dX7_init_136, bc_20, dX7_init_138, dX7_init_139, dX7_init_140, dX7_init_142, dX7_init_143, dX7_init_144, dX7_init_147, dX7_init_148, ic_m1, dX7_init_149, dX7_init_150, ic_1, dX7_init_153, tg_153_m26, dX7_init_156, dX7_init_157, dX7_init_160, bc_26, dX7_init_162, dX7_init_163, dX7_init_164, fin_7_7_2, fin_7_7_3, fin_7_7_4, fin_7_7_5, fin_7_7_8, fin_7_7_9, fin_7_7_10, fin_7_7_11, fin_7_7_12, fin_7_7_13, fin_7_7_15, fin_7_7_18, fin_7_7_24, fin_7_7_25, sn_aload_n, sn_bipush, sn_getfield, sn_goto, sn_iadd, sn_iastore, sn_iconst, sn_if_icmp, sn_iinc, sn_iload_n, sn_istore_n, sn_putfield, sn_return, sn_sipush]
  simp only [hput] at hσn
  rw [← hσn]
  clear hσn
  have E0 := E0.tr E1
  have R0 := R0.keep E1
  have m0 := m1
  have e0 := e1
  clear E1 m1 e1
  refine n_newI 27 dX7_init_28 (by decide) (by decide) (by decide) (by decide) (by decide) (fun q4 hq4 => ?_)
  have nq4 : q4 ∉ σ.1 := E0.out hq4
  have Ea : Ext labn (labU labn q4 30) a σn (hnew σn q4 (iA Γ 27 (fun _ => 0))) := Ext.new hq4
  have hne := ne_fresh hq4 m0
  have e0 := (hnew_ne (e := iA Γ 27 (fun _ => 0)) hne).trans e0
  have R0 := R0.add (N := 27) hq4 m0
  have E0 := E0.tr Ea
  have l0 := (Ea a m0).2.1.trans l0
  have m0 := (Ea a m0).1
  clear Ea hne
  generalize hnew σn q4 (iA Γ 27 (fun _ => 0)) = σb at R0 E0 m0 e0 ⊢
  generalize labU labn q4 30 = labn at R0 E0 l0 
  obtain ⟨σn, hσn⟩ : ∃ x, x = hput σb a (.inr (7, [.int 0, .int 8, .ref q2, .ref q3, .ref q4, .null, .int 0, .int 0, .null, .null, .null, .null, .null, .null, .int 0, .null, .int 0, .int 0, .null, .int 0, .int 0, .int 0, .int 0, .int 0, .null, .null])) := ⟨_, rfl⟩
  have E1 : Ext labn labn a σb σn := by rw [hσn]; exact Ext.put
  have m1 : a ∈ σn.1 := by rw [hσn]; exact m0
  have e1 : σn.2 a = .inr (7, [.int 0, .int 8, .ref q2, .ref q3, .ref q4, .null, .int 0, .int 0, .null, .null, .null, .null, .null, .null, .int 0, .null, .int 0, .int 0, .null, .int 0, .int 0, .int 0, .int 0, .int 0, .null, .null]) := by rw [hσn]; exact va_up_self _ _ _
  refine nvc_ok (uX7_init Γ) (S := [37]) 5 _ _ _ _ ?_
  simp only [m0, e0, nvc_s, s1i, s2i, s1l, s2l, sil, s1r, sir, siir, slir, srir, svr, sd1, sd2, lg, lput, ldel, isL_i, isL_r, isL_l, jmp, obj, obj1, fI, fR, arI, arL, arR, hput, f4_0, f4_1, f4_2, f4_3, lc_0, lc_1, rok_i, rok_b, rok_y, strF, fput_1, fput_2, csum_nil, csum_i, csum_l, csum_r, va_up_self, bx_uu, Int.reduceAdd, List.elem_nil, List.elem_cons, List.take_succ_cons, List.take_zero, List.drop_succ_cons, List.drop_zero, List.take_nil, List.drop_nil, List.reverse_cons, List.reverse_nil, List.nil_append, List.cons_append, List.append_nil, Option.toList_some, Option.toList_none, List.getElem?_cons_zero, List.getElem?_cons_succ, List.set_cons_zero, List.set_cons_succ, List.length_cons, List.length_nil, reduceIte, reduceCtorEq, and_true, true_and, and_self, or_true, true_or, false_and, and_false, not_true_eq_false, not_false_eq_true, true_implies, false_implies, implies_true, Nat.reduceAdd, Nat.reduceLT, Nat.reduceEqDiff, Nat.reduceLeDiff, Nat.reduceBEq, Nat.zero_add, Nat.lt_add_one, Bool.false_eq_true, Bool.or_false, Bool.or_true, Bool.or_self, Nat.zero_ne_one, Nat.one_ne_zero, ite_true, ite_false, ne_eq, Nat.reduceSub, Nat.succ_eq_add_one, Nat.zero_lt_succ, Nat.add_one_ne_zero, false_or, or_false, or_self, mX7_init_c, mX7_init_n, mX7_init_r, mX7_init_l, mX7_init_o, mX7_init_k, mX7_init_s, dX7_init_0, dX7_init_1, dX7_init_4, dX7_init_5, bc_8, dX7_init_7, fl_7_7_7, dX7_init_10, dX7_init_11, ic_5, dX7_init_12, dX7_init_14, fl_7_13_7, dX7_init_17, dX7_init_18, bc_27, dX7_init_20, dX7_init_22, fl_7_17_7, dX7_init_25, dX7_init_26, dX7_init_28, dX7_init_30, fl_7_20_7, dX7_init_33, dX7_init_34, sc_216, dX7_init_37, dX7_init_39, fl_7_23_7, dX7_init_42, dX7_init_43, dX7_init_45, dX7_init_47, fl_7_26_7, dX7_init_50, dX7_init_51, dX7_init_53, dX7_init_55, fl_7_29_7, dX7_init_58, dX7_init_59, dX7_init_62, dX7_init_64, fl_7_32_7, dX7_init_67, dX7_init_68, bc_96, dX7_init_70, dX7_init_72, fl_7_35_7, dX7_init_75, dX7_init_76, ic_4, dX7_init_77, dX7_init_79, fl_7_39_7, dX7_init_82, dX7_init_83, dX7_init_84, dX7_init_86, fl_7_42_7, dX7_init_89, dX7_init_90, bc_50, dX7_init_92, dX7_init_94, fl_7_45_7, dX7_init_97, dX7_init_98, bc_m4, dX7_init_100, fl_7_48_7, dX7_init_103, dX7_init_104, dX7_init_105, dX7_init_107, fl_7_51_7, dX7_init_110, dX7_init_111, dX7_init_112, dX7_init_114, fl_7_54_7, dX7_init_117, dX7_init_118, bc_24, dX7_init_120, dX7_init_122, fl_7_57_7, dX7_init_125, ic_0, dX7_init_126, dX7_init_127, dX7_init_128, dX7_init_129, tg_129_27, cnd2_ge, dX7_init_132, dX7_init_133, dX7_init_136, bc_20, dX7_init_138, dX7_init_139, dX7_init_140, dX7_init_142, dX7_init_143, dX7_init_144, dX7_init_147, dX7_init_148, ic_m1, dX7_init_149, dX7_init_150, ic_1, dX7_init_153, tg_153_m26, dX7_init_156, dX7_init_157, dX7_init_160, bc_26, dX7_init_162, dX7_init_163, dX7_init_164, fin_7_7_2, fin_7_7_3, fin_7_7_4, fin_7_7_5, fin_7_7_8, fin_7_7_9, fin_7_7_10, fin_7_7_11, fin_7_7_12, fin_7_7_13, fin_7_7_15, fin_7_7_18, fin_7_7_24, fin_7_7_25, sn_aload_n, sn_bipush, sn_getfield, sn_goto, sn_iadd, sn_iastore, sn_iconst, sn_if_icmp, sn_iinc, sn_iload_n, sn_istore_n, sn_putfield, sn_return, sn_sipush]
  simp only [hput] at hσn
  rw [← hσn]
  clear hσn
  have E0 := E0.tr E1
  have R0 := R0.keep E1
  have m0 := m1
  have e0 := e1
  clear E1 m1 e1
  refine n_newI 216 dX7_init_37 (by decide) (by decide) (by decide) (by decide) (by decide) (fun q5 hq5 => ?_)
  have nq5 : q5 ∉ σ.1 := E0.out hq5
  have Ea : Ext labn (labU labn q5 30) a σn (hnew σn q5 (iA Γ 216 (fun _ => 0))) := Ext.new hq5
  have hne := ne_fresh hq5 m0
  have e0 := (hnew_ne (e := iA Γ 216 (fun _ => 0)) hne).trans e0
  have R0 := R0.add (N := 216) hq5 m0
  have E0 := E0.tr Ea
  have l0 := (Ea a m0).2.1.trans l0
  have m0 := (Ea a m0).1
  clear Ea hne
  generalize hnew σn q5 (iA Γ 216 (fun _ => 0)) = σb at R0 E0 m0 e0 ⊢
  generalize labU labn q5 30 = labn at R0 E0 l0 
  obtain ⟨σn, hσn⟩ : ∃ x, x = hput σb a (.inr (7, [.int 0, .int 8, .ref q2, .ref q3, .ref q4, .ref q5, .int 0, .int 0, .null, .null, .null, .null, .null, .null, .int 0, .null, .int 0, .int 0, .null, .int 0, .int 0, .int 0, .int 0, .int 0, .null, .null])) := ⟨_, rfl⟩
  have E1 : Ext labn labn a σb σn := by rw [hσn]; exact Ext.put
  have m1 : a ∈ σn.1 := by rw [hσn]; exact m0
  have e1 : σn.2 a = .inr (7, [.int 0, .int 8, .ref q2, .ref q3, .ref q4, .ref q5, .int 0, .int 0, .null, .null, .null, .null, .null, .null, .int 0, .null, .int 0, .int 0, .null, .int 0, .int 0, .int 0, .int 0, .int 0, .null, .null]) := by rw [hσn]; exact va_up_self _ _ _
  refine nvc_ok (uX7_init Γ) (S := [45]) 5 _ _ _ _ ?_
  simp only [m0, e0, nvc_s, s1i, s2i, s1l, s2l, sil, s1r, sir, siir, slir, srir, svr, sd1, sd2, lg, lput, ldel, isL_i, isL_r, isL_l, jmp, obj, obj1, fI, fR, arI, arL, arR, hput, f4_0, f4_1, f4_2, f4_3, lc_0, lc_1, rok_i, rok_b, rok_y, strF, fput_1, fput_2, csum_nil, csum_i, csum_l, csum_r, va_up_self, bx_uu, Int.reduceAdd, List.elem_nil, List.elem_cons, List.take_succ_cons, List.take_zero, List.drop_succ_cons, List.drop_zero, List.take_nil, List.drop_nil, List.reverse_cons, List.reverse_nil, List.nil_append, List.cons_append, List.append_nil, Option.toList_some, Option.toList_none, List.getElem?_cons_zero, List.getElem?_cons_succ, List.set_cons_zero, List.set_cons_succ, List.length_cons, List.length_nil, reduceIte, reduceCtorEq, and_true, true_and, and_self, or_true, true_or, false_and, and_false, not_true_eq_false, not_false_eq_true, true_implies, false_implies, implies_true, Nat.reduceAdd, Nat.reduceLT, Nat.reduceEqDiff, Nat.reduceLeDiff, Nat.reduceBEq, Nat.zero_add, Nat.lt_add_one, Bool.false_eq_true, Bool.or_false, Bool.or_true, Bool.or_self, Nat.zero_ne_one, Nat.one_ne_zero, ite_true, ite_false, ne_eq, Nat.reduceSub, Nat.succ_eq_add_one, Nat.zero_lt_succ, Nat.add_one_ne_zero, false_or, or_false, or_self, mX7_init_c, mX7_init_n, mX7_init_r, mX7_init_l, mX7_init_o, mX7_init_k, mX7_init_s, dX7_init_0, dX7_init_1, dX7_init_4, dX7_init_5, bc_8, dX7_init_7, fl_7_7_7, dX7_init_10, dX7_init_11, ic_5, dX7_init_12, dX7_init_14, fl_7_13_7, dX7_init_17, dX7_init_18, bc_27, dX7_init_20, dX7_init_22, fl_7_17_7, dX7_init_25, dX7_init_26, dX7_init_28, dX7_init_30, fl_7_20_7, dX7_init_33, dX7_init_34, sc_216, dX7_init_37, dX7_init_39, fl_7_23_7, dX7_init_42, dX7_init_43, dX7_init_45, dX7_init_47, fl_7_26_7, dX7_init_50, dX7_init_51, dX7_init_53, dX7_init_55, fl_7_29_7, dX7_init_58, dX7_init_59, dX7_init_62, dX7_init_64, fl_7_32_7, dX7_init_67, dX7_init_68, bc_96, dX7_init_70, dX7_init_72, fl_7_35_7, dX7_init_75, dX7_init_76, ic_4, dX7_init_77, dX7_init_79, fl_7_39_7, dX7_init_82, dX7_init_83, dX7_init_84, dX7_init_86, fl_7_42_7, dX7_init_89, dX7_init_90, bc_50, dX7_init_92, dX7_init_94, fl_7_45_7, dX7_init_97, dX7_init_98, bc_m4, dX7_init_100, fl_7_48_7, dX7_init_103, dX7_init_104, dX7_init_105, dX7_init_107, fl_7_51_7, dX7_init_110, dX7_init_111, dX7_init_112, dX7_init_114, fl_7_54_7, dX7_init_117, dX7_init_118, bc_24, dX7_init_120, dX7_init_122, fl_7_57_7, dX7_init_125, ic_0, dX7_init_126, dX7_init_127, dX7_init_128, dX7_init_129, tg_129_27, cnd2_ge, dX7_init_132, dX7_init_133, dX7_init_136, bc_20, dX7_init_138, dX7_init_139, dX7_init_140, dX7_init_142, dX7_init_143, dX7_init_144, dX7_init_147, dX7_init_148, ic_m1, dX7_init_149, dX7_init_150, ic_1, dX7_init_153, tg_153_m26, dX7_init_156, dX7_init_157, dX7_init_160, bc_26, dX7_init_162, dX7_init_163, dX7_init_164, fin_7_7_2, fin_7_7_3, fin_7_7_4, fin_7_7_5, fin_7_7_8, fin_7_7_9, fin_7_7_10, fin_7_7_11, fin_7_7_12, fin_7_7_13, fin_7_7_15, fin_7_7_18, fin_7_7_24, fin_7_7_25, sn_aload_n, sn_bipush, sn_getfield, sn_goto, sn_iadd, sn_iastore, sn_iconst, sn_if_icmp, sn_iinc, sn_iload_n, sn_istore_n, sn_putfield, sn_return, sn_sipush]
  simp only [hput] at hσn
  rw [← hσn]
  clear hσn
  have E0 := E0.tr E1
  have R0 := R0.keep E1
  have m0 := m1
  have e0 := e1
  clear E1 m1 e1
  refine n_newI 8 dX7_init_45 (by decide) (by decide) (by decide) (by decide) (by decide) (fun q8 hq8 => ?_)
  have nq8 : q8 ∉ σ.1 := E0.out hq8
  have Ea : Ext labn (labU labn q8 30) a σn (hnew σn q8 (iA Γ 8 (fun _ => 0))) := Ext.new hq8
  have hne := ne_fresh hq8 m0
  have e0 := (hnew_ne (e := iA Γ 8 (fun _ => 0)) hne).trans e0
  have R0 := R0.add (N := 8) hq8 m0
  have E0 := E0.tr Ea
  have l0 := (Ea a m0).2.1.trans l0
  have m0 := (Ea a m0).1
  clear Ea hne
  generalize hnew σn q8 (iA Γ 8 (fun _ => 0)) = σb at R0 E0 m0 e0 ⊢
  generalize labU labn q8 30 = labn at R0 E0 l0 
  obtain ⟨σn, hσn⟩ : ∃ x, x = hput σb a (.inr (7, [.int 0, .int 8, .ref q2, .ref q3, .ref q4, .ref q5, .int 0, .int 0, .ref q8, .null, .null, .null, .null, .null, .int 0, .null, .int 0, .int 0, .null, .int 0, .int 0, .int 0, .int 0, .int 0, .null, .null])) := ⟨_, rfl⟩
  have E1 : Ext labn labn a σb σn := by rw [hσn]; exact Ext.put
  have m1 : a ∈ σn.1 := by rw [hσn]; exact m0
  have e1 : σn.2 a = .inr (7, [.int 0, .int 8, .ref q2, .ref q3, .ref q4, .ref q5, .int 0, .int 0, .ref q8, .null, .null, .null, .null, .null, .int 0, .null, .int 0, .int 0, .null, .int 0, .int 0, .int 0, .int 0, .int 0, .null, .null]) := by rw [hσn]; exact va_up_self _ _ _
  refine nvc_ok (uX7_init Γ) (S := [53]) 5 _ _ _ _ ?_
  simp only [m0, e0, nvc_s, s1i, s2i, s1l, s2l, sil, s1r, sir, siir, slir, srir, svr, sd1, sd2, lg, lput, ldel, isL_i, isL_r, isL_l, jmp, obj, obj1, fI, fR, arI, arL, arR, hput, f4_0, f4_1, f4_2, f4_3, lc_0, lc_1, rok_i, rok_b, rok_y, strF, fput_1, fput_2, csum_nil, csum_i, csum_l, csum_r, va_up_self, bx_uu, Int.reduceAdd, List.elem_nil, List.elem_cons, List.take_succ_cons, List.take_zero, List.drop_succ_cons, List.drop_zero, List.take_nil, List.drop_nil, List.reverse_cons, List.reverse_nil, List.nil_append, List.cons_append, List.append_nil, Option.toList_some, Option.toList_none, List.getElem?_cons_zero, List.getElem?_cons_succ, List.set_cons_zero, List.set_cons_succ, List.length_cons, List.length_nil, reduceIte, reduceCtorEq, and_true, true_and, and_self, or_true, true_or, false_and, and_false, not_true_eq_false, not_false_eq_true, true_implies, false_implies, implies_true, Nat.reduceAdd, Nat.reduceLT, Nat.reduceEqDiff, Nat.reduceLeDiff, Nat.reduceBEq, Nat.zero_add, Nat.lt_add_one, Bool.false_eq_true, Bool.or_false, Bool.or_true, Bool.or_self, Nat.zero_ne_one, Nat.one_ne_zero, ite_true, ite_false, ne_eq, Nat.reduceSub, Nat.succ_eq_add_one, Nat.zero_lt_succ, Nat.add_one_ne_zero, false_or, or_false, or_self, mX7_init_c, mX7_init_n, mX7_init_r, mX7_init_l, mX7_init_o, mX7_init_k, mX7_init_s, dX7_init_0, dX7_init_1, dX7_init_4, dX7_init_5, bc_8, dX7_init_7, fl_7_7_7, dX7_init_10, dX7_init_11, ic_5, dX7_init_12, dX7_init_14, fl_7_13_7, dX7_init_17, dX7_init_18, bc_27, dX7_init_20, dX7_init_22, fl_7_17_7, dX7_init_25, dX7_init_26, dX7_init_28, dX7_init_30, fl_7_20_7, dX7_init_33, dX7_init_34, sc_216, dX7_init_37, dX7_init_39, fl_7_23_7, dX7_init_42, dX7_init_43, dX7_init_45, dX7_init_47, fl_7_26_7, dX7_init_50, dX7_init_51, dX7_init_53, dX7_init_55, fl_7_29_7, dX7_init_58, dX7_init_59, dX7_init_62, dX7_init_64, fl_7_32_7, dX7_init_67, dX7_init_68, bc_96, dX7_init_70, dX7_init_72, fl_7_35_7, dX7_init_75, dX7_init_76, ic_4, dX7_init_77, dX7_init_79, fl_7_39_7, dX7_init_82, dX7_init_83, dX7_init_84, dX7_init_86, fl_7_42_7, dX7_init_89, dX7_init_90, bc_50, dX7_init_92, dX7_init_94, fl_7_45_7, dX7_init_97, dX7_init_98, bc_m4, dX7_init_100, fl_7_48_7, dX7_init_103, dX7_init_104, dX7_init_105, dX7_init_107, fl_7_51_7, dX7_init_110, dX7_init_111, dX7_init_112, dX7_init_114, fl_7_54_7, dX7_init_117, dX7_init_118, bc_24, dX7_init_120, dX7_init_122, fl_7_57_7, dX7_init_125, ic_0, dX7_init_126, dX7_init_127, dX7_init_128, dX7_init_129, tg_129_27, cnd2_ge, dX7_init_132, dX7_init_133, dX7_init_136, bc_20, dX7_init_138, dX7_init_139, dX7_init_140, dX7_init_142, dX7_init_143, dX7_init_144, dX7_init_147, dX7_init_148, ic_m1, dX7_init_149, dX7_init_150, ic_1, dX7_init_153, tg_153_m26, dX7_init_156, dX7_init_157, dX7_init_160, bc_26, dX7_init_162, dX7_init_163, dX7_init_164, fin_7_7_2, fin_7_7_3, fin_7_7_4, fin_7_7_5, fin_7_7_8, fin_7_7_9, fin_7_7_10, fin_7_7_11, fin_7_7_12, fin_7_7_13, fin_7_7_15, fin_7_7_18, fin_7_7_24, fin_7_7_25, sn_aload_n, sn_bipush, sn_getfield, sn_goto, sn_iadd, sn_iastore, sn_iconst, sn_if_icmp, sn_iinc, sn_iload_n, sn_istore_n, sn_putfield, sn_return, sn_sipush]
  simp only [hput] at hσn
  rw [← hσn]
  clear hσn
  have E0 := E0.tr E1
  have R0 := R0.keep E1
  have m0 := m1
  have e0 := e1
  clear E1 m1 e1
  refine n_newI 27 dX7_init_53 (by decide) (by decide) (by decide) (by decide) (by decide) (fun q9 hq9 => ?_)
  have nq9 : q9 ∉ σ.1 := E0.out hq9
  have Ea : Ext labn (labU labn q9 30) a σn (hnew σn q9 (iA Γ 27 (fun _ => 0))) := Ext.new hq9
  have hne := ne_fresh hq9 m0
  have e0 := (hnew_ne (e := iA Γ 27 (fun _ => 0)) hne).trans e0
  have R0 := R0.add (N := 27) hq9 m0
  have E0 := E0.tr Ea
  have l0 := (Ea a m0).2.1.trans l0
  have m0 := (Ea a m0).1
  clear Ea hne
  generalize hnew σn q9 (iA Γ 27 (fun _ => 0)) = σb at R0 E0 m0 e0 ⊢
  generalize labU labn q9 30 = labn at R0 E0 l0 
  obtain ⟨σn, hσn⟩ : ∃ x, x = hput σb a (.inr (7, [.int 0, .int 8, .ref q2, .ref q3, .ref q4, .ref q5, .int 0, .int 0, .ref q8, .ref q9, .null, .null, .null, .null, .int 0, .null, .int 0, .int 0, .null, .int 0, .int 0, .int 0, .int 0, .int 0, .null, .null])) := ⟨_, rfl⟩
  have E1 : Ext labn labn a σb σn := by rw [hσn]; exact Ext.put
  have m1 : a ∈ σn.1 := by rw [hσn]; exact m0
  have e1 : σn.2 a = .inr (7, [.int 0, .int 8, .ref q2, .ref q3, .ref q4, .ref q5, .int 0, .int 0, .ref q8, .ref q9, .null, .null, .null, .null, .int 0, .null, .int 0, .int 0, .null, .int 0, .int 0, .int 0, .int 0, .int 0, .null, .null]) := by rw [hσn]; exact va_up_self _ _ _
  refine nvc_ok (uX7_init Γ) (S := [62]) 5 _ _ _ _ ?_
  simp only [m0, e0, nvc_s, s1i, s2i, s1l, s2l, sil, s1r, sir, siir, slir, srir, svr, sd1, sd2, lg, lput, ldel, isL_i, isL_r, isL_l, jmp, obj, obj1, fI, fR, arI, arL, arR, hput, f4_0, f4_1, f4_2, f4_3, lc_0, lc_1, rok_i, rok_b, rok_y, strF, fput_1, fput_2, csum_nil, csum_i, csum_l, csum_r, va_up_self, bx_uu, Int.reduceAdd, List.elem_nil, List.elem_cons, List.take_succ_cons, List.take_zero, List.drop_succ_cons, List.drop_zero, List.take_nil, List.drop_nil, List.reverse_cons, List.reverse_nil, List.nil_append, List.cons_append, List.append_nil, Option.toList_some, Option.toList_none, List.getElem?_cons_zero, List.getElem?_cons_succ, List.set_cons_zero, List.set_cons_succ, List.length_cons, List.length_nil, reduceIte, reduceCtorEq, and_true, true_and, and_self, or_true, true_or, false_and, and_false, not_true_eq_false, not_false_eq_true, true_implies, false_implies, implies_true, Nat.reduceAdd, Nat.reduceLT, Nat.reduceEqDiff, Nat.reduceLeDiff, Nat.reduceBEq, Nat.zero_add, Nat.lt_add_one, Bool.false_eq_true, Bool.or_false, Bool.or_true, Bool.or_self, Nat.zero_ne_one, Nat.one_ne_zero, ite_true, ite_false, ne_eq, Nat.reduceSub, Nat.succ_eq_add_one, Nat.zero_lt_succ, Nat.add_one_ne_zero, false_or, or_false, or_self, mX7_init_c, mX7_init_n, mX7_init_r, mX7_init_l, mX7_init_o, mX7_init_k, mX7_init_s, dX7_init_0, dX7_init_1, dX7_init_4, dX7_init_5, bc_8, dX7_init_7, fl_7_7_7, dX7_init_10, dX7_init_11, ic_5, dX7_init_12, dX7_init_14, fl_7_13_7, dX7_init_17, dX7_init_18, bc_27, dX7_init_20, dX7_init_22, fl_7_17_7, dX7_init_25, dX7_init_26, dX7_init_28, dX7_init_30, fl_7_20_7, dX7_init_33, dX7_init_34, sc_216, dX7_init_37, dX7_init_39, fl_7_23_7, dX7_init_42, dX7_init_43, dX7_init_45, dX7_init_47, fl_7_26_7, dX7_init_50, dX7_init_51, dX7_init_53, dX7_init_55, fl_7_29_7, dX7_init_58, dX7_init_59, dX7_init_62, dX7_init_64, fl_7_32_7, dX7_init_67, dX7_init_68, bc_96, dX7_init_70, dX7_init_72, fl_7_35_7, dX7_init_75, dX7_init_76, ic_4, dX7_init_77, dX7_init_79, fl_7_39_7, dX7_init_82, dX7_init_83, dX7_init_84, dX7_init_86, fl_7_42_7, dX7_init_89, dX7_init_90, bc_50, dX7_init_92, dX7_init_94, fl_7_45_7, dX7_init_97, dX7_init_98, bc_m4, dX7_init_100, fl_7_48_7, dX7_init_103, dX7_init_104, dX7_init_105, dX7_init_107, fl_7_51_7, dX7_init_110, dX7_init_111, dX7_init_112, dX7_init_114, fl_7_54_7, dX7_init_117, dX7_init_118, bc_24, dX7_init_120, dX7_init_122, fl_7_57_7, dX7_init_125, ic_0, dX7_init_126, dX7_init_127, dX7_init_128, dX7_init_129, tg_129_27, cnd2_ge, dX7_init_132, dX7_init_133, dX7_init_136, bc_20, dX7_init_138, dX7_init_139, dX7_init_140, dX7_init_142, dX7_init_143, dX7_init_144, dX7_init_147, dX7_init_148, ic_m1, dX7_init_149, dX7_init_150, ic_1, dX7_init_153, tg_153_m26, dX7_init_156, dX7_init_157, dX7_init_160, bc_26, dX7_init_162, dX7_init_163, dX7_init_164, fin_7_7_2, fin_7_7_3, fin_7_7_4, fin_7_7_5, fin_7_7_8, fin_7_7_9, fin_7_7_10, fin_7_7_11, fin_7_7_12, fin_7_7_13, fin_7_7_15, fin_7_7_18, fin_7_7_24, fin_7_7_25, sn_aload_n, sn_bipush, sn_getfield, sn_goto, sn_iadd, sn_iastore, sn_iconst, sn_if_icmp, sn_iinc, sn_iload_n, sn_istore_n, sn_putfield, sn_return, sn_sipush]
  simp only [hput] at hσn
  rw [← hσn]
  clear hσn
  have E0 := E0.tr E1
  have R0 := R0.keep E1
  have m0 := m1
  have e0 := e1
  clear E1 m1 e1
  refine n_newI 216 dX7_init_62 (by decide) (by decide) (by decide) (by decide) (by decide) (fun q10 hq10 => ?_)
  have nq10 : q10 ∉ σ.1 := E0.out hq10
  have Ea : Ext labn (labU labn q10 30) a σn (hnew σn q10 (iA Γ 216 (fun _ => 0))) := Ext.new hq10
  have hne := ne_fresh hq10 m0
  have e0 := (hnew_ne (e := iA Γ 216 (fun _ => 0)) hne).trans e0
  have R0 := R0.add (N := 216) hq10 m0
  have E0 := E0.tr Ea
  have l0 := (Ea a m0).2.1.trans l0
  have m0 := (Ea a m0).1
  clear Ea hne
  generalize hnew σn q10 (iA Γ 216 (fun _ => 0)) = σb at R0 E0 m0 e0 ⊢
  generalize labU labn q10 30 = labn at R0 E0 l0 
  obtain ⟨σn, hσn⟩ : ∃ x, x = hput σb a (.inr (7, [.int 0, .int 8, .ref q2, .ref q3, .ref q4, .ref q5, .int 0, .int 0, .ref q8, .ref q9, .ref q10, .null, .null, .null, .int 0, .null, .int 0, .int 0, .null, .int 0, .int 0, .int 0, .int 0, .int 0, .null, .null])) := ⟨_, rfl⟩
  have E1 : Ext labn labn a σb σn := by rw [hσn]; exact Ext.put
  have m1 : a ∈ σn.1 := by rw [hσn]; exact m0
  have e1 : σn.2 a = .inr (7, [.int 0, .int 8, .ref q2, .ref q3, .ref q4, .ref q5, .int 0, .int 0, .ref q8, .ref q9, .ref q10, .null, .null, .null, .int 0, .null, .int 0, .int 0, .null, .int 0, .int 0, .int 0, .int 0, .int 0, .null, .null]) := by rw [hσn]; exact va_up_self _ _ _
  refine nvc_ok (uX7_init Γ) (S := [70]) 5 _ _ _ _ ?_
  simp only [m0, e0, nvc_s, s1i, s2i, s1l, s2l, sil, s1r, sir, siir, slir, srir, svr, sd1, sd2, lg, lput, ldel, isL_i, isL_r, isL_l, jmp, obj, obj1, fI, fR, arI, arL, arR, hput, f4_0, f4_1, f4_2, f4_3, lc_0, lc_1, rok_i, rok_b, rok_y, strF, fput_1, fput_2, csum_nil, csum_i, csum_l, csum_r, va_up_self, bx_uu, Int.reduceAdd, List.elem_nil, List.elem_cons, List.take_succ_cons, List.take_zero, List.drop_succ_cons, List.drop_zero, List.take_nil, List.drop_nil, List.reverse_cons, List.reverse_nil, List.nil_append, List.cons_append, List.append_nil, Option.toList_some, Option.toList_none, List.getElem?_cons_zero, List.getElem?_cons_succ, List.set_cons_zero, List.set_cons_succ, List.length_cons, List.length_nil, reduceIte, reduceCtorEq, and_true, true_and, and_self, or_true, true_or, false_and, and_false, not_true_eq_false, not_false_eq_true, true_implies, false_implies, implies_true, Nat.reduceAdd, Nat.reduceLT, Nat.reduceEqDiff, Nat.reduceLeDiff, Nat.reduceBEq, Nat.zero_add, Nat.lt_add_one, Bool.false_eq_true, Bool.or_false, Bool.or_true, Bool.or_self, Nat.zero_ne_one, Nat.one_ne_zero, ite_true, ite_false, ne_eq, Nat.reduceSub, Nat.succ_eq_add_one, Nat.zero_lt_succ, Nat.add_one_ne_zero, false_or, or_false, or_self, mX7_init_c, mX7_init_n, mX7_init_r, mX7_init_l, mX7_init_o, mX7_init_k, mX7_init_s, dX7_init_0, dX7_init_1, dX7_init_4, dX7_init_5, bc_8, dX7_init_7, fl_7_7_7, dX7_init_10, dX7_init_11, ic_5, dX7_init_12, dX7_init_14, fl_7_13_7, dX7_init_17, dX7_init_18, bc_27, dX7_init_20, dX7_init_22, fl_7_17_7, dX7_init_25, dX7_init_26, dX7_init_28, dX7_init_30, fl_7_20_7, dX7_init_33, dX7_init_34, sc_216, dX7_init_37, dX7_init_39, fl_7_23_7, dX7_init_42, dX7_init_43, dX7_init_45, dX7_init_47, fl_7_26_7, dX7_init_50, dX7_init_51, dX7_init_53, dX7_init_55, fl_7_29_7, dX7_init_58, dX7_init_59, dX7_init_62, dX7_init_64, fl_7_32_7, dX7_init_67, dX7_init_68, bc_96, dX7_init_70, dX7_init_72, fl_7_35_7, dX7_init_75, dX7_init_76, ic_4, dX7_init_77, dX7_init_79, fl_7_39_7, dX7_init_82, dX7_init_83, dX7_init_84, dX7_init_86, fl_7_42_7, dX7_init_89, dX7_init_90, bc_50, dX7_init_92, dX7_init_94, fl_7_45_7, dX7_init_97, dX7_init_98, bc_m4, dX7_init_100, fl_7_48_7, dX7_init_103, dX7_init_104, dX7_init_105, dX7_init_107, fl_7_51_7, dX7_init_110, dX7_init_111, dX7_init_112, dX7_init_114, fl_7_54_7, dX7_init_117, dX7_init_118, bc_24, dX7_init_120, dX7_init_122, fl_7_57_7, dX7_init_125, ic_0, dX7_init_126, dX7_init_127, dX7_init_128, dX7_init_129, tg_129_27, cnd2_ge, dX7_init_132, dX7_init_133, dX7_init_136, bc_20, dX7_init_138, dX7_init_139, dX7_init_140, dX7_init_142, dX7_init_143, dX7_init_144, dX7_init_147, dX7_init_148, ic_m1, dX7_init_149, dX7_init_150, ic_1, dX7_init_153, tg_153_m26, dX7_init_156, dX7_init_157, dX7_init_160, bc_26, dX7_init_162, dX7_init_163, dX7_init_164, fin_7_7_2, fin_7_7_3, fin_7_7_4, fin_7_7_5, fin_7_7_8, fin_7_7_9, fin_7_7_10, fin_7_7_11, fin_7_7_12, fin_7_7_13, fin_7_7_15, fin_7_7_18, fin_7_7_24, fin_7_7_25, sn_aload_n, sn_bipush, sn_getfield, sn_goto, sn_iadd, sn_iastore, sn_iconst, sn_if_icmp, sn_iinc, sn_iload_n, sn_istore_n, sn_putfield, sn_return, sn_sipush]
  simp only [hput] at hσn
  rw [← hσn]
  clear hσn
  have E0 := E0.tr E1
  have R0 := R0.keep E1
  have m0 := m1
  have e0 := e1
  clear E1 m1 e1
  refine n_newL 96 dX7_init_70 (by decide) (by decide) (by decide) (by decide) (by decide) (fun q11 hq11 => ?_)
  have nq11 : q11 ∉ σ.1 := E0.out hq11
  have Ea : Ext labn (labU labn q11 30) a σn (hnew σn q11 (lA Γ 96 (fun _ => 0))) := Ext.new hq11
  have hne := ne_fresh hq11 m0
  have e0 := (hnew_ne (e := lA Γ 96 (fun _ => 0)) hne).trans e0
  have R0 := R0.keep Ea
  have mi : q11 ∈ (hnew σn q11 (lA Γ 96 (fun _ => 0))).1 := hnew_q
  have ei : (hnew σn q11 (lA Γ 96 (fun _ => 0))).2 q11 = lA Γ 96 (fun _ => 0) := hnew_at
  have li : labU labn q11 30 q11 = 30 := labU_at
  have ni : q11 ≠ a := hne.symm
  have E0 := E0.tr Ea
  have l0 := (Ea a m0).2.1.trans l0
  have m0 := (Ea a m0).1
  clear Ea hne
  generalize hnew σn q11 (lA Γ 96 (fun _ => 0)) = σb at R0 E0 m0 e0 mi ei ⊢
  generalize labU labn q11 30 = labn at R0 E0 l0 li
  obtain ⟨σn, hσn⟩ : ∃ x, x = hput σb a (.inr (7, [.int 0, .int 8, .ref q2, .ref q3, .ref q4, .ref q5, .int 0, .int 0, .ref q8, .ref q9, .ref q10, .ref q11, .null, .null, .int 0, .null, .int 0, .int 0, .null, .int 0, .int 0, .int 0, .int 0, .int 0, .null, .null])) := ⟨_, rfl⟩
  have E1 : Ext labn labn a σb σn := by rw [hσn]; exact Ext.put
  have m1 : a ∈ σn.1 := by rw [hσn]; exact m0
  have e1 : σn.2 a = .inr (7, [.int 0, .int 8, .ref q2, .ref q3, .ref q4, .ref q5, .int 0, .int 0, .ref q8, .ref q9, .ref q10, .ref q11, .null, .null, .int 0, .null, .int 0, .int 0, .null, .int 0, .int 0, .int 0, .int 0, .int 0, .null, .null]) := by rw [hσn]; exact va_up_self _ _ _
  have ei := ((E1 q11 mi).2.2 ni).trans ei
  have mi := (E1 q11 mi).1
  refine nvc_ok (uX7_init Γ) (S := [77]) 5 _ _ _ _ ?_
  simp only [m0, e0, nvc_s, s1i, s2i, s1l, s2l, sil, s1r, sir, siir, slir, srir, svr, sd1, sd2, lg, lput, ldel, isL_i, isL_r, isL_l, jmp, obj, obj1, fI, fR, arI, arL, arR, hput, f4_0, f4_1, f4_2, f4_3, lc_0, lc_1, rok_i, rok_b, rok_y, strF, fput_1, fput_2, csum_nil, csum_i, csum_l, csum_r, va_up_self, bx_uu, Int.reduceAdd, List.elem_nil, List.elem_cons, List.take_succ_cons, List.take_zero, List.drop_succ_cons, List.drop_zero, List.take_nil, List.drop_nil, List.reverse_cons, List.reverse_nil, List.nil_append, List.cons_append, List.append_nil, Option.toList_some, Option.toList_none, List.getElem?_cons_zero, List.getElem?_cons_succ, List.set_cons_zero, List.set_cons_succ, List.length_cons, List.length_nil, reduceIte, reduceCtorEq, and_true, true_and, and_self, or_true, true_or, false_and, and_false, not_true_eq_false, not_false_eq_true, true_implies, false_implies, implies_true, Nat.reduceAdd, Nat.reduceLT, Nat.reduceEqDiff, Nat.reduceLeDiff, Nat.reduceBEq, Nat.zero_add, Nat.lt_add_one, Bool.false_eq_true, Bool.or_false, Bool.or_true, Bool.or_self, Nat.zero_ne_one, Nat.one_ne_zero, ite_true, ite_false, ne_eq, Nat.reduceSub, Nat.succ_eq_add_one, Nat.zero_lt_succ, Nat.add_one_ne_zero, false_or, or_false, or_self, mX7_init_c, mX7_init_n, mX7_init_r, mX7_init_l, mX7_init_o, mX7_init_k, mX7_init_s, dX7_init_0, dX7_init_1, dX7_init_4, dX7_init_5, bc_8, dX7_init_7, fl_7_7_7, dX7_init_10, dX7_init_11, ic_5, dX7_init_12, dX7_init_14, fl_7_13_7, dX7_init_17, dX7_init_18, bc_27, dX7_init_20, dX7_init_22, fl_7_17_7, dX7_init_25, dX7_init_26, dX7_init_28, dX7_init_30, fl_7_20_7, dX7_init_33, dX7_init_34, sc_216, dX7_init_37, dX7_init_39, fl_7_23_7, dX7_init_42, dX7_init_43, dX7_init_45, dX7_init_47, fl_7_26_7, dX7_init_50, dX7_init_51, dX7_init_53, dX7_init_55, fl_7_29_7, dX7_init_58, dX7_init_59, dX7_init_62, dX7_init_64, fl_7_32_7, dX7_init_67, dX7_init_68, bc_96, dX7_init_70, dX7_init_72, fl_7_35_7, dX7_init_75, dX7_init_76, ic_4, dX7_init_77, dX7_init_79, fl_7_39_7, dX7_init_82, dX7_init_83, dX7_init_84, dX7_init_86, fl_7_42_7, dX7_init_89, dX7_init_90, bc_50, dX7_init_92, dX7_init_94, fl_7_45_7, dX7_init_97, dX7_init_98, bc_m4, dX7_init_100, fl_7_48_7, dX7_init_103, dX7_init_104, dX7_init_105, dX7_init_107, fl_7_51_7, dX7_init_110, dX7_init_111, dX7_init_112, dX7_init_114, fl_7_54_7, dX7_init_117, dX7_init_118, bc_24, dX7_init_120, dX7_init_122, fl_7_57_7, dX7_init_125, ic_0, dX7_init_126, dX7_init_127, dX7_init_128, dX7_init_129, tg_129_27, cnd2_ge, dX7_init_132, dX7_init_133, dX7_init_136, bc_20, dX7_init_138, dX7_init_139, dX7_init_140, dX7_init_142, dX7_init_143, dX7_init_144, dX7_init_147, dX7_init_148, ic_m1, dX7_init_149, dX7_init_150, ic_1, dX7_init_153, tg_153_m26, dX7_init_156, dX7_init_157, dX7_init_160, bc_26, dX7_init_162, dX7_init_163, dX7_init_164, fin_7_7_2, fin_7_7_3, fin_7_7_4, fin_7_7_5, fin_7_7_8, fin_7_7_9, fin_7_7_10, fin_7_7_11, fin_7_7_12, fin_7_7_13, fin_7_7_15, fin_7_7_18, fin_7_7_24, fin_7_7_25, sn_aload_n, sn_bipush, sn_getfield, sn_goto, sn_iadd, sn_iastore, sn_iconst, sn_if_icmp, sn_iinc, sn_iload_n, sn_istore_n, sn_putfield, sn_return, sn_sipush]
  simp only [hput] at hσn
  rw [← hσn]
  clear hσn
  have E0 := E0.tr E1
  have R0 := R0.keep E1
  have m0 := m1
  have e0 := e1
  clear E1 m1 e1
  refine n_newI 4 dX7_init_77 (by decide) (by decide) (by decide) (by decide) (by decide) (fun q12 hq12 => ?_)
  have nq12 : q12 ∉ σ.1 := E0.out hq12
  have Ea : Ext labn (labU labn q12 30) a σn (hnew σn q12 (iA Γ 4 (fun _ => 0))) := Ext.new hq12
  have hne := ne_fresh hq12 m0
  have e0 := (hnew_ne (e := iA Γ 4 (fun _ => 0)) hne).trans e0
  have R0 := R0.add (N := 4) hq12 m0
  have ei := ((Ea q11 mi).2.2 ni).trans ei
  have li := (Ea q11 mi).2.1.trans li
  have mi := (Ea q11 mi).1
  have E0 := E0.tr Ea
  have l0 := (Ea a m0).2.1.trans l0
  have m0 := (Ea a m0).1
  clear Ea hne
  generalize hnew σn q12 (iA Γ 4 (fun _ => 0)) = σb at R0 E0 m0 e0 mi ei ⊢
  generalize labU labn q12 30 = labn at R0 E0 l0 li
  obtain ⟨σn, hσn⟩ : ∃ x, x = hput σb a (.inr (7, [.int 0, .int 8, .ref q2, .ref q3, .ref q4, .ref q5, .int 0, .int 0, .ref q8, .ref q9, .ref q10, .ref q11, .ref q12, .null, .int 0, .null, .int 0, .int 0, .null, .int 0, .int 0, .int 0, .int 0, .int 0, .null, .null])) := ⟨_, rfl⟩
  have E1 : Ext labn labn a σb σn := by rw [hσn]; exact Ext.put
  have m1 : a ∈ σn.1 := by rw [hσn]; exact m0
  have e1 : σn.2 a = .inr (7, [.int 0, .int 8, .ref q2, .ref q3, .ref q4, .ref q5, .int 0, .int 0, .ref q8, .ref q9, .ref q10, .ref q11, .ref q12, .null, .int 0, .null, .int 0, .int 0, .null, .int 0, .int 0, .int 0, .int 0, .int 0, .null, .null]) := by rw [hσn]; exact va_up_self _ _ _
  have ei := ((E1 q11 mi).2.2 ni).trans ei
  have mi := (E1 q11 mi).1
  refine nvc_ok (uX7_init Γ) (S := [84]) 5 _ _ _ _ ?_
  simp only [m0, e0, nvc_s, s1i, s2i, s1l, s2l, sil, s1r, sir, siir, slir, srir, svr, sd1, sd2, lg, lput, ldel, isL_i, isL_r, isL_l, jmp, obj, obj1, fI, fR, arI, arL, arR, hput, f4_0, f4_1, f4_2, f4_3, lc_0, lc_1, rok_i, rok_b, rok_y, strF, fput_1, fput_2, csum_nil, csum_i, csum_l, csum_r, va_up_self, bx_uu, Int.reduceAdd, List.elem_nil, List.elem_cons, List.take_succ_cons, List.take_zero, List.drop_succ_cons, List.drop_zero, List.take_nil, List.drop_nil, List.reverse_cons, List.reverse_nil, List.nil_append, List.cons_append, List.append_nil, Option.toList_some, Option.toList_none, List.getElem?_cons_zero, List.getElem?_cons_succ, List.set_cons_zero, List.set_cons_succ, List.length_cons, List.length_nil, reduceIte, reduceCtorEq, and_true, true_and, and_self, or_true, true_or, false_and, and_false, not_true_eq_false, not_false_eq_true, true_implies, false_implies, implies_true, Nat.reduceAdd, Nat.reduceLT, Nat.reduceEqDiff, Nat.reduceLeDiff, Nat.reduceBEq, Nat.zero_add, Nat.lt_add_one, Bool.false_eq_true, Bool.or_false, Bool.or_true, Bool.or_self, Nat.zero_ne_one, Nat.one_ne_zero, ite_true, ite_false, ne_eq, Nat.reduceSub, Nat.succ_eq_add_one, Nat.zero_lt_succ, Nat.add_one_ne_zero, false_or, or_false, or_self, mX7_init_c, mX7_init_n, mX7_init_r, mX7_init_l, mX7_init_o, mX7_init_k, mX7_init_s, dX7_init_0, dX7_init_1, dX7_init_4, dX7_init_5, bc_8, dX7_init_7, fl_7_7_7, dX7_init_10, dX7_init_11, ic_5, dX7_init_12, dX7_init_14, fl_7_13_7, dX7_init_17, dX7_init_18, bc_27, dX7_init_20, dX7_init_22, fl_7_17_7, dX7_init_25, dX7_init_26, dX7_init_28, dX7_init_30, fl_7_20_7, dX7_init_33, dX7_init_34, sc_216, dX7_init_37, dX7_init_39, fl_7_23_7, dX7_init_42, dX7_init_43, dX7_init_45, dX7_init_47, fl_7_26_7, dX7_init_50, dX7_init_51, dX7_init_53, dX7_init_55, fl_7_29_7, dX7_init_58, dX7_init_59, dX7_init_62, dX7_init_64, fl_7_32_7, dX7_init_67, dX7_init_68, bc_96, dX7_init_70, dX7_init_72, fl_7_35_7, dX7_init_75, dX7_init_76, ic_4, dX7_init_77, dX7_init_79, fl_7_39_7, dX7_init_82, dX7_init_83, dX7_init_84, dX7_init_86, fl_7_42_7, dX7_init_89, dX7_init_90, bc_50, dX7_init_92, dX7_init_94, fl_7_45_7, dX7_init_97, dX7_init_98, bc_m4, dX7_init_100, fl_7_48_7, dX7_init_103, dX7_init_104, dX7_init_105, dX7_init_107, fl_7_51_7, dX7_init_110, dX7_init_111, dX7_init_112, dX7_init_114, fl_7_54_7, dX7_init_117, dX7_init_118, bc_24, dX7_init_120, dX7_init_122, fl_7_57_7, dX7_init_125, ic_0, dX7_init_126, dX7_init_127, dX7_init_128, dX7_init_129, tg_129_27, cnd2_ge, dX7_init_132, dX7_init_133, dX7_init_136, bc_20, dX7_init_138, dX7_init_139, dX7_init_140, dX7_init_142, dX7_init_143, dX7_init_144, dX7_init_147, dX7_init_148, ic_m1, dX7_init_149, dX7_init_150, ic_1, dX7_init_153, tg_153_m26, dX7_init_156, dX7_init_157, dX7_init_160, bc_26, dX7_init_162, dX7_init_163, dX7_init_164, fin_7_7_2, fin_7_7_3, fin_7_7_4, fin_7_7_5, fin_7_7_8, fin_7_7_9, fin_7_7_10, fin_7_7_11, fin_7_7_12, fin_7_7_13, fin_7_7_15, fin_7_7_18, fin_7_7_24, fin_7_7_25, sn_aload_n, sn_bipush, sn_getfield, sn_goto, sn_iadd, sn_iastore, sn_iconst, sn_if_icmp, sn_iinc, sn_iload_n, sn_istore_n, sn_putfield, sn_return, sn_sipush]
  simp only [hput] at hσn
  rw [← hσn]
  clear hσn
  have E0 := E0.tr E1
  have R0 := R0.keep E1
  have m0 := m1
  have e0 := e1
  clear E1 m1 e1
  refine n_newI 4 dX7_init_84 (by decide) (by decide) (by decide) (by decide) (by decide) (fun q13 hq13 => ?_)
  have nq13 : q13 ∉ σ.1 := E0.out hq13
  have Ea : Ext labn (labU labn q13 30) a σn (hnew σn q13 (iA Γ 4 (fun _ => 0))) := Ext.new hq13
  have hne := ne_fresh hq13 m0
  have e0 := (hnew_ne (e := iA Γ 4 (fun _ => 0)) hne).trans e0
  have R0 := R0.add (N := 4) hq13 m0
  have ei := ((Ea q11 mi).2.2 ni).trans ei
  have li := (Ea q11 mi).2.1.trans li
  have mi := (Ea q11 mi).1
  have E0 := E0.tr Ea
  have l0 := (Ea a m0).2.1.trans l0
  have m0 := (Ea a m0).1
  clear Ea hne
  generalize hnew σn q13 (iA Γ 4 (fun _ => 0)) = σb at R0 E0 m0 e0 mi ei ⊢
  generalize labU labn q13 30 = labn at R0 E0 l0 li
  obtain ⟨σn, hσn⟩ : ∃ x, x = hput σb a (.inr (7, [.int 0, .int 8, .ref q2, .ref q3, .ref q4, .ref q5, .int 0, .int 0, .ref q8, .ref q9, .ref q10, .ref q11, .ref q12, .ref q13, .int 0, .null, .int 0, .int 0, .null, .int 0, .int 0, .int 0, .int 0, .int 0, .null, .null])) := ⟨_, rfl⟩
  have E1 : Ext labn labn a σb σn := by rw [hσn]; exact Ext.put
  have m1 : a ∈ σn.1 := by rw [hσn]; exact m0
  have e1 : σn.2 a = .inr (7, [.int 0, .int 8, .ref q2, .ref q3, .ref q4, .ref q5, .int 0, .int 0, .ref q8, .ref q9, .ref q10, .ref q11, .ref q12, .ref q13, .int 0, .null, .int 0, .int 0, .null, .int 0, .int 0, .int 0, .int 0, .int 0, .null, .null]) := by rw [hσn]; exact va_up_self _ _ _
  have ei := ((E1 q11 mi).2.2 ni).trans ei
  have mi := (E1 q11 mi).1
  refine nvc_ok (uX7_init Γ) (S := [92]) 5 _ _ _ _ ?_
  simp only [m0, e0, nvc_s, s1i, s2i, s1l, s2l, sil, s1r, sir, siir, slir, srir, svr, sd1, sd2, lg, lput, ldel, isL_i, isL_r, isL_l, jmp, obj, obj1, fI, fR, arI, arL, arR, hput, f4_0, f4_1, f4_2, f4_3, lc_0, lc_1, rok_i, rok_b, rok_y, strF, fput_1, fput_2, csum_nil, csum_i, csum_l, csum_r, va_up_self, bx_uu, Int.reduceAdd, List.elem_nil, List.elem_cons, List.take_succ_cons, List.take_zero, List.drop_succ_cons, List.drop_zero, List.take_nil, List.drop_nil, List.reverse_cons, List.reverse_nil, List.nil_append, List.cons_append, List.append_nil, Option.toList_some, Option.toList_none, List.getElem?_cons_zero, List.getElem?_cons_succ, List.set_cons_zero, List.set_cons_succ, List.length_cons, List.length_nil, reduceIte, reduceCtorEq, and_true, true_and, and_self, or_true, true_or, false_and, and_false, not_true_eq_false, not_false_eq_true, true_implies, false_implies, implies_true, Nat.reduceAdd, Nat.reduceLT, Nat.reduceEqDiff, Nat.reduceLeDiff, Nat.reduceBEq, Nat.zero_add, Nat.lt_add_one, Bool.false_eq_true, Bool.or_false, Bool.or_true, Bool.or_self, Nat.zero_ne_one, Nat.one_ne_zero, ite_true, ite_false, ne_eq, Nat.reduceSub, Nat.succ_eq_add_one, Nat.zero_lt_succ, Nat.add_one_ne_zero, false_or, or_false, or_self, mX7_init_c, mX7_init_n, mX7_init_r, mX7_init_l, mX7_init_o, mX7_init_k, mX7_init_s, dX7_init_0, dX7_init_1, dX7_init_4, dX7_init_5, bc_8, dX7_init_7, fl_7_7_7, dX7_init_10, dX7_init_11, ic_5, dX7_init_12, dX7_init_14, fl_7_13_7, dX7_init_17, dX7_init_18, bc_27, dX7_init_20, dX7_init_22, fl_7_17_7, dX7_init_25, dX7_init_26, dX7_init_28, dX7_init_30, fl_7_20_7, dX7_init_33, dX7_init_34, sc_216, dX7_init_37, dX7_init_39, fl_7_23_7, dX7_init_42, dX7_init_43, dX7_init_45, dX7_init_47, fl_7_26_7, dX7_init_50, dX7_init_51, dX7_init_53, dX7_init_55, fl_7_29_7, dX7_init_58, dX7_init_59, dX7_init_62, dX7_init_64, fl_7_32_7, dX7_init_67, dX7_init_68, bc_96, dX7_init_70, dX7_init_72, fl_7_35_7, dX7_init_75, dX7_init_76, ic_4, dX7_init_77, dX7_init_79, fl_7_39_7, dX7_init_82, dX7_init_83, dX7_init_84, dX7_init_86, fl_7_42_7, dX7_init_89, dX7_init_90, bc_50, dX7_init_92, dX7_init_94, fl_7_45_7, dX7_init_97, dX7_init_98, bc_m4, dX7_init_100, fl_7_48_7, dX7_init_103, dX7_init_104, dX7_init_105, dX7_init_107, fl_7_51_7, dX7_init_110, dX7_init_111, dX7_init_112, dX7_init_114, fl_7_54_7, dX7_init_117, dX7_init_118, bc_24, dX7_init_120, dX7_init_122, fl_7_57_7, dX7_init_125, ic_0, dX7_init_126, dX7_init_127, dX7_init_128, dX7_init_129, tg_129_27, cnd2_ge, dX7_init_132, dX7_init_133, dX7_init_136, bc_20, dX7_init_138, dX7_init_139, dX7_init_140, dX7_init_142, dX7_init_143, dX7_init_144, dX7_init_147, dX7_init_148, ic_m1, dX7_init_149, dX7_init_150, ic_1, dX7_init_153, tg_153_m26, dX7_init_156, dX7_init_157, dX7_init_160, bc_26, dX7_init_162, dX7_init_163, dX7_init_164, fin_7_7_2, fin_7_7_3, fin_7_7_4, fin_7_7_5, fin_7_7_8, fin_7_7_9, fin_7_7_10, fin_7_7_11, fin_7_7_12, fin_7_7_13, fin_7_7_15, fin_7_7_18, fin_7_7_24, fin_7_7_25, sn_aload_n, sn_bipush, sn_getfield, sn_goto, sn_iadd, sn_iastore, sn_iconst, sn_if_icmp, sn_iinc, sn_iload_n, sn_istore_n, sn_putfield, sn_return, sn_sipush]
  simp only [hput] at hσn
  rw [← hσn]
  clear hσn
  have E0 := E0.tr E1
  have R0 := R0.keep E1
  have m0 := m1
  have e0 := e1
  clear E1 m1 e1
  refine n_newI 50 dX7_init_92 (by decide) (by decide) (by decide) (by decide) (by decide) (fun q15 hq15 => ?_)
  have nq15 : q15 ∉ σ.1 := E0.out hq15
  have Ea : Ext labn (labU labn q15 30) a σn (hnew σn q15 (iA Γ 50 (fun _ => 0))) := Ext.new hq15
  have hne := ne_fresh hq15 m0
  have e0 := (hnew_ne (e := iA Γ 50 (fun _ => 0)) hne).trans e0
  have R0 := R0.add (N := 50) hq15 m0
  have ei := ((Ea q11 mi).2.2 ni).trans ei
  have li := (Ea q11 mi).2.1.trans li
  have mi := (Ea q11 mi).1
  have E0 := E0.tr Ea
  have l0 := (Ea a m0).2.1.trans l0
  have m0 := (Ea a m0).1
  clear Ea hne
  generalize hnew σn q15 (iA Γ 50 (fun _ => 0)) = σb at R0 E0 m0 e0 mi ei ⊢
  generalize labU labn q15 30 = labn at R0 E0 l0 li
  obtain ⟨σn, hσn⟩ : ∃ x, x = hput σb a (.inr (7, [.int 0, .int 8, .ref q2, .ref q3, .ref q4, .ref q5, .int 0, .int 0, .ref q8, .ref q9, .ref q10, .ref q11, .ref q12, .ref q13, .int 0, .ref q15, .int (-4), .int 0, .null, .int 0, .int 0, .int 0, .int 0, .int 0, .null, .null])) := ⟨_, rfl⟩
  have E1 : Ext labn labn a σb σn := by rw [hσn]; exact Ext.put
  have m1 : a ∈ σn.1 := by rw [hσn]; exact m0
  have e1 : σn.2 a = .inr (7, [.int 0, .int 8, .ref q2, .ref q3, .ref q4, .ref q5, .int 0, .int 0, .ref q8, .ref q9, .ref q10, .ref q11, .ref q12, .ref q13, .int 0, .ref q15, .int (-4), .int 0, .null, .int 0, .int 0, .int 0, .int 0, .int 0, .null, .null]) := by rw [hσn]; exact va_up_self _ _ _
  have ei := ((E1 q11 mi).2.2 ni).trans ei
  have mi := (E1 q11 mi).1
  refine nvc_ok (uX7_init Γ) (S := [105]) 8 _ _ _ _ ?_
  simp only [m0, e0, nvc_s, s1i, s2i, s1l, s2l, sil, s1r, sir, siir, slir, srir, svr, sd1, sd2, lg, lput, ldel, isL_i, isL_r, isL_l, jmp, obj, obj1, fI, fR, arI, arL, arR, hput, f4_0, f4_1, f4_2, f4_3, lc_0, lc_1, rok_i, rok_b, rok_y, strF, fput_1, fput_2, csum_nil, csum_i, csum_l, csum_r, va_up_self, bx_uu, Int.reduceAdd, List.elem_nil, List.elem_cons, List.take_succ_cons, List.take_zero, List.drop_succ_cons, List.drop_zero, List.take_nil, List.drop_nil, List.reverse_cons, List.reverse_nil, List.nil_append, List.cons_append, List.append_nil, Option.toList_some, Option.toList_none, List.getElem?_cons_zero, List.getElem?_cons_succ, List.set_cons_zero, List.set_cons_succ, List.length_cons, List.length_nil, reduceIte, reduceCtorEq, and_true, true_and, and_self, or_true, true_or, false_and, and_false, not_true_eq_false, not_false_eq_true, true_implies, false_implies, implies_true, Nat.reduceAdd, Nat.reduceLT, Nat.reduceEqDiff, Nat.reduceLeDiff, Nat.reduceBEq, Nat.zero_add, Nat.lt_add_one, Bool.false_eq_true, Bool.or_false, Bool.or_true, Bool.or_self, Nat.zero_ne_one, Nat.one_ne_zero, ite_true, ite_false, ne_eq, Nat.reduceSub, Nat.succ_eq_add_one, Nat.zero_lt_succ, Nat.add_one_ne_zero, false_or, or_false, or_self, mX7_init_c, mX7_init_n, mX7_init_r, mX7_init_l, mX7_init_o, mX7_init_k, mX7_init_s, dX7_init_0, dX7_init_1, dX7_init_4, dX7_init_5, bc_8, dX7_init_7, fl_7_7_7, dX7_init_10, dX7_init_11, ic_5, dX7_init_12, dX7_init_14, fl_7_13_7, dX7_init_17, dX7_init_18, bc_27, dX7_init_20, dX7_init_22, fl_7_17_7, dX7_init_25, dX7_init_26, dX7_init_28, dX7_init_30, fl_7_20_7, dX7_init_33, dX7_init_34, sc_216, dX7_init_37, dX7_init_39, fl_7_23_7, dX7_init_42, dX7_init_43, dX7_init_45, dX7_init_47, fl_7_26_7, dX7_init_50, dX7_init_51, dX7_init_53, dX7_init_55, fl_7_29_7, dX7_init_58, dX7_init_59, dX7_init_62, dX7_init_64, fl_7_32_7, dX7_init_67, dX7_init_68, bc_96, dX7_init_70, dX7_init_72, fl_7_35_7, dX7_init_75, dX7_init_76, ic_4, dX7_init_77, dX7_init_79, fl_7_39_7, dX7_init_82, dX7_init_83, dX7_init_84, dX7_init_86, fl_7_42_7, dX7_init_89, dX7_init_90, bc_50, dX7_init_92, dX7_init_94, fl_7_45_7, dX7_init_97, dX7_init_98, bc_m4, dX7_init_100, fl_7_48_7, dX7_init_103, dX7_init_104, dX7_init_105, dX7_init_107, fl_7_51_7, dX7_init_110, dX7_init_111, dX7_init_112, dX7_init_114, fl_7_54_7, dX7_init_117, dX7_init_118, bc_24, dX7_init_120, dX7_init_122, fl_7_57_7, dX7_init_125, ic_0, dX7_init_126, dX7_init_127, dX7_init_128, dX7_init_129, tg_129_27, cnd2_ge, dX7_init_132, dX7_init_133, dX7_init_136, bc_20, dX7_init_138, dX7_init_139, dX7_init_140, dX7_init_142, dX7_init_143, dX7_init_144, dX7_init_147, dX7_init_148, ic_m1, dX7_init_149, dX7_init_150, ic_1, dX7_init_153, tg_153_m26, dX7_init_156, dX7_init_157, dX7_init_160, bc_26, dX7_init_162, dX7_init_163, dX7_init_164, fin_7_7_2, fin_7_7_3, fin_7_7_4, fin_7_7_5, fin_7_7_8, fin_7_7_9, fin_7_7_10, fin_7_7_11, fin_7_7_12, fin_7_7_13, fin_7_7_15, fin_7_7_18, fin_7_7_24, fin_7_7_25, sn_aload_n, sn_bipush, sn_getfield, sn_goto, sn_iadd, sn_iastore, sn_iconst, sn_if_icmp, sn_iinc, sn_iload_n, sn_istore_n, sn_putfield, sn_return, sn_sipush]
  simp only [hput] at hσn
  rw [← hσn]
  clear hσn
  have E0 := E0.tr E1
  have R0 := R0.keep E1
  have m0 := m1
  have e0 := e1
  clear E1 m1 e1
  refine n_newI 4 dX7_init_105 (by decide) (by decide) (by decide) (by decide) (by decide) (fun q18 hq18 => ?_)
  have nq18 : q18 ∉ σ.1 := E0.out hq18
  have Ea : Ext labn (labU labn q18 30) a σn (hnew σn q18 (iA Γ 4 (fun _ => 0))) := Ext.new hq18
  have hne := ne_fresh hq18 m0
  have e0 := (hnew_ne (e := iA Γ 4 (fun _ => 0)) hne).trans e0
  have R0 := R0.add (N := 4) hq18 m0
  have ei := ((Ea q11 mi).2.2 ni).trans ei
  have li := (Ea q11 mi).2.1.trans li
  have mi := (Ea q11 mi).1
  have E0 := E0.tr Ea
  have l0 := (Ea a m0).2.1.trans l0
  have m0 := (Ea a m0).1
  clear Ea hne
  generalize hnew σn q18 (iA Γ 4 (fun _ => 0)) = σb at R0 E0 m0 e0 mi ei ⊢
  generalize labU labn q18 30 = labn at R0 E0 l0 li
  obtain ⟨σn, hσn⟩ : ∃ x, x = hput σb a (.inr (7, [.int 0, .int 8, .ref q2, .ref q3, .ref q4, .ref q5, .int 0, .int 0, .ref q8, .ref q9, .ref q10, .ref q11, .ref q12, .ref q13, .int 0, .ref q15, .int (-4), .int 0, .ref q18, .int 0, .int 0, .int 0, .int 0, .int 0, .null, .null])) := ⟨_, rfl⟩
  have E1 : Ext labn labn a σb σn := by rw [hσn]; exact Ext.put
  have m1 : a ∈ σn.1 := by rw [hσn]; exact m0
  have e1 : σn.2 a = .inr (7, [.int 0, .int 8, .ref q2, .ref q3, .ref q4, .ref q5, .int 0, .int 0, .ref q8, .ref q9, .ref q10, .ref q11, .ref q12, .ref q13, .int 0, .ref q15, .int (-4), .int 0, .ref q18, .int 0, .int 0, .int 0, .int 0, .int 0, .null, .null]) := by rw [hσn]; exact va_up_self _ _ _
  have ei := ((E1 q11 mi).2.2 ni).trans ei
  have mi := (E1 q11 mi).1
  refine nvc_ok (uX7_init Γ) (S := [112]) 5 _ _ _ _ ?_
  simp only [m0, e0, nvc_s, s1i, s2i, s1l, s2l, sil, s1r, sir, siir, slir, srir, svr, sd1, sd2, lg, lput, ldel, isL_i, isL_r, isL_l, jmp, obj, obj1, fI, fR, arI, arL, arR, hput, f4_0, f4_1, f4_2, f4_3, lc_0, lc_1, rok_i, rok_b, rok_y, strF, fput_1, fput_2, csum_nil, csum_i, csum_l, csum_r, va_up_self, bx_uu, Int.reduceAdd, List.elem_nil, List.elem_cons, List.take_succ_cons, List.take_zero, List.drop_succ_cons, List.drop_zero, List.take_nil, List.drop_nil, List.reverse_cons, List.reverse_nil, List.nil_append, List.cons_append, List.append_nil, Option.toList_some, Option.toList_none, List.getElem?_cons_zero, List.getElem?_cons_succ, List.set_cons_zero, List.set_cons_succ, List.length_cons, List.length_nil, reduceIte, reduceCtorEq, and_true, true_and, and_self, or_true, true_or, false_and, and_false, not_true_eq_false, not_false_eq_true, true_implies, false_implies, implies_true, Nat.reduceAdd, Nat.reduceLT, Nat.reduceEqDiff, Nat.reduceLeDiff, Nat.reduceBEq, Nat.zero_add, Nat.lt_add_one, Bool.false_eq_true, Bool.or_false, Bool.or_true, Bool.or_self, Nat.zero_ne_one, Nat.one_ne_zero, ite_true, ite_false, ne_eq, Nat.reduceSub, Nat.succ_eq_add_one, Nat.zero_lt_succ, Nat.add_one_ne_zero, false_or, or_false, or_self, mX7_init_c, mX7_init_n, mX7_init_r, mX7_init_l, mX7_init_o, mX7_init_k, mX7_init_s, dX7_init_0, dX7_init_1, dX7_init_4, dX7_init_5, bc_8, dX7_init_7, fl_7_7_7, dX7_init_10, dX7_init_11, ic_5, dX7_init_12, dX7_init_14, fl_7_13_7, dX7_init_17, dX7_init_18, bc_27, dX7_init_20, dX7_init_22, fl_7_17_7, dX7_init_25, dX7_init_26, dX7_init_28, dX7_init_30, fl_7_20_7, dX7_init_33, dX7_init_34, sc_216, dX7_init_37, dX7_init_39, fl_7_23_7, dX7_init_42, dX7_init_43, dX7_init_45, dX7_init_47, fl_7_26_7, dX7_init_50, dX7_init_51, dX7_init_53, dX7_init_55, fl_7_29_7, dX7_init_58, dX7_init_59, dX7_init_62, dX7_init_64, fl_7_32_7, dX7_init_67, dX7_init_68, bc_96, dX7_init_70, dX7_init_72, fl_7_35_7, dX7_init_75, dX7_init_76, ic_4, dX7_init_77, dX7_init_79, fl_7_39_7, dX7_init_82, dX7_init_83, dX7_init_84, dX7_init_86, fl_7_42_7, dX7_init_89, dX7_init_90, bc_50, dX7_init_92, dX7_init_94, fl_7_45_7, dX7_init_97, dX7_init_98, bc_m4, dX7_init_100, fl_7_48_7, dX7_init_103, dX7_init_104, dX7_init_105, dX7_init_107, fl_7_51_7, dX7_init_110, dX7_init_111, dX7_init_112, dX7_init_114, fl_7_54_7, dX7_init_117, dX7_init_118, bc_24, dX7_init_120, dX7_init_122, fl_7_57_7, dX7_init_125, ic_0, dX7_init_126, dX7_init_127, dX7_init_128, dX7_init_129, tg_129_27, cnd2_ge, dX7_init_132, dX7_init_133, dX7_init_136, bc_20, dX7_init_138, dX7_init_139, dX7_init_140, dX7_init_142, dX7_init_143, dX7_init_144, dX7_init_147, dX7_init_148, ic_m1, dX7_init_149, dX7_init_150, ic_1, dX7_init_153, tg_153_m26, dX7_init_156, dX7_init_157, dX7_init_160, bc_26, dX7_init_162, dX7_init_163, dX7_init_164, fin_7_7_2, fin_7_7_3, fin_7_7_4, fin_7_7_5, fin_7_7_8, fin_7_7_9, fin_7_7_10, fin_7_7_11, fin_7_7_12, fin_7_7_13, fin_7_7_15, fin_7_7_18, fin_7_7_24, fin_7_7_25, sn_aload_n, sn_bipush, sn_getfield, sn_goto, sn_iadd, sn_iastore, sn_iconst, sn_if_icmp, sn_iinc, sn_iload_n, sn_istore_n, sn_putfield, sn_return, sn_sipush]
  simp only [hput] at hσn
  rw [← hσn]
  clear hσn
  have E0 := E0.tr E1
  have R0 := R0.keep E1
  have m0 := m1
  have e0 := e1
  clear E1 m1 e1
  refine n_newI 5 dX7_init_112 (by decide) (by decide) (by decide) (by decide) (by decide) (fun q24 hq24 => ?_)
  have nq24 : q24 ∉ σ.1 := E0.out hq24
  have Ea : Ext labn (labU labn q24 30) a σn (hnew σn q24 (iA Γ 5 (fun _ => 0))) := Ext.new hq24
  have hne := ne_fresh hq24 m0
  have e0 := (hnew_ne (e := iA Γ 5 (fun _ => 0)) hne).trans e0
  have R0 := R0.add (N := 5) hq24 m0
  have ei := ((Ea q11 mi).2.2 ni).trans ei
  have li := (Ea q11 mi).2.1.trans li
  have mi := (Ea q11 mi).1
  have E0 := E0.tr Ea
  have l0 := (Ea a m0).2.1.trans l0
  have m0 := (Ea a m0).1
  clear Ea hne
  generalize hnew σn q24 (iA Γ 5 (fun _ => 0)) = σb at R0 E0 m0 e0 mi ei ⊢
  generalize labU labn q24 30 = labn at R0 E0 l0 li
  obtain ⟨σn, hσn⟩ : ∃ x, x = hput σb a (.inr (7, [.int 0, .int 8, .ref q2, .ref q3, .ref q4, .ref q5, .int 0, .int 0, .ref q8, .ref q9, .ref q10, .ref q11, .ref q12, .ref q13, .int 0, .ref q15, .int (-4), .int 0, .ref q18, .int 0, .int 0, .int 0, .int 0, .int 0, .ref q24, .null])) := ⟨_, rfl⟩
  have E1 : Ext labn labn a σb σn := by rw [hσn]; exact Ext.put
  have m1 : a ∈ σn.1 := by rw [hσn]; exact m0
  have e1 : σn.2 a = .inr (7, [.int 0, .int 8, .ref q2, .ref q3, .ref q4, .ref q5, .int 0, .int 0, .ref q8, .ref q9, .ref q10, .ref q11, .ref q12, .ref q13, .int 0, .ref q15, .int (-4), .int 0, .ref q18, .int 0, .int 0, .int 0, .int 0, .int 0, .ref q24, .null]) := by rw [hσn]; exact va_up_self _ _ _
  have ei := ((E1 q11 mi).2.2 ni).trans ei
  have mi := (E1 q11 mi).1
  refine nvc_ok (uX7_init Γ) (S := [120]) 5 _ _ _ _ ?_
  simp only [m0, e0, nvc_s, s1i, s2i, s1l, s2l, sil, s1r, sir, siir, slir, srir, svr, sd1, sd2, lg, lput, ldel, isL_i, isL_r, isL_l, jmp, obj, obj1, fI, fR, arI, arL, arR, hput, f4_0, f4_1, f4_2, f4_3, lc_0, lc_1, rok_i, rok_b, rok_y, strF, fput_1, fput_2, csum_nil, csum_i, csum_l, csum_r, va_up_self, bx_uu, Int.reduceAdd, List.elem_nil, List.elem_cons, List.take_succ_cons, List.take_zero, List.drop_succ_cons, List.drop_zero, List.take_nil, List.drop_nil, List.reverse_cons, List.reverse_nil, List.nil_append, List.cons_append, List.append_nil, Option.toList_some, Option.toList_none, List.getElem?_cons_zero, List.getElem?_cons_succ, List.set_cons_zero, List.set_cons_succ, List.length_cons, List.length_nil, reduceIte, reduceCtorEq, and_true, true_and, and_self, or_true, true_or, false_and, and_false, not_true_eq_false, not_false_eq_true, true_implies, false_implies, implies_true, Nat.reduceAdd, Nat.reduceLT, Nat.reduceEqDiff, Nat.reduceLeDiff, Nat.reduceBEq, Nat.zero_add, Nat.lt_add_one, Bool.false_eq_true, Bool.or_false, Bool.or_true, Bool.or_self, Nat.zero_ne_one, Nat.one_ne_zero, ite_true, ite_false, ne_eq, Nat.reduceSub, Nat.succ_eq_add_one, Nat.zero_lt_succ, Nat.add_one_ne_zero, false_or, or_false, or_self, mX7_init_c, mX7_init_n, mX7_init_r, mX7_init_l, mX7_init_o, mX7_init_k, mX7_init_s, dX7_init_0, dX7_init_1, dX7_init_4, dX7_init_5, bc_8, dX7_init_7, fl_7_7_7, dX7_init_10, dX7_init_11, ic_5, dX7_init_12, dX7_init_14, fl_7_13_7, dX7_init_17, dX7_init_18, bc_27, dX7_init_20, dX7_init_22, fl_7_17_7, dX7_init_25, dX7_init_26, dX7_init_28, dX7_init_30, fl_7_20_7, dX7_init_33, dX7_init_34, sc_216, dX7_init_37, dX7_init_39, fl_7_23_7, dX7_init_42, dX7_init_43, dX7_init_45, dX7_init_47, fl_7_26_7, dX7_init_50, dX7_init_51, dX7_init_53, dX7_init_55, fl_7_29_7, dX7_init_58, dX7_init_59, dX7_init_62, dX7_init_64, fl_7_32_7, dX7_init_67, dX7_init_68, bc_96, dX7_init_70, dX7_init_72, fl_7_35_7, dX7_init_75, dX7_init_76, ic_4, dX7_init_77, dX7_init_79, fl_7_39_7, dX7_init_82, dX7_init_83, dX7_init_84, dX7_init_86, fl_7_42_7, dX7_init_89, dX7_init_90, bc_50, dX7_init_92, dX7_init_94, fl_7_45_7, dX7_init_97, dX7_init_98, bc_m4, dX7_init_100, fl_7_48_7, dX7_init_103, dX7_init_104, dX7_init_105, dX7_init_107, fl_7_51_7, dX7_init_110, dX7_init_111, dX7_init_112, dX7_init_114, fl_7_54_7, dX7_init_117, dX7_init_118, bc_24, dX7_init_120, dX7_init_122, fl_7_57_7, dX7_init_125, ic_0, dX7_init_126, dX7_init_127, dX7_init_128, dX7_init_129, tg_129_27, cnd2_ge, dX7_init_132, dX7_init_133, dX7_init_136, bc_20, dX7_init_138, dX7_init_139, dX7_init_140, dX7_init_142, dX7_init_143, dX7_init_144, dX7_init_147, dX7_init_148, ic_m1, dX7_init_149, dX7_init_150, ic_1, dX7_init_153, tg_153_m26, dX7_init_156, dX7_init_157, dX7_init_160, bc_26, dX7_init_162, dX7_init_163, dX7_init_164, fin_7_7_2, fin_7_7_3, fin_7_7_4, fin_7_7_5, fin_7_7_8, fin_7_7_9, fin_7_7_10, fin_7_7_11, fin_7_7_12, fin_7_7_13, fin_7_7_15, fin_7_7_18, fin_7_7_24, fin_7_7_25, sn_aload_n, sn_bipush, sn_getfield, sn_goto, sn_iadd, sn_iastore, sn_iconst, sn_if_icmp, sn_iinc, sn_iload_n, sn_istore_n, sn_putfield, sn_return, sn_sipush]
  simp only [hput] at hσn
  rw [← hσn]
  clear hσn
  have E0 := E0.tr E1
  have R0 := R0.keep E1
  have m0 := m1
  have e0 := e1
  clear E1 m1 e1
  refine n_newI 24 dX7_init_120 (by decide) (by decide) (by decide) (by decide) (by decide) (fun q25 hq25 => ?_)
  have nq25 : q25 ∉ σ.1 := E0.out hq25
  have Ea : Ext labn (labU labn q25 30) a σn (hnew σn q25 (iA Γ 24 (fun _ => 0))) := Ext.new hq25
  have hne := ne_fresh hq25 m0
  have e0 := (hnew_ne (e := iA Γ 24 (fun _ => 0)) hne).trans e0
  have R0 := R0.add (N := 24) hq25 m0
  have ei := ((Ea q11 mi).2.2 ni).trans ei
  have li := (Ea q11 mi).2.1.trans li
  have mi := (Ea q11 mi).1
  have E0 := E0.tr Ea
  have l0 := (Ea a m0).2.1.trans l0
  have m0 := (Ea a m0).1
  clear Ea hne
  generalize hnew σn q25 (iA Γ 24 (fun _ => 0)) = σb at R0 E0 m0 e0 mi ei ⊢
  generalize labU labn q25 30 = labn at R0 E0 l0 li
  obtain ⟨σn, hσn⟩ : ∃ x, x = hput σb a (.inr (7, [.int 0, .int 8, .ref q2, .ref q3, .ref q4, .ref q5, .int 0, .int 0, .ref q8, .ref q9, .ref q10, .ref q11, .ref q12, .ref q13, .int 0, .ref q15, .int (-4), .int 0, .ref q18, .int 0, .int 0, .int 0, .int 0, .int 0, .ref q24, .ref q25])) := ⟨_, rfl⟩
  have E1 : Ext labn labn a σb σn := by rw [hσn]; exact Ext.put
  have m1 : a ∈ σn.1 := by rw [hσn]; exact m0
  have e1 : σn.2 a = .inr (7, [.int 0, .int 8, .ref q2, .ref q3, .ref q4, .ref q5, .int 0, .int 0, .ref q8, .ref q9, .ref q10, .ref q11, .ref q12, .ref q13, .int 0, .ref q15, .int (-4), .int 0, .ref q18, .int 0, .int 0, .int 0, .int 0, .int 0, .ref q24, .ref q25]) := by rw [hσn]; exact va_up_self _ _ _
  have ei := ((E1 q11 mi).2.2 ni).trans ei
  have mi := (E1 q11 mi).1
  refine nvc_ok (uX7_init Γ) (S := [127]) 5 _ _ _ _ ?_
  simp only [m0, e0, nvc_s, s1i, s2i, s1l, s2l, sil, s1r, sir, siir, slir, srir, svr, sd1, sd2, lg, lput, ldel, isL_i, isL_r, isL_l, jmp, obj, obj1, fI, fR, arI, arL, arR, hput, f4_0, f4_1, f4_2, f4_3, lc_0, lc_1, rok_i, rok_b, rok_y, strF, fput_1, fput_2, csum_nil, csum_i, csum_l, csum_r, va_up_self, bx_uu, Int.reduceAdd, List.elem_nil, List.elem_cons, List.take_succ_cons, List.take_zero, List.drop_succ_cons, List.drop_zero, List.take_nil, List.drop_nil, List.reverse_cons, List.reverse_nil, List.nil_append, List.cons_append, List.append_nil, Option.toList_some, Option.toList_none, List.getElem?_cons_zero, List.getElem?_cons_succ, List.set_cons_zero, List.set_cons_succ, List.length_cons, List.length_nil, reduceIte, reduceCtorEq, and_true, true_and, and_self, or_true, true_or, false_and, and_false, not_true_eq_false, not_false_eq_true, true_implies, false_implies, implies_true, Nat.reduceAdd, Nat.reduceLT, Nat.reduceEqDiff, Nat.reduceLeDiff, Nat.reduceBEq, Nat.zero_add, Nat.lt_add_one, Bool.false_eq_true, Bool.or_false, Bool.or_true, Bool.or_self, Nat.zero_ne_one, Nat.one_ne_zero, ite_true, ite_false, ne_eq, Nat.reduceSub, Nat.succ_eq_add_one, Nat.zero_lt_succ, Nat.add_one_ne_zero, false_or, or_false, or_self, mX7_init_c, mX7_init_n, mX7_init_r, mX7_init_l, mX7_init_o, mX7_init_k, mX7_init_s, dX7_init_0, dX7_init_1, dX7_init_4, dX7_init_5, bc_8, dX7_init_7, fl_7_7_7, dX7_init_10, dX7_init_11, ic_5, dX7_init_12, dX7_init_14, fl_7_13_7, dX7_init_17, dX7_init_18, bc_27, dX7_init_20, dX7_init_22, fl_7_17_7, dX7_init_25, dX7_init_26, dX7_init_28, dX7_init_30, fl_7_20_7, dX7_init_33, dX7_init_34, sc_216, dX7_init_37, dX7_init_39, fl_7_23_7, dX7_init_42, dX7_init_43, dX7_init_45, dX7_init_47, fl_7_26_7, dX7_init_50, dX7_init_51, dX7_init_53, dX7_init_55, fl_7_29_7, dX7_init_58, dX7_init_59, dX7_init_62, dX7_init_64, fl_7_32_7, dX7_init_67, dX7_init_68, bc_96, dX7_init_70, dX7_init_72, fl_7_35_7, dX7_init_75, dX7_init_76, ic_4, dX7_init_77, dX7_init_79, fl_7_39_7, dX7_init_82, dX7_init_83, dX7_init_84, dX7_init_86, fl_7_42_7, dX7_init_89, dX7_init_90, bc_50, dX7_init_92, dX7_init_94, fl_7_45_7, dX7_init_97, dX7_init_98, bc_m4, dX7_init_100, fl_7_48_7, dX7_init_103, dX7_init_104, dX7_init_105, dX7_init_107, fl_7_51_7, dX7_init_110, dX7_init_111, dX7_init_112, dX7_init_114, fl_7_54_7, dX7_init_117, dX7_init_118, bc_24, dX7_init_120, dX7_init_122, fl_7_57_7, dX7_init_125, ic_0, dX7_init_126, dX7_init_127, dX7_init_128, dX7_init_129, tg_129_27, cnd2_ge, dX7_init_132, dX7_init_133, dX7_init_136, bc_20, dX7_init_138, dX7_init_139, dX7_init_140, dX7_init_142, dX7_init_143, dX7_init_144, dX7_init_147, dX7_init_148, ic_m1, dX7_init_149, dX7_init_150, ic_1, dX7_init_153, tg_153_m26, dX7_init_156, dX7_init_157, dX7_init_160, bc_26, dX7_init_162, dX7_init_163, dX7_init_164, fin_7_7_2, fin_7_7_3, fin_7_7_4, fin_7_7_5, fin_7_7_8, fin_7_7_9, fin_7_7_10, fin_7_7_11, fin_7_7_12, fin_7_7_13, fin_7_7_15, fin_7_7_18, fin_7_7_24, fin_7_7_25, sn_aload_n, sn_bipush, sn_getfield, sn_goto, sn_iadd, sn_iastore, sn_iconst, sn_if_icmp, sn_iinc, sn_iload_n, sn_istore_n, sn_putfield, sn_return, sn_sipush]
  simp only [hput] at hσn
  rw [← hσn]
  clear hσn
  have E0 := E0.tr E1
  have R0 := R0.keep E1
  have m0 := m1
  have e0 := e1
  clear E1 m1 e1
  have R1 := R0.1
  have R2 := R0.2
  simp only [List.mem_cons, List.not_mem_nil, or_false, forall_eq_or_imp, forall_eq] at R1
  simp only [List.map_cons, List.map_nil, List.nodup_cons, List.mem_cons, List.not_mem_nil, or_false, not_or, not_false_eq_true, List.nodup_nil, and_true] at R2
  obtain ⟨⟨ma25, ea25, la25, -⟩, ⟨ma24, ea24, la24, -⟩, ⟨ma18, ea18, la18, -⟩, ⟨ma15, ea15, la15, -⟩, ⟨ma13, ea13, la13, -⟩, ⟨ma12, ea12, la12, -⟩, ⟨ma10, ea10, la10, -⟩, ⟨ma9, ea9, la9, -⟩, ⟨ma8, ea8, la8, -⟩, ⟨ma5, ea5, la5, -⟩, ⟨ma4, ea4, la4, -⟩, ⟨ma3, ea3, la3, -⟩, ⟨ma2, ea2, la2, -⟩⟩ := R1
  obtain ⟨⟨d25_24, d25_18, d25_15, d25_13, d25_12, d25_10, d25_9, d25_8, d25_5, d25_4, d25_3, d25_2⟩, ⟨d24_18, d24_15, d24_13, d24_12, d24_10, d24_9, d24_8, d24_5, d24_4, d24_3, d24_2⟩, ⟨d18_15, d18_13, d18_12, d18_10, d18_9, d18_8, d18_5, d18_4, d18_3, d18_2⟩, ⟨d15_13, d15_12, d15_10, d15_9, d15_8, d15_5, d15_4, d15_3, d15_2⟩, ⟨d13_12, d13_10, d13_9, d13_8, d13_5, d13_4, d13_3, d13_2⟩, ⟨d12_10, d12_9, d12_8, d12_5, d12_4, d12_3, d12_2⟩, ⟨d10_9, d10_8, d10_5, d10_4, d10_3, d10_2⟩, ⟨d9_8, d9_5, d9_4, d9_3, d9_2⟩, ⟨d8_5, d8_4, d8_3, d8_2⟩, ⟨d5_4, d5_3, d5_2⟩, ⟨d4_3, d4_2⟩, d3_2⟩ := R2
  obtain ⟨ad, had⟩ : ∃ ad : Nat → Nat, ad = fun k => match k with | 2 => q2 | 3 => q3 | 4 => q4 | 5 => q5 | 8 => q8 | 9 => q9 | 10 => q10 | 11 => q11 | 12 => q12 | 13 => q13 | 15 => q15 | 18 => q18 | 24 => q24 | _ => q25 := ⟨_, rfl⟩
  have hl := loop 4 0 labn ad (fun _ _ => 0) σn rfl E0 (by rw [had]; exact nq3) (by rw [had]; exact nq13) (by
    rw [had]
    refine ⟨⟨m0, l0, mi, li⟩, e0, ei, fun k hk => ?_, fun j k hj hk hn => ?_⟩
    · have hk' : k ∈ [2, 3, 4, 5, 8, 9, 10, 12, 13, 15, 18, 24, 25] := List.elem_iff.mp hk
      simp only [List.mem_cons, List.not_mem_nil, or_false] at hk'
      rcases hk' with rfl | rfl | rfl | rfl | rfl | rfl | rfl | rfl | rfl | rfl | rfl | rfl | rfl
      · exact ⟨ma2, la2, ea2⟩
      · exact ⟨ma3, la3, ea3⟩
      · exact ⟨ma4, la4, ea4⟩
      · exact ⟨ma5, la5, ea5⟩
      · exact ⟨ma8, la8, ea8⟩
      · exact ⟨ma9, la9, ea9⟩
      · exact ⟨ma10, la10, ea10⟩
      · exact ⟨ma12, la12, ea12⟩
      · exact ⟨ma13, la13, ea13⟩
      · exact ⟨ma15, la15, ea15⟩
      · exact ⟨ma18, la18, ea18⟩
      · exact ⟨ma24, la24, ea24⟩
      · exact ⟨ma25, la25, ea25⟩
    · have hj' : j ∈ [2, 3, 4, 5, 8, 9, 10, 12, 13, 15, 18, 24, 25] := List.elem_iff.mp hj
      have hk' : k ∈ [2, 3, 4, 5, 8, 9, 10, 12, 13, 15, 18, 24, 25] := List.elem_iff.mp hk
      simp only [List.mem_cons, List.not_mem_nil, or_false] at hj' hk'
      rcases hj' with rfl | rfl | rfl | rfl | rfl | rfl | rfl | rfl | rfl | rfl | rfl | rfl | rfl <;> rcases hk' with rfl | rfl | rfl | rfl | rfl | rfl | rfl | rfl | rfl | rfl | rfl | rfl | rfl
      · exact absurd rfl hn
      · exact fun z => d3_2 z.symm
      · exact fun z => d4_2 z.symm
      · exact fun z => d5_2 z.symm
      · exact fun z => d8_2 z.symm
      · exact fun z => d9_2 z.symm
      · exact fun z => d10_2 z.symm
      · exact fun z => d12_2 z.symm
      · exact fun z => d13_2 z.symm
      · exact fun z => d15_2 z.symm
      · exact fun z => d18_2 z.symm
      · exact fun z => d24_2 z.symm
      · exact fun z => d25_2 z.symm
      · exact d3_2
      · exact absurd rfl hn
      · exact fun z => d4_3 z.symm
      · exact fun z => d5_3 z.symm
      · exact fun z => d8_3 z.symm
      · exact fun z => d9_3 z.symm
      · exact fun z => d10_3 z.symm
      · exact fun z => d12_3 z.symm
      · exact fun z => d13_3 z.symm
      · exact fun z => d15_3 z.symm
      · exact fun z => d18_3 z.symm
      · exact fun z => d24_3 z.symm
      · exact fun z => d25_3 z.symm
      · exact d4_2
      · exact d4_3
      · exact absurd rfl hn
      · exact fun z => d5_4 z.symm
      · exact fun z => d8_4 z.symm
      · exact fun z => d9_4 z.symm
      · exact fun z => d10_4 z.symm
      · exact fun z => d12_4 z.symm
      · exact fun z => d13_4 z.symm
      · exact fun z => d15_4 z.symm
      · exact fun z => d18_4 z.symm
      · exact fun z => d24_4 z.symm
      · exact fun z => d25_4 z.symm
      · exact d5_2
      · exact d5_3
      · exact d5_4
      · exact absurd rfl hn
      · exact fun z => d8_5 z.symm
      · exact fun z => d9_5 z.symm
      · exact fun z => d10_5 z.symm
      · exact fun z => d12_5 z.symm
      · exact fun z => d13_5 z.symm
      · exact fun z => d15_5 z.symm
      · exact fun z => d18_5 z.symm
      · exact fun z => d24_5 z.symm
      · exact fun z => d25_5 z.symm
      · exact d8_2
      · exact d8_3
      · exact d8_4
      · exact d8_5
      · exact absurd rfl hn
      · exact fun z => d9_8 z.symm
      · exact fun z => d10_8 z.symm
      · exact fun z => d12_8 z.symm
      · exact fun z => d13_8 z.symm
      · exact fun z => d15_8 z.symm
      · exact fun z => d18_8 z.symm
      · exact fun z => d24_8 z.symm
      · exact fun z => d25_8 z.symm
      · exact d9_2
      · exact d9_3
      · exact d9_4
      · exact d9_5
      · exact d9_8
      · exact absurd rfl hn
      · exact fun z => d10_9 z.symm
      · exact fun z => d12_9 z.symm
      · exact fun z => d13_9 z.symm
      · exact fun z => d15_9 z.symm
      · exact fun z => d18_9 z.symm
      · exact fun z => d24_9 z.symm
      · exact fun z => d25_9 z.symm
      · exact d10_2
      · exact d10_3
      · exact d10_4
      · exact d10_5
      · exact d10_8
      · exact d10_9
      · exact absurd rfl hn
      · exact fun z => d12_10 z.symm
      · exact fun z => d13_10 z.symm
      · exact fun z => d15_10 z.symm
      · exact fun z => d18_10 z.symm
      · exact fun z => d24_10 z.symm
      · exact fun z => d25_10 z.symm
      · exact d12_2
      · exact d12_3
      · exact d12_4
      · exact d12_5
      · exact d12_8
      · exact d12_9
      · exact d12_10
      · exact absurd rfl hn
      · exact fun z => d13_12 z.symm
      · exact fun z => d15_12 z.symm
      · exact fun z => d18_12 z.symm
      · exact fun z => d24_12 z.symm
      · exact fun z => d25_12 z.symm
      · exact d13_2
      · exact d13_3
      · exact d13_4
      · exact d13_5
      · exact d13_8
      · exact d13_9
      · exact d13_10
      · exact d13_12
      · exact absurd rfl hn
      · exact fun z => d15_13 z.symm
      · exact fun z => d18_13 z.symm
      · exact fun z => d24_13 z.symm
      · exact fun z => d25_13 z.symm
      · exact d15_2
      · exact d15_3
      · exact d15_4
      · exact d15_5
      · exact d15_8
      · exact d15_9
      · exact d15_10
      · exact d15_12
      · exact d15_13
      · exact absurd rfl hn
      · exact fun z => d18_15 z.symm
      · exact fun z => d24_15 z.symm
      · exact fun z => d25_15 z.symm
      · exact d18_2
      · exact d18_3
      · exact d18_4
      · exact d18_5
      · exact d18_8
      · exact d18_9
      · exact d18_10
      · exact d18_12
      · exact d18_13
      · exact d18_15
      · exact absurd rfl hn
      · exact fun z => d24_18 z.symm
      · exact fun z => d25_18 z.symm
      · exact d24_2
      · exact d24_3
      · exact d24_4
      · exact d24_5
      · exact d24_8
      · exact d24_9
      · exact d24_10
      · exact d24_12
      · exact d24_13
      · exact d24_15
      · exact d24_18
      · exact absurd rfl hn
      · exact fun z => d25_24 z.symm
      · exact d25_2
      · exact d25_3
      · exact d25_4
      · exact d25_5
      · exact d25_8
      · exact d25_9
      · exact d25_10
      · exact d25_12
      · exact d25_13
      · exact d25_15
      · exact d25_18
      · exact d25_24
      · exact absurd rfl hn) (fun _ _ _ => rfl) (fun j hj => absurd hj (Nat.not_lt_zero _)) (fun _ _ => rfl) (fun j hj => absurd hj (Nat.not_lt_zero _))
  exact hl
