/-! ===== YawnKeysModel: a college read ===== -/
def mlt (l : Nat → Int32) (len p : Nat) : Int32 := if p < len then l p else 0
def MLt (x y : Int32) : Prop := (x = -1 ∧ y = 0) ∨ ∃ n, 32 ≤ n ∧ n < 127 ∧ x = nI n ∧ y = nI n
theorem mlt_ltr {l : Nat → Int32} {len p : Nat} {v : Int32} {f : Nat → Int32} (h : RT (l, len) v f) : MLt (ltr l len p) (mlt l len p) := by
  unfold ltr mlt
  by_cases c : p < len
  · rw [if_pos c, if_pos c]
    obtain ⟨-, h2⟩ := h.2.2 p c
    simp only at h2
    obtain ⟨h3, h4⟩ := inr_iff.mp h2
    obtain ⟨n, hn, e⟩ := nI_of2 (M := 126) (n := 126) (by decide) (i_nlt.mpr (Int32.le_trans (by decide) h3)) h4
    refine Or.inr ⟨n, ?_, by omega, e, e⟩
    rw [e] at h3
    exact (nI_leI (a := 32) (by decide) (by omega)).mp h3
  · rw [if_neg c, if_neg c]
    exact Or.inl ⟨rfl, rfl⟩
theorem mq_isd {x y : Int32} (h : MLt x y) : isd x = inr y 48 57 := by
  rcases h with ⟨rfl, rfl⟩ | ⟨n, h1, h2, rfl, rfl⟩
  · decide
  · rfl
theorem mqW : ∀ n, n < 127 → inr (nI n - 97) 0 20 = inr (nI n) 97 117 := by decide +kernel
theorem mq_w {x y : Int32} (h : MLt x y) : inr (x - 97) 0 20 = inr y 97 117 := by
  rcases h with ⟨rfl, rfl⟩ | ⟨n, h1, h2, rfl, rfl⟩
  · decide
  · exact mqW n h2
theorem mq_v {x y : Int32} (h : MLt x y) (hx : ¬ x = -1) : x = y := by
  rcases h with ⟨rfl, rfl⟩ | ⟨n, h1, h2, rfl, rfl⟩
  · exact absurd rfl hx
  · rfl
theorem mq_c {x y c : Int32} (h : MLt x y) (h1 : ¬ c = -1) (h0 : ¬ c = 0) : x = c ↔ y = c := by
  rcases h with ⟨rfl, rfl⟩ | ⟨n, h1, h2, rfl, rfl⟩
  · exact ⟨fun z => absurd z.symm h1, fun z => absurd z.symm h0⟩
  · exact Iff.rfl
theorem mq_end {x y : Int32} (h : MLt x y) : x = -1 ↔ y = 0 := by
  rcases h with ⟨rfl, rfl⟩ | ⟨n, h1, h2, rfl, rfl⟩
  · exact ⟨fun _ => rfl, fun _ => rfl⟩
  · refine ⟨fun z => ?_, fun z => ?_⟩
    · have := congrArg Int32.toInt z
      rw [nI_toInt (by omega)] at this
      have e : (-1 : Int32).toInt = -1 := by decide
      omega
    · have := (nI_eq (a := n) (b := 0) (by omega) (by decide)).mp z
      omega
theorem mqK : ∀ P, P < 6 → ∀ n, n < 127 → inr (nI n - 48) 0 (nI P - 1) = inr (nI n) 48 (47 + nI P) := by decide +kernel
theorem mqK1 : ∀ P, P < 6 → inr ((-1 : Int32) - 48) 0 (nI P - 1) = inr 0 48 (47 + nI P) := by decide +kernel
theorem mq_k {x y : Int32} (h : MLt x y) {P : Nat} (hP : P ≤ 5) : inr (x - 48) 0 (nI P - 1) = inr y 48 (47 + nI P) := by
  rcases h with ⟨rfl, rfl⟩ | ⟨n, h1, h2, rfl, rfl⟩
  · exact mqK1 P (by omega)
  · exact mqK P (by omega) n h2
def kby (y : Int32) : Int32 := if y = 100 then 0 else if y = 99 then 1 else if y = 111 then 2 else if y = 108 then 3 else if y = 98 then 4 else -4
theorem mqD : ∀ n, n < 127 → (¬ 0 ≤ kdC (nI n) ∧ kby (nI n) = -4) ∨ (0 ≤ kdC (nI n) ∧ kdC (nI n) = kby (nI n) ∧ ¬ kby (nI n) = -4) := by decide +kernel
theorem mq_d {x y : Int32} (h : MLt x y) : (¬ 0 ≤ kdC x ∧ kby y = -4) ∨ (0 ≤ kdC x ∧ kdC x = kby y ∧ ¬ kby y = -4) := by
  rcases h with ⟨rfl, rfl⟩ | ⟨n, h1, h2, rfl, rfl⟩
  · exact Or.inl (by decide)
  · exact mqD n h2
theorem upd_id {f : Nat → Int32} {k : Nat} {v : Int32} (h : f k = v) : upd f k v = f := by
  funext j
  by_cases e : j = k
  · subst e; rw [pk_us]; exact h.symm
  · rw [pk_un e]
theorem nx_nx {l : Nat → Int32} {len : Nat} : ∀ (m p : Nat), len - p = m → nx l len (nx l len p) = nx l len p := by
  intro m
  induction m with
  | zero =>
    intro p hp
    rw [nx_s (l := l) (len := len) (p := p) (fun z => by omega), nx_s (fun z => by omega)]
  | succ m ih =>
    intro p hp
    by_cases c : p < len ∧ l p = 32
    · rw [nx_b c.1 c.2]
      exact ih (p + 1) (by omega)
    · rw [nx_s c, nx_s c]
/-- what reading leaves as it is -/
def SFp (s s' : MS) : Prop := s'.2.2 = s.2.2 ∧ (∀ k, k < 20 → s'.1 k = s.1 k) ∧ ∀ k, k < 24 → s'.2.1 k = s.2.1 k
theorem SFp.rf {s : MS} : SFp s s := ⟨rfl, fun _ _ => rfl, fun _ _ => rfl⟩
theorem SFp.tr {s s' s'' : MS} (h : SFp s s') (h' : SFp s' s'') : SFp s s'' := ⟨h'.1.trans h.1, fun k a => (h'.2.1 k a).trans (h.2.1 k a), fun k a => (h'.2.2 k a).trans (h.2.2 k a)⟩
theorem SFp.o {s : MS} {k : Nat} {v : Int32} (h : 20 ≤ k) : SFp s (upd s.1 k v, s.2) := ⟨rfl, fun j hj => pk_un (by omega), fun _ _ => rfl⟩
theorem SFp.a {s : MS} {k : Nat} {f : Nat → Int32} (h : 24 ≤ k) : SFp s (s.1, updA s.2.1 k f, s.2.2) := ⟨rfl, fun _ _ => rfl, fun j hj => updA_ne (by omega)⟩
theorem SFp.rt {s s' : MS} (h : SFp s s') {t : (Nat → Int32) × Nat} (hr : RT t (s.1 14) (s.2.1 15)) : RT t (s'.1 14) (s'.2.1 15) := by
  rw [h.2.1 14 (by decide), h.2.2 15 (by decide)]
  exact hr
theorem R.fp {ψ : XS} {s s' : MS} (h : R ψ s) (hf : SFp s s') : R ψ s' := by
  have := h.upN (s' := s') (c := ψ.1) (pa := ψ.2.2.1) (hf.2.1 7 (by decide)) (hf.2.1 14 (by decide)) (hf.2.1 16 (by decide)) (hf.2.2 8 (by decide)) (hf.2.2 9 (by decide)) (hf.2.2 10 (by decide)) (hf.2.2 12 (by decide)) (hf.2.2 13 (by decide)) (hf.2.2 15 (by decide)) hf.1 (by rw [hf.2.1 0 (by decide), hf.2.1 1 (by decide), hf.2.1 6 (by decide), hf.2.2 2 (by decide), hf.2.2 3 (by decide), hf.2.2 5 (by decide)]; exact h.1)
  exact this
def nxS (s : MS) (q : Nat) : MS := (upd (upd s.1 20 (nI (q + 1))) 21 (nI q), s.2)
theorem nxS_fp {s : MS} {q : Nat} : SFp s (nxS s q) := ⟨rfl, fun j hj => (pk_un (by omega)).trans (pk_un (by omega)), fun _ _ => rfl⟩
def sp_X7_next (Γ : Cx) : YSp := fun av σ K => ∃ (l : Nat → Int32) (len p : Nat), mq Γ [] (fun s => s.1 20 = nI p ∧ p ≤ len ∧ RT (l, len) (s.1 14) (s.2.1 15)) (fun s s' r => s' = nxS s (nx l len p) ∧ r = some (.int (mlt l len (nx l len p)))) av σ K
theorem rv_X7_next {Γ : Cx} : Recv (sp_X7_next Γ) 0 7 := by
  intro av σ K h
  obtain ⟨l, len, p, h⟩ := h
  obtain ⟨q, fs, h1, h2, h3⟩ := rv_mq h
  exact ⟨q, _, fs, h1, rfl, h2, h3⟩
theorem tg_64_15 : tgo 64 15 = some 79 := by decide
theorem tg_76_4 : tgo 76 4 = some 80 := by decide
def mX7_next : Mt := (⟨0, 0, 0, 0⟩, RX7, cX7_next, 1, some .int, (0, 0), none)
theorem mX7_next_c : mX7_next.2.2.1 = cX7_next := rfl
theorem mX7_next_n : mX7_next.2.2.2.1 = 1 := rfl
theorem mX7_next_r : mX7_next.2.2.2.2.1 = some .int := rfl
theorem mX7_next_l : mX7_next.2.2.2.2.2.2 = none := rfl
def jX7_next (Γ : Cx) : List ((Nat × Nat) × Nat × Bool × YSp) := []
theorem uX7_next (Γ : Cx) : TbOK Γ mX7_next (fT fX7, cT kX7, kT (jX7_next Γ)) := tb_ok fX7_ok kX7_ok (all_nil)
set_option maxRecDepth 20000 in
theorem ok_X7_next (Γ : Cx) : Ok Γ yX7_next mX7_next (sp_X7_next Γ) := by
  refine ok_intro (by decide +kernel) rfl rfl ?_
  intro av σ K h
  obtain ⟨l, len, p, lab, ⟨a, ad⟩, ⟨sc, ar, it⟩, rfl, hM, ⟨h20, hp, t1, t2, t3⟩, h⟩ := h
  simp only at h h20 t1 t2 t3
  have fin : ∀ q : Nat, q ≤ len → nx l len p = q → ∀ σ1, frm (fL lab 30) σ σ1 → Mod Γ lab (a, ad) (upd sc 20 (nI q), ar, it) σ1 → YG Γ mX7_next K 38 [(0, .ref a)] [] σ1 := by
    intro q hq hn σ1 hf1 hM1
    have hk := h _ _ _ ⟨rfl, rfl⟩ (hf1.tr hM1.frO) (hM1.putO (upd (upd sc 20 (nI (nx l len p + 1))) 21 (nI (nx l len p))))
    rw [hn] at hk
    obtain ⟨⟨m1, -⟩, e1, -⟩ := id hM1
    obtain ⟨m15, e15⟩ := hM1.arr 15 rfl
    simp only [ME, iA, lenM, hput] at m1 e1 m15 e15 hk
    rw [show upd sc 20 (nI q) 14 = nI len from t1, show upd sc 20 (nI q) 20 = nI q from pk_us] at e1
    rw [show upd (upd sc 20 (nI (q + 1))) 21 (nI q) 14 = nI len from t1] at hk
    have n1 := fun f x => hM1.neO (k := 15) rfl f x
    simp only at n1
    unfold mlt at hk
    refine yvc_ok (uX7_next Γ) (S := []) 60 _ _ _ _ ?_
    simp only [m1, e1, m15, e15, n1, nI_1, pl_ge t2 (show q < 100 by omega), yvc_s, s1i, s2i, s1l, s2l, sil, s1r, sir, siir, slir, srir, svr, sd1, sd2, lg, lput, ldel, isL_i, isL_r, isL_l, jmp, obj, obj1, fI, fR, arI, arL, arR, hput, f4_0, f4_1, f4_2, f4_3, lc_0, lc_1, rok_i, rok_b, rok_y, strF, fput_1, fput_2, csum_nil, csum_i, csum_l, csum_r, va_up_self, bx_uu, Int.reduceAdd, List.elem_nil, List.elem_cons, List.take_succ_cons, List.take_zero, List.drop_succ_cons, List.drop_zero, List.take_nil, List.drop_nil, List.reverse_cons, List.reverse_nil, List.nil_append, List.cons_append, List.append_nil, Option.toList_some, Option.toList_none, List.getElem?_cons_zero, List.getElem?_cons_succ, List.set_cons_zero, List.set_cons_succ, List.length_cons, List.length_nil, reduceIte, reduceCtorEq, and_true, true_and, and_self, or_true, true_or, false_and, and_false, not_true_eq_false, not_false_eq_true, true_implies, false_implies, implies_true, Nat.reduceAdd, Nat.reduceLT, Nat.reduceEqDiff, Nat.reduceLeDiff, Nat.reduceBEq, Nat.zero_add, Nat.lt_add_one, Bool.false_eq_true, Bool.or_false, Bool.or_true, Bool.or_self, Nat.zero_ne_one, Nat.one_ne_zero, ite_true, ite_false, ne_eq, Nat.reduceSub, Nat.succ_eq_add_one, Nat.zero_lt_succ, Nat.add_one_ne_zero, false_or, or_false, mX7_next_c, mX7_next_n, mX7_next_r, mX7_next_l, dX7_next_0, dX7_next_1, fl_7_132_7, dX7_next_4, dX7_next_5, fl_7_129_7, dX7_next_8, tg_8_30, cnd2_ge, dX7_next_11, dX7_next_12, fl_7_45_7, dX7_next_15, dX7_next_16, dX7_next_19, dX7_next_20, bc_32, dX7_next_22, tg_22_16, cnd2_ne, dX7_next_25, dX7_next_26, dX7_next_27, dX7_next_30, ic_1, dX7_next_31, dX7_next_32, dX7_next_35, tg_35_m35, dX7_next_38, dX7_next_39, dX7_next_40, dX7_next_43, fl_7_135_7, dX7_next_46, dX7_next_47, dX7_next_48, dX7_next_51, dX7_next_52, dX7_next_53, dX7_next_56, dX7_next_57, dX7_next_60, dX7_next_61, dX7_next_64, tg_64_15, dX7_next_67, dX7_next_68, dX7_next_71, dX7_next_72, dX7_next_75, dX7_next_76, tg_76_4, dX7_next_79, ic_0, dX7_next_80, st_aload_n, st_bipush, st_dup, st_getfield, st_goto, st_iadd, st_iaload, st_iconst, st_if_icmp, st_ireturn, st_putfield]
    refine ⟨fun c => ?_, fun c => ?_⟩
    · rw [if_neg c] at hk
      exact hk
    · have c := Classical.not_not.mp c
      rw [if_pos c] at hk
      rw [cl50 (show q < 100 by omega), (t3 q c).1]
      exact ⟨in50 t2 c, hk⟩
  have loop : ∀ m q : Nat, len - q = m → q ≤ len → nx l len p = nx l len q → ∀ σ1, frm (fL lab 30) σ σ1 → Mod Γ lab (a, ad) (upd sc 20 (nI q), ar, it) σ1 → YG Γ mX7_next K 0 [(0, .ref a)] [] σ1 := by
    intro m
    induction m with
    | zero =>
      intro q hm hq hn σ1 hf1 hM1
      have hf := fin q hq (hn.trans (nx_s (fun z => by omega))) σ1 hf1 hM1
      obtain ⟨⟨m1, -⟩, e1, -⟩ := id hM1
      simp only [ME] at m1 e1
      rw [show upd sc 20 (nI q) 14 = nI len from t1, show upd sc 20 (nI q) 20 = nI q from pk_us] at e1
      refine yvc1_ok (uX7_next Γ) (S := [0, 38]) 60 ?_
      simp only [yvc1, m1, e1, pl_ge t2 (show q < 100 by omega), show ¬ q < len by omega, yvc_s, s1i, s2i, s1l, s2l, sil, s1r, sir, siir, slir, srir, svr, sd1, sd2, lg, lput, ldel, isL_i, isL_r, isL_l, jmp, obj, obj1, fI, fR, arI, arL, arR, hput, f4_0, f4_1, f4_2, f4_3, lc_0, lc_1, rok_i, rok_b, rok_y, strF, fput_1, fput_2, csum_nil, csum_i, csum_l, csum_r, va_up_self, bx_uu, Int.reduceAdd, List.elem_nil, List.elem_cons, List.take_succ_cons, List.take_zero, List.drop_succ_cons, List.drop_zero, List.take_nil, List.drop_nil, List.reverse_cons, List.reverse_nil, List.nil_append, List.cons_append, List.append_nil, Option.toList_some, Option.toList_none, List.getElem?_cons_zero, List.getElem?_cons_succ, List.set_cons_zero, List.set_cons_succ, List.length_cons, List.length_nil, reduceIte, reduceCtorEq, and_true, true_and, and_self, or_true, true_or, false_and, and_false, not_true_eq_false, not_false_eq_true, true_implies, false_implies, implies_true, Nat.reduceAdd, Nat.reduceLT, Nat.reduceEqDiff, Nat.reduceLeDiff, Nat.reduceBEq, Nat.zero_add, Nat.lt_add_one, Bool.false_eq_true, Bool.or_false, Bool.or_true, Bool.or_self, Nat.zero_ne_one, Nat.one_ne_zero, ite_true, ite_false, ne_eq, Nat.reduceSub, Nat.succ_eq_add_one, Nat.zero_lt_succ, Nat.add_one_ne_zero, false_or, or_false, mX7_next_c, mX7_next_n, mX7_next_r, mX7_next_l, dX7_next_0, dX7_next_1, fl_7_132_7, dX7_next_4, dX7_next_5, fl_7_129_7, dX7_next_8, tg_8_30, cnd2_ge, dX7_next_11, dX7_next_12, fl_7_45_7, dX7_next_15, dX7_next_16, dX7_next_19, dX7_next_20, bc_32, dX7_next_22, tg_22_16, cnd2_ne, dX7_next_25, dX7_next_26, dX7_next_27, dX7_next_30, ic_1, dX7_next_31, dX7_next_32, dX7_next_35, tg_35_m35, dX7_next_38, dX7_next_39, dX7_next_40, dX7_next_43, fl_7_135_7, dX7_next_46, dX7_next_47, dX7_next_48, dX7_next_51, dX7_next_52, dX7_next_53, dX7_next_56, dX7_next_57, dX7_next_60, dX7_next_61, dX7_next_64, tg_64_15, dX7_next_67, dX7_next_68, dX7_next_71, dX7_next_72, dX7_next_75, dX7_next_76, tg_76_4, dX7_next_79, ic_0, dX7_next_80, st_aload_n, st_bipush, st_dup, st_getfield, st_goto, st_iadd, st_iaload, st_iconst, st_if_icmp, st_ireturn, st_putfield]
      exact hf
    | succ m ih =>
      intro q hm hq hn σ1 hf1 hM1
      have hlt : q < len := by omega
      have hM2 := hM1.putO (upd sc 20 (nI (q + 1)))
      obtain ⟨⟨m1, -⟩, e1, -⟩ := id hM1
      obtain ⟨m15, e15⟩ := hM1.arr 15 rfl
      simp only [ME, iA, lenM] at m1 e1 m15 e15
      rw [show upd sc 20 (nI q) 14 = nI len from t1, show upd sc 20 (nI q) 20 = nI q from pk_us] at e1
      have c3 : ¬ ¬ q < len := fun z => z hlt
      refine yvc1_ok (uX7_next Γ) (S := [0, 38]) 60 ?_
      simp only [yvc1, m1, e1, m15, e15, pl_ge t2 (show q < 100 by omega), c3, in50 t2 hlt, cl50 (show q < 100 by omega), (t3 q hlt).1, nI_1, yvc_s, s1i, s2i, s1l, s2l, sil, s1r, sir, siir, slir, srir, svr, sd1, sd2, lg, lput, ldel, isL_i, isL_r, isL_l, jmp, obj, obj1, fI, fR, arI, arL, arR, hput, f4_0, f4_1, f4_2, f4_3, lc_0, lc_1, rok_i, rok_b, rok_y, strF, fput_1, fput_2, csum_nil, csum_i, csum_l, csum_r, va_up_self, bx_uu, Int.reduceAdd, List.elem_nil, List.elem_cons, List.take_succ_cons, List.take_zero, List.drop_succ_cons, List.drop_zero, List.take_nil, List.drop_nil, List.reverse_cons, List.reverse_nil, List.nil_append, List.cons_append, List.append_nil, Option.toList_some, Option.toList_none, List.getElem?_cons_zero, List.getElem?_cons_succ, List.set_cons_zero, List.set_cons_succ, List.length_cons, List.length_nil, reduceIte, reduceCtorEq, and_true, true_and, and_self, or_true, true_or, false_and, and_false, not_true_eq_false, not_false_eq_true, true_implies, false_implies, implies_true, Nat.reduceAdd, Nat.reduceLT, Nat.reduceEqDiff, Nat.reduceLeDiff, Nat.reduceBEq, Nat.zero_add, Nat.lt_add_one, Bool.false_eq_true, Bool.or_false, Bool.or_true, Bool.or_self, Nat.zero_ne_one, Nat.one_ne_zero, ite_true, ite_false, ne_eq, Nat.reduceSub, Nat.succ_eq_add_one, Nat.zero_lt_succ, Nat.add_one_ne_zero, false_or, or_false, mX7_next_c, mX7_next_n, mX7_next_r, mX7_next_l, dX7_next_0, dX7_next_1, fl_7_132_7, dX7_next_4, dX7_next_5, fl_7_129_7, dX7_next_8, tg_8_30, cnd2_ge, dX7_next_11, dX7_next_12, fl_7_45_7, dX7_next_15, dX7_next_16, dX7_next_19, dX7_next_20, bc_32, dX7_next_22, tg_22_16, cnd2_ne, dX7_next_25, dX7_next_26, dX7_next_27, dX7_next_30, ic_1, dX7_next_31, dX7_next_32, dX7_next_35, tg_35_m35, dX7_next_38, dX7_next_39, dX7_next_40, dX7_next_43, fl_7_135_7, dX7_next_46, dX7_next_47, dX7_next_48, dX7_next_51, dX7_next_52, dX7_next_53, dX7_next_56, dX7_next_57, dX7_next_60, dX7_next_61, dX7_next_64, tg_64_15, dX7_next_67, dX7_next_68, dX7_next_71, dX7_next_72, dX7_next_75, dX7_next_76, tg_76_4, dX7_next_79, ic_0, dX7_next_80, st_aload_n, st_bipush, st_dup, st_getfield, st_goto, st_iadd, st_iaload, st_iconst, st_if_icmp, st_ireturn, st_putfield]
      refine ⟨fun c => fin q hq (hn.trans (nx_s (fun z => c z.2))) σ1 hf1 hM1, fun c => ?_⟩
      have hy := ih (q + 1) (by omega) (by omega) (hn.trans (nx_b hlt (Classical.not_not.mp c))) _ (hf1.tr hM1.frO) hM2
      simp only [ME, hput] at hy
      rw [show upd sc 20 (nI (q + 1)) 14 = nI len from t1] at hy
      exact hy
  have hl := loop _ p rfl hp rfl σ frm.rf (by rw [upd_id h20]; exact hM)
  exact ⟨Nat.le_of_ble_eq_true rfl, hl⟩
def sp_X7_isDigit (_ : Cx) : YSp := fun av σ K => match av with | [.int v] => K (some (.int (bI (inr v 48 57)))) σ | _ => False
theorem mono_X7_isDigit {Γ : Cx} : Mono (sp_X7_isDigit Γ) := by
  intro av σ K K' hk h
  unfold sp_X7_isDigit at h ⊢
  split at h
  · exact hk _ _ h
  · exact h.elim
theorem rv_X7_isDigit {Γ : Cx} : Args (sp_X7_isDigit Γ) 1 := by
  intro av σ K h
  unfold sp_X7_isDigit at h
  split at h
  · rfl
  · exact h.elim
def mX7_isDigit : Mt := (⟨1, 0, 0, 25⟩, RX7, cX7_isDigit, 1, some .boolean, (0, 0), none)
theorem mX7_isDigit_c : mX7_isDigit.2.2.1 = cX7_isDigit := rfl
theorem mX7_isDigit_n : mX7_isDigit.2.2.2.1 = 1 := rfl
theorem mX7_isDigit_r : mX7_isDigit.2.2.2.2.1 = some .boolean := rfl
theorem mX7_isDigit_l : mX7_isDigit.2.2.2.2.2.2 = none := rfl
def jX7_isDigit (Γ : Cx) : List ((Nat × Nat) × Nat × Bool × YSp) := [((1, 63), 3, true, sp_X7_lies Γ)]
theorem jX7_isDigit_1_63 (Γ : Cx) : kT (jX7_isDigit Γ) 1 63 = some (3, true, sp_X7_lies Γ) := rfl
theorem uX7_isDigit (Γ : Cx) : TbOK Γ mX7_isDigit (fT fX7, cT kX7, kT (jX7_isDigit Γ)) := tb_ok fX7_ok kX7_ok (all_cons ⟨call_S (n := 3) (ok_X7_lies Γ) (rv_X7_lies (Γ := Γ)) bw_797 bw_795 bw_796 bw_49 no_X7_lies ⟨⟨rfl, rfl⟩, ⟨by decide, by decide⟩, ⟨by decide, by decide⟩⟩, fun _ => mono_X7_lies (Γ := Γ)⟩ (all_nil))
set_option maxRecDepth 20000 in
theorem ok_X7_isDigit (Γ : Cx) : Ok Γ yX7_isDigit mX7_isDigit (sp_X7_isDigit Γ) := by
  refine ok_intro (by decide +kernel) rfl rfl ?_
  intro av σ K h
  unfold sp_X7_isDigit at h
  split at h
  · next v =>
    refine ⟨Nat.le_of_ble_eq_true rfl, yvc_ok (uX7_isDigit Γ) (S := []) 40 _ _ _ _ ?_⟩
    simp only [lv_args, Value.category, sp_X7_lies, inL_48, yvc_s, s1i, s2i, s1l, s2l, sil, s1r, sir, siir, slir, srir, svr, sd1, sd2, lg, lput, ldel, isL_i, isL_r, isL_l, jmp, obj, obj1, fI, fR, arI, arL, arR, hput, f4_0, f4_1, f4_2, f4_3, lc_0, lc_1, rok_i, rok_b, rok_y, strF, fput_1, fput_2, csum_nil, csum_i, csum_l, csum_r, va_up_self, bx_uu, Int.reduceAdd, List.elem_nil, List.elem_cons, List.take_succ_cons, List.take_zero, List.drop_succ_cons, List.drop_zero, List.take_nil, List.drop_nil, List.reverse_cons, List.reverse_nil, List.nil_append, List.cons_append, List.append_nil, Option.toList_some, Option.toList_none, List.getElem?_cons_zero, List.getElem?_cons_succ, List.set_cons_zero, List.set_cons_succ, List.length_cons, List.length_nil, reduceIte, reduceCtorEq, and_true, true_and, and_self, or_true, true_or, false_and, and_false, not_true_eq_false, not_false_eq_true, true_implies, false_implies, implies_true, Nat.reduceAdd, Nat.reduceLT, Nat.reduceEqDiff, Nat.reduceLeDiff, Nat.reduceBEq, Nat.zero_add, Nat.lt_add_one, Bool.false_eq_true, Bool.or_false, Bool.or_true, Bool.or_self, Nat.zero_ne_one, Nat.one_ne_zero, ite_true, ite_false, ne_eq, Nat.reduceSub, Nat.succ_eq_add_one, Nat.zero_lt_succ, Nat.add_one_ne_zero, false_or, or_false, mX7_isDigit_c, mX7_isDigit_n, mX7_isDigit_r, mX7_isDigit_l, dX7_isDigit_0, dX7_isDigit_1, dX7_isDigit_2, cl_7_138, dX7_isDigit_5, cl_7_140, dX7_isDigit_8, dX7_isDigit_11, jX7_isDigit_1_63, st_i2l, st_iload_n, st_invokestatic, st_ireturn, st_ldc2_w]
    exact ⟨bI_01, h⟩
  · exact h.elim
def sp_X7_kindBy (_ : Cx) : YSp := fun av σ K => match av with | [.int v] => K (some (.int (kby v))) σ | _ => False
theorem mono_X7_kindBy {Γ : Cx} : Mono (sp_X7_kindBy Γ) := by
  intro av σ K K' hk h
  unfold sp_X7_kindBy at h ⊢
  split at h
  · exact hk _ _ h
  · exact h.elim
theorem rv_X7_kindBy {Γ : Cx} : Args (sp_X7_kindBy Γ) 1 := by
  intro av σ K h
  unfold sp_X7_kindBy at h
  split at h
  · rfl
  · exact h.elim
theorem bc_100 : (Int8.ofInt 100).toInt32 = 100 := by decide
theorem tg_3_7 : tgo 3 7 = some 10 := by decide
theorem tg_7_45 : tgo 7 45 = some 52 := by decide
theorem bc_99 : (Int8.ofInt 99).toInt32 = 99 := by decide
theorem tg_13_7 : tgo 13 7 = some 20 := by decide
theorem tg_17_35 : tgo 17 35 = some 52 := by decide
theorem bc_111 : (Int8.ofInt 111).toInt32 = 111 := by decide
theorem tg_23_7 : tgo 23 7 = some 30 := by decide
theorem tg_27_25 : tgo 27 25 = some 52 := by decide
theorem bc_108 : (Int8.ofInt 108).toInt32 = 108 := by decide
theorem tg_33_7 : tgo 33 7 = some 40 := by decide
theorem tg_37_15 : tgo 37 15 = some 52 := by decide
theorem bc_98 : (Int8.ofInt 98).toInt32 = 98 := by decide
theorem tg_43_7 : tgo 43 7 = some 50 := by decide
def mX7_kindBy : Mt := (⟨0, 0, 0, 0⟩, RX7, cX7_kindBy, 1, some .int, (0, 0), none)
theorem mX7_kindBy_c : mX7_kindBy.2.2.1 = cX7_kindBy := rfl
theorem mX7_kindBy_n : mX7_kindBy.2.2.2.1 = 1 := rfl
theorem mX7_kindBy_r : mX7_kindBy.2.2.2.2.1 = some .int := rfl
theorem mX7_kindBy_l : mX7_kindBy.2.2.2.2.2.2 = none := rfl
def jX7_kindBy (Γ : Cx) : List ((Nat × Nat) × Nat × Bool × YSp) := []
theorem uX7_kindBy (Γ : Cx) : TbOK Γ mX7_kindBy (fT fX7, cT kX7, kT (jX7_kindBy Γ)) := tb_ok fX7_ok kX7_ok (all_nil)
set_option maxRecDepth 20000 in
theorem ok_X7_kindBy (Γ : Cx) : Ok Γ yX7_kindBy mX7_kindBy (sp_X7_kindBy Γ) := by
  refine ok_intro (by decide +kernel) rfl rfl ?_
  intro av σ K h
  unfold sp_X7_kindBy at h
  split at h
  · next v =>
    unfold kby at h
    refine ⟨Nat.le_of_ble_eq_true rfl, yvc_ok (uX7_kindBy Γ) (S := []) 60 _ _ _ _ ?_⟩
    simp only [lv_args, Value.category, yvc_s, s1i, s2i, s1l, s2l, sil, s1r, sir, siir, slir, srir, svr, sd1, sd2, lg, lput, ldel, isL_i, isL_r, isL_l, jmp, obj, obj1, fI, fR, arI, arL, arR, hput, f4_0, f4_1, f4_2, f4_3, lc_0, lc_1, rok_i, rok_b, rok_y, strF, fput_1, fput_2, csum_nil, csum_i, csum_l, csum_r, va_up_self, bx_uu, Int.reduceAdd, List.elem_nil, List.elem_cons, List.take_succ_cons, List.take_zero, List.drop_succ_cons, List.drop_zero, List.take_nil, List.drop_nil, List.reverse_cons, List.reverse_nil, List.nil_append, List.cons_append, List.append_nil, Option.toList_some, Option.toList_none, List.getElem?_cons_zero, List.getElem?_cons_succ, List.set_cons_zero, List.set_cons_succ, List.length_cons, List.length_nil, reduceIte, reduceCtorEq, and_true, true_and, and_self, or_true, true_or, false_and, and_false, not_true_eq_false, not_false_eq_true, true_implies, false_implies, implies_true, Nat.reduceAdd, Nat.reduceLT, Nat.reduceEqDiff, Nat.reduceLeDiff, Nat.reduceBEq, Nat.zero_add, Nat.lt_add_one, Bool.false_eq_true, Bool.or_false, Bool.or_true, Bool.or_self, Nat.zero_ne_one, Nat.one_ne_zero, ite_true, ite_false, ne_eq, Nat.reduceSub, Nat.succ_eq_add_one, Nat.zero_lt_succ, Nat.add_one_ne_zero, false_or, or_false, mX7_kindBy_c, mX7_kindBy_n, mX7_kindBy_r, mX7_kindBy_l, dX7_kindBy_0, dX7_kindBy_1, bc_100, dX7_kindBy_3, tg_3_7, cnd2_ne, dX7_kindBy_6, ic_0, dX7_kindBy_7, tg_7_45, dX7_kindBy_10, dX7_kindBy_11, bc_99, dX7_kindBy_13, tg_13_7, dX7_kindBy_16, ic_1, dX7_kindBy_17, tg_17_35, dX7_kindBy_20, dX7_kindBy_21, bc_111, dX7_kindBy_23, tg_23_7, dX7_kindBy_26, ic_2, dX7_kindBy_27, tg_27_25, dX7_kindBy_30, dX7_kindBy_31, bc_108, dX7_kindBy_33, tg_33_7, dX7_kindBy_36, ic_3, dX7_kindBy_37, tg_37_15, dX7_kindBy_40, dX7_kindBy_41, bc_98, dX7_kindBy_43, tg_43_7, dX7_kindBy_46, ic_4, dX7_kindBy_47, tg_47_5, dX7_kindBy_50, bc_m4, dX7_kindBy_52, st_bipush, st_goto, st_iconst, st_if_icmp, st_iload_n, st_ireturn]
    refine ⟨fun a => ⟨fun b => ⟨fun c => ⟨fun d => ⟨fun e => ?_, fun e => ?_⟩, fun d => ?_⟩, fun c => ?_⟩, fun b => ?_⟩, fun a => ?_⟩
    · rw [if_neg a, if_neg b, if_neg c, if_neg d, if_neg e] at h; exact h
    · rw [if_neg a, if_neg b, if_neg c, if_neg d, if_pos (Classical.not_not.mp e)] at h; exact h
    · rw [if_neg a, if_neg b, if_neg c, if_pos (Classical.not_not.mp d)] at h; exact h
    · rw [if_neg a, if_neg b, if_pos (Classical.not_not.mp c)] at h; exact h
    · rw [if_neg a, if_pos (Classical.not_not.mp b)] at h; exact h
    · rw [if_pos (Classical.not_not.mp a)] at h; exact h
  · exact h.elim
