/-! ===== Plan ===== -/
abbrev PLS : Type := (Nat → Int32) × Int32 × Int32
def PlE (pk : Nat) (g v : Int32) : va_E := .inr (3, [.ref pk, .int g, .int v])
def Pl (Γ : Cx) (A : Nat × Nat) (s : PLS) (σ : Hp) : Prop := (A.1 ∈ σ.1 ∧ A.2 ∈ σ.1) ∧ σ.2 A.1 = PlE A.2 s.2.1 s.2.2 ∧ σ.2 A.2 = iA Γ 4 s.1
theorem plE_iA {Γ : Cx} {pk n : Nat} {g v : Int32} {f : Nat → Int32} : PlE pk g v ≠ iA Γ n f := fun e => by unfold PlE iA at e; cases e
theorem Pl.ne {Γ : Cx} {A : Nat × Nat} {s : PLS} {σ : Hp} (h : Pl Γ A s σ) : A.1 ≠ A.2 := ne_of h.2.1 h.2.2 plE_iA
theorem Pl.putO {Γ : Cx} {A : Nat × Nat} {s : PLS} {σ : Hp} (h : Pl Γ A s σ) (g v : Int32) : Pl Γ A (s.1, g, v) (hput σ A.1 (PlE A.2 g v)) := by
  refine ⟨h.1, by simp only [hput, va_up_self], ?_⟩
  simp only [hput]
  rw [va_up_ne _ _ h.ne.symm]
  exact h.2.2
theorem Pl.putA {Γ : Cx} {A : Nat × Nat} {s : PLS} {σ : Hp} (h : Pl Γ A s σ) (f : Nat → Int32) : Pl Γ A (f, s.2) (hput σ A.2 (iA Γ 4 f)) := by
  refine ⟨h.1, ?_, by simp only [hput, va_up_self]⟩
  simp only [hput]
  rw [va_up_ne _ _ h.ne]
  exact h.2.1
theorem Pl.keep {Γ : Cx} {A : Nat × Nat} {s : PLS} {σ σ' : Hp} (h : Pl Γ A s σ) (h1 : σ'.1 = σ.1) (h2 : ∀ q, SF A q → σ'.2 q = σ.2 q) : Pl Γ A s σ' := by
  obtain ⟨m, e1, e2⟩ := h
  exact ⟨by rw [h1]; exact m, (h2 _ (Or.inl rfl)).trans e1, (h2 _ (Or.inr rfl)).trans e2⟩
theorem pl_rv {Γ : Cx} {A : Nat × Nat} {s : PLS} {σ : Hp} (h : Pl Γ A s σ) : ∃ fs, A.1 ∈ σ.1 ∧ σ.2 A.1 = .inr (3, fs) := ⟨_, h.1.1, h.2.1⟩
def spF (f : Nat → Int32) (way P : Nat) : Nat → Int32 := upd (upd (upd (upd f 3 (nI (way % P))) 2 (nI (way / P % P))) 1 (nI (way / P / P % P))) 0 (nI (way / P / P / P % P))
theorem i_3m1 : (3 : Int32) + (-1) = 2 := by decide
theorem i_2m1 : (2 : Int32) + (-1) = 1 := by decide
theorem i_1m1 : (1 : Int32) + (-1) = 0 := by decide
theorem i_0m1 : (0 : Int32) + (-1) = -1 := by decide
theorem nl3 : ¬ (3 : Int32) < 0 := by decide
theorem nl2 : ¬ (2 : Int32) < 0 := by decide
theorem nl1 : ¬ (1 : Int32) < 0 := by decide
theorem lm1 : (-1 : Int32) < 0 := by decide
theorem in3_4 : vp_in (3 : Int32) 4 := show vp_in (nI 3) 4 from vp_in_nI (by decide) (by decide)
theorem in2_4 : vp_in (2 : Int32) 4 := show vp_in (nI 2) 4 from vp_in_nI (by decide) (by decide)
theorem in1_4 : vp_in (1 : Int32) 4 := show vp_in (nI 1) 4 from vp_in_nI (by decide) (by decide)
theorem in0_4 : vp_in (0 : Int32) 4 := show vp_in (nI 0) 4 from vp_in_nI (by decide) (by decide)
theorem n3 : (3 : Int32).toNatClampNeg = 3 := by decide
theorem n2 : (2 : Int32).toNatClampNeg = 2 := by decide
theorem n1 : (1 : Int32).toNatClampNeg = 1 := by decide
def sp_X3_spell (Γ : Cx) : YSp := fun av σ K => ∃ (way P ak : Nat) (f : Nat → Int32), av = [.int (nI way), .int (nI P), .ref ak] ∧ (0 < P ∧ P ≤ 5 ∧ way < 1000) ∧ ak ∈ σ.1 ∧ σ.2 ak = iA Γ 4 f ∧ K none (hput σ ak (iA Γ 4 (spF f way P)))
theorem rv_X3_spell {Γ : Cx} : Args (sp_X3_spell Γ) 3 := by
  intro av σ K h
  obtain ⟨way, P, ak, f, rfl, -⟩ := h
  rfl
theorem tg_1_4 : tgo 1 4 = some 5 := by decide
theorem tg_12_20 : tgo 12 20 = some 32 := by decide
theorem tg_29_m19 : tgo 29 (-19) = some 10 := by decide
def mX3_spell : Mt := (⟨0, 0, 0, 0⟩, RX3, cX3_spell, 5, none, (0, 0), none)
theorem mX3_spell_c : mX3_spell.2.2.1 = cX3_spell := rfl
theorem mX3_spell_n : mX3_spell.2.2.2.1 = 5 := rfl
theorem mX3_spell_r : mX3_spell.2.2.2.2.1 = none := rfl
theorem mX3_spell_l : mX3_spell.2.2.2.2.2.2 = none := rfl
def jX3_spell (Γ : Cx) : List ((Nat × Nat) × Nat × Bool × YSp) := []
theorem uX3_spell (Γ : Cx) : TbOK Γ mX3_spell (fT fX3, cT kX3, kT (jX3_spell Γ)) := tb_ok fX3_ok kX3_ok (all_nil)
set_option maxRecDepth 20000 in
theorem ok_X3_spell (Γ : Cx) : Ok Γ yX3_spell mX3_spell (sp_X3_spell Γ) := by
  refine ok_intro (by decide +kernel) rfl rfl ?_
  intro av σ K h
  obtain ⟨way, P, ak, f, rfl, ⟨h0, h5, hw⟩, m1, e1, h⟩ := h
  have hP0 : ¬ nI P = 0 := nI_ne0 h0 (by omega)
  have hPg : 0 < nI P := by rw [← nI_0]; exact nI_lt h0 (by omega)
  have b1 : way / P < 1000 := Nat.lt_of_le_of_lt (Nat.div_le_self _ _) hw
  have b2 : way / P / P < 1000 := Nat.lt_of_le_of_lt (Nat.div_le_self _ _) b1
  have b3 : way / P / P / P < 1000 := Nat.lt_of_le_of_lt (Nat.div_le_self _ _) b2
  have d1 : nI way / nI P = nI (way / P) := pk_div (by omega) h0 (by omega)
  have d2 : nI (way / P) / nI P = nI (way / P / P) := pk_div (by omega) h0 (by omega)
  have d3 : nI (way / P / P) / nI P = nI (way / P / P / P) := pk_div (by omega) h0 (by omega)
  have d4 : nI (way / P / P / P) / nI P = nI (way / P / P / P / P) := pk_div (by omega) h0 (by omega)
  have r1 : nI way - nI (way / P) * nI P = nI (way % P) := by rw [← d1]; exact pk_rem (by omega) h0 (by omega)
  have r2 : nI (way / P) - nI (way / P / P) * nI P = nI (way / P % P) := by rw [← d2]; exact pk_rem (by omega) h0 (by omega)
  have r3 : nI (way / P / P) - nI (way / P / P / P) * nI P = nI (way / P / P % P) := by rw [← d3]; exact pk_rem (by omega) h0 (by omega)
  have r4 : nI (way / P / P / P) - nI (way / P / P / P / P) * nI P = nI (way / P / P / P % P) := by rw [← d4]; exact pk_rem (by omega) h0 (by omega)
  simp only [iA, hput, spF] at e1 h
  refine ⟨Nat.le_of_ble_eq_true rfl, yvc_ok (uX3_spell Γ) (S := []) 90 _ _ _ _ ?_⟩
  simp only [lv_args, Value.category, m1, e1, hPg, hP0, r1, r2, r3, r4, d1, d2, d3, d4, i_3m1, i_2m1, i_1m1, i_0m1, nl3, nl2, nl1, nl0, lm1, in3_4, in2_4, in1_4, in0_4, n3, n2, n1, n0, yvc_s, s1i, s2i, s1l, s2l, sil, s1r, sir, siir, slir, srir, svr, sd1, sd2, lg, lput, ldel, isL_i, isL_r, isL_l, jmp, obj, obj1, fI, fR, arI, arL, arR, hput, f4_0, f4_1, f4_2, f4_3, lc_0, lc_1, rok_i, rok_b, rok_y, strF, fput_1, fput_2, csum_nil, csum_i, csum_l, csum_r, va_up_self, bx_uu, Int.reduceAdd, List.elem_nil, List.elem_cons, List.take_succ_cons, List.take_zero, List.drop_succ_cons, List.drop_zero, List.take_nil, List.drop_nil, List.reverse_cons, List.reverse_nil, List.nil_append, List.cons_append, List.append_nil, Option.toList_some, Option.toList_none, List.getElem?_cons_zero, List.getElem?_cons_succ, List.set_cons_zero, List.set_cons_succ, List.length_cons, List.length_nil, reduceIte, reduceCtorEq, and_true, true_and, and_self, or_true, true_or, false_and, and_false, not_true_eq_false, not_false_eq_true, true_implies, false_implies, implies_true, Nat.reduceAdd, Nat.reduceLT, Nat.reduceEqDiff, Nat.reduceLeDiff, Nat.reduceBEq, Nat.zero_add, Nat.lt_add_one, Bool.false_eq_true, Bool.or_false, Bool.or_true, Bool.or_self, Nat.zero_ne_one, Nat.one_ne_zero, ite_true, ite_false, ne_eq, Nat.reduceSub, Nat.succ_eq_add_one, Nat.zero_lt_succ, Nat.add_one_ne_zero, false_or, or_false, mX3_spell_c, mX3_spell_n, mX3_spell_r, mX3_spell_l, dX3_spell_0, dX3_spell_1, tg_1_4, cnd1_gt, dX3_spell_4, dX3_spell_5, dX3_spell_6, dX3_spell_7, ic_3, dX3_spell_8, dX3_spell_10, dX3_spell_12, tg_12_20, cnd1_lt, dX3_spell_15, dX3_spell_16, dX3_spell_18, dX3_spell_19, dX3_spell_20, dX3_spell_21, dX3_spell_22, dX3_spell_23, dX3_spell_24, dX3_spell_25, dX3_spell_26, ic_m1, dX3_spell_29, tg_29_m19, dX3_spell_32, st_aload_n, st_goto, st_iastore, st_iconst, st_idiv, st_ifCond, st_iinc, st_iload, st_iload_n, st_irem, st_istore, st_istore_n, st_return]
  exact h
/-- how many keys are otherwise -/
def ow (kp' kp : Nat → Int32) : Nat → Int32
  | 0 => 0
  | n + 1 => ow kp' kp n + (if kp' n = kp n then 0 else 1)
def lpC (g g0 : Int32) : Nat → CS → CS
  | 0, t => t
  | n + 1, t => if g < t.2.2.2.2.1 - g0 then t else lpC g g0 n (dayC t)
/-- whether it is better, and what is measured by then -/
def bet (s t : CS) (g v : Int32) (n : Nat) : Bool × Int32 × Int32 :=
  if g = 0 ∧ ¬ ow t.2.1 s.2.1 4 < v then (false, g, v)
  else if g < (lpC g s.2.2.2.2.1 n t).2.2.2.2.1 - s.2.2.2.2.1 then (false, g, v)
  else if (lpC g s.2.2.2.2.1 n t).2.2.2.2.1 - s.2.2.2.2.1 = g ∧ ¬ ow t.2.1 s.2.1 4 < v then (false, g, v)
  else (true, (lpC g s.2.2.2.2.1 n t).2.2.2.2.1 - s.2.2.2.2.1, ow t.2.1 s.2.1 4)
def sp_X3_isBetter (Γ : Cx) : YSp := fun av σ K => ∃ (A : Nat × Nat) (f : Nat → Int32) (g v : Int32) (C B : CA) (s t : CS) (n : Nat), av = [.ref A.1, .ref C.1, .ref B.1, .int (nI n)] ∧ n < 100 ∧ WfC t ∧ Pl Γ A (f, g, v) σ ∧ Col Γ C s σ ∧ Col Γ B t σ ∧ apC B C ∧ (∀ q, SF A q → ¬ CF B q) ∧
  ∀ σ', frm (fun q => SF A q ∨ CF B q) σ σ' → Pl Γ A (f, (bet s t g v n).2) σ' → (∃ t', Col Γ B t' σ') → K (some (.int (bI (bet s t g v n).1))) σ'
theorem rv_X3_isBetter {Γ : Cx} : Recv (sp_X3_isBetter Γ) 3 3 := by
  intro av σ K h
  obtain ⟨A, f, g, v, C, B, s, t, n, rfl, -, -, hc, -⟩ := h
  obtain ⟨fs, h1, h2⟩ := pl_rv hc
  exact ⟨_, _, fs, rfl, rfl, h1, h2⟩
theorem bw_608 : Cond.methodLink RX3 41 yX0_passDay ∈ BW := bw_i 608 (by decide +kernel) (by decide +kernel)
theorem tg_9_36 : tgo 9 36 = some 45 := by decide
theorem tg_28_7 : tgo 28 7 = some 35 := by decide
theorem tg_32_4 : tgo 32 4 = some 36 := by decide
theorem tg_42_m36 : tgo 42 (-36) = some 6 := by decide
theorem tg_49_14 : tgo 49 14 = some 63 := by decide
theorem tg_58_5 : tgo 58 5 = some 63 := by decide
theorem tg_69_29 : tgo 69 29 = some 98 := by decide
theorem tg_85_13 : tgo 85 13 = some 98 := by decide
theorem tg_95_m29 : tgo 95 (-29) = some 66 := by decide
theorem tg_115_21 : tgo 115 21 = some 136 := by decide
theorem tg_124_14 : tgo 124 14 = some 138 := by decide
theorem tg_133_5 : tgo 133 5 = some 138 := by decide
def mX3_isBetter : Mt := (⟨4, 0, 0, 90⟩, RX3, cX3_isBetter, 6, some .boolean, (0, 0), none)
theorem mX3_isBetter_c : mX3_isBetter.2.2.1 = cX3_isBetter := rfl
theorem mX3_isBetter_n : mX3_isBetter.2.2.2.1 = 6 := rfl
theorem mX3_isBetter_r : mX3_isBetter.2.2.2.2.1 = some .boolean := rfl
theorem mX3_isBetter_l : mX3_isBetter.2.2.2.2.2.2 = none := rfl
def jX3_isBetter (Γ : Cx) : List ((Nat × Nat) × Nat × Bool × YSp) := [((0, 41), 1, false, sp_X0_passDay Γ)]
theorem jX3_isBetter_0_41 (Γ : Cx) : kT (jX3_isBetter Γ) 0 41 = some (1, false, sp_X0_passDay Γ) := rfl
theorem uX3_isBetter (Γ : Cx) : TbOK Γ mX3_isBetter (fT fX3, cT kX3, kT (jX3_isBetter Γ)) := tb_ok fX3_ok kX3_ok (all_cons ⟨call_V (n := 0) (T := TX0) (N := 9) (ok_X0_passDay Γ) (rv_X0_passDay (Γ := Γ)) rfl bw_517 bw_608 bw_515 bw_516 bw_44 no_X0_passDay ⟨⟨rfl, rfl⟩, ⟨by decide, by decide⟩, ⟨by decide, by decide⟩⟩, fun z => by cases z⟩ (all_nil))
set_option maxRecDepth 20000 in
theorem ok_X3_isBetter (Γ : Cx) : Ok Γ yX3_isBetter mX3_isBetter (sp_X3_isBetter Γ) := by
  refine ok_intro (by decide +kernel) rfl rfl ?_
  intro av σ K h
  obtain ⟨⟨a, pk⟩, f, g, v, ⟨c, cw, ck, cd⟩, ⟨b, bw, bk, bd⟩, s, t, N, rfl, hN, hw, hA, hC, hB, hap, hdis, h⟩ := h
  have hCo : ∀ t', Col Γ (c, cw, ck, cd) s (cset Γ (b, bw, bk, bd) t' σ) := fun t' => hB.other hC hap
  have hAo : ∀ t', Pl Γ (a, pk) (f, g, v) (cset Γ (b, bw, bk, bd) t' σ) := fun t' => hA.keep rfl (fun q hq => cset_frm.2 q (hdis q hq))
  have hB' := fun t' => hB.set t'
  obtain ⟨ws, ks, ds, days, gones, draws, Ps, rules, gds⟩ := s
  -- the end
  have fin : ∀ t', lpC g gones N t = t' → ¬ (g = 0 ∧ ¬ ow t.2.1 ks 4 < v) → ∀ x5 : Int32, YG Γ mX3_isBetter K 98 [(0, .ref a), (1, .ref c), (2, .ref b), (3, .int (nI N)), (4, .int (ow t.2.1 ks 4)), (5, .int x5)] [] (cset Γ (b, bw, bk, bd) t' σ) := by
    intro t' ht hno x5
    have hc1 := hCo t'
    have ha1 := hAo t'
    have hb1 := hB' t'
    have hfr : frm (fun q => SF (a, pk) q ∨ CF (b, bw, bk, bd) q) σ (cset Γ (b, bw, bk, bd) t' σ) := cset_frm.mono (fun _ z => Or.inr z)
    have hp := ha1.putO (t'.2.2.2.2.1 - gones) (ow t.2.1 ks 4)
    have hb2 : Col Γ (b, bw, bk, bd) t' (hput (cset Γ (b, bw, bk, bd) t' σ) a (PlE pk (t'.2.2.2.2.1 - gones) (ow t.2.1 ks 4))) := hb1.keep rfl (fun q hq => va_up_ne _ _ (fun z => hdis a (Or.inl rfl) (by rw [← z]; exact hq)))
    have hput1 : frm (fun q => SF (a, pk) q ∨ CF (b, bw, bk, bd) q) σ (hput (cset Γ (b, bw, bk, bd) t' σ) a (PlE pk (t'.2.2.2.2.1 - gones) (ow t.2.1 ks 4))) := hfr.tr (hput_frm (Or.inl (Or.inl rfl)))
    unfold bet at h
    simp only [ht, if_neg hno] at h
    have hcase := h
    generalize hσ : cset Γ (b, bw, bk, bd) t' σ = σ1 at *
    obtain ⟨w, kp, kd, day, gone, draw, P, rule, gd⟩ := t'
    obtain ⟨⟨m1, m2, m3, m4⟩, e1, e2, e3, e4⟩ := id hc1
    obtain ⟨⟨v1, v2⟩, f1, f2⟩ := id ha1
    obtain ⟨⟨u1, u2, u3, u4⟩, g1, g2, g3, g4⟩ := id hb1
    simp only [ColE, PlE, iA] at e1 e2 e3 e4 m1 m2 m3 m4 v1 v2 f1 f2 u1 u2 u3 u4 g1 g2 g3 g4
    refine yvc_ok (uX3_isBetter Γ) (S := []) 60 _ _ _ _ ?_
    simp only [m1, v1, u1, e1, f1, g1, yvc_s, s1i, s2i, s1l, s2l, sil, s1r, sir, siir, slir, srir, svr, sd1, sd2, lg, lput, ldel, isL_i, isL_r, isL_l, jmp, obj, obj1, fI, fR, arI, arL, arR, hput, f4_0, f4_1, f4_2, f4_3, lc_0, lc_1, rok_i, rok_b, rok_y, strF, fput_1, fput_2, csum_nil, csum_i, csum_l, csum_r, va_up_self, bx_uu, Int.reduceAdd, List.elem_nil, List.elem_cons, List.take_succ_cons, List.take_zero, List.drop_succ_cons, List.drop_zero, List.take_nil, List.drop_nil, List.reverse_cons, List.reverse_nil, List.nil_append, List.cons_append, List.append_nil, Option.toList_some, Option.toList_none, List.getElem?_cons_zero, List.getElem?_cons_succ, List.set_cons_zero, List.set_cons_succ, List.length_cons, List.length_nil, reduceIte, reduceCtorEq, and_true, true_and, and_self, or_true, true_or, false_and, and_false, not_true_eq_false, not_false_eq_true, true_implies, false_implies, implies_true, Nat.reduceAdd, Nat.reduceLT, Nat.reduceEqDiff, Nat.reduceLeDiff, Nat.reduceBEq, Nat.zero_add, Nat.lt_add_one, Bool.false_eq_true, Bool.or_false, Bool.or_true, Bool.or_self, Nat.zero_ne_one, Nat.one_ne_zero, ite_true, ite_false, ne_eq, Nat.reduceSub, Nat.succ_eq_add_one, Nat.zero_lt_succ, Nat.add_one_ne_zero, false_or, or_false, mX3_isBetter_c, mX3_isBetter_n, mX3_isBetter_r, mX3_isBetter_l, dX3_isBetter_0, ic_0, dX3_isBetter_1, dX3_isBetter_3, dX3_isBetter_4, dX3_isBetter_6, dX3_isBetter_8, ic_4, dX3_isBetter_9, tg_9_36, cnd2_ge, dX3_isBetter_12, dX3_isBetter_14, dX3_isBetter_15, fl_3_31_0, dX3_isBetter_18, dX3_isBetter_20, dX3_isBetter_21, dX3_isBetter_22, dX3_isBetter_25, dX3_isBetter_27, dX3_isBetter_28, tg_28_7, cnd2_ne, dX3_isBetter_31, dX3_isBetter_32, tg_32_4, dX3_isBetter_35, ic_1, dX3_isBetter_36, dX3_isBetter_37, dX3_isBetter_39, dX3_isBetter_42, tg_42_m36, dX3_isBetter_45, dX3_isBetter_46, fl_3_15_3, dX3_isBetter_49, tg_49_14, cnd1_ne, dX3_isBetter_52, dX3_isBetter_54, dX3_isBetter_55, fl_3_19_3, dX3_isBetter_58, tg_58_5, cnd2_lt, dX3_isBetter_61, dX3_isBetter_62, dX3_isBetter_63, dX3_isBetter_64, dX3_isBetter_66, dX3_isBetter_68, dX3_isBetter_69, tg_69_29, dX3_isBetter_72, dX3_isBetter_73, fl_3_40_0, dX3_isBetter_76, dX3_isBetter_77, dX3_isBetter_80, dX3_isBetter_81, dX3_isBetter_82, dX3_isBetter_85, tg_85_13, cnd2_gt, dX3_isBetter_88, dX3_isBetter_89, dX3_isBetter_92, dX3_isBetter_95, tg_95_m29, dX3_isBetter_98, dX3_isBetter_99, dX3_isBetter_102, dX3_isBetter_103, dX3_isBetter_106, dX3_isBetter_107, dX3_isBetter_109, dX3_isBetter_111, dX3_isBetter_112, dX3_isBetter_115, tg_115_21, dX3_isBetter_118, dX3_isBetter_120, dX3_isBetter_121, dX3_isBetter_124, tg_124_14, dX3_isBetter_127, dX3_isBetter_129, dX3_isBetter_130, dX3_isBetter_133, tg_133_5, dX3_isBetter_136, dX3_isBetter_137, dX3_isBetter_138, dX3_isBetter_139, dX3_isBetter_141, dX3_isBetter_144, dX3_isBetter_145, dX3_isBetter_147, dX3_isBetter_150, dX3_isBetter_151, jX3_isBetter_0_41, st_aload_n, st_getfield, st_goto, st_iadd, st_iaload, st_iconst, st_ifCond, st_if_icmp, st_iinc, st_iload, st_iload_n, st_invokevirtual, st_ireturn, st_istore, st_isub, st_putfield]
    have hno1 : Pl Γ (a, pk) (f, g, v) σ1 := ha1
    refine ⟨fun c1 => ?_, fun c1 => ⟨fun c2 => ?_, fun c2 => ⟨fun c3 => ?_, fun c3 => ?_⟩⟩⟩
    · simp only [if_pos c1] at hcase
      exact hcase σ1 hfr hno1 ⟨_, hb1⟩
    · have q1 : ¬ (gone - gones = g ∧ ¬ ow t.2.1 ks 4 < v) := fun z => c2 z.1
      simp only [if_neg c1, if_neg q1] at hcase
      exact hcase _ hput1 hp ⟨_, hb2⟩
    · have q1 : ¬ (gone - gones = g ∧ ¬ ow t.2.1 ks 4 < v) := fun z => z.2 c3
      simp only [if_neg c1, if_neg q1] at hcase
      exact hcase _ hput1 hp ⟨_, hb2⟩
    · have q1 : gone - gones = g ∧ ¬ ow t.2.1 ks 4 < v := ⟨Classical.not_not.mp c2, c3⟩
      simp only [if_neg c1, if_pos q1] at hcase
      exact hcase σ1 hfr hno1 ⟨_, hb1⟩
  -- the days
  have loop : ∀ n j : Nat, ∀ t' : CS, j + n = N → WfC t' → lpC g gones n t' = lpC g gones N t → ¬ (g = 0 ∧ ¬ ow t.2.1 ks 4 < v) → YG Γ mX3_isBetter K 66 [(0, .ref a), (1, .ref c), (2, .ref b), (3, .int (nI N)), (4, .int (ow t.2.1 ks 4)), (5, .int (nI j))] [] (cset Γ (b, bw, bk, bd) t' σ) := by
    intro n
    induction n with
    | zero =>
      intro j t' hj hwt hlp hno
      obtain rfl : j = N := by omega
      have hf := fin t' hlp.symm hno (nI j)
      refine yvc1_ok (uX3_isBetter Γ) (S := [66, 98]) 40 ?_
      simp only [yvc1, geP, yvc_s, s1i, s2i, s1l, s2l, sil, s1r, sir, siir, slir, srir, svr, sd1, sd2, lg, lput, ldel, isL_i, isL_r, isL_l, jmp, obj, obj1, fI, fR, arI, arL, arR, hput, f4_0, f4_1, f4_2, f4_3, lc_0, lc_1, rok_i, rok_b, rok_y, strF, fput_1, fput_2, csum_nil, csum_i, csum_l, csum_r, va_up_self, bx_uu, Int.reduceAdd, List.elem_nil, List.elem_cons, List.take_succ_cons, List.take_zero, List.drop_succ_cons, List.drop_zero, List.take_nil, List.drop_nil, List.reverse_cons, List.reverse_nil, List.nil_append, List.cons_append, List.append_nil, Option.toList_some, Option.toList_none, List.getElem?_cons_zero, List.getElem?_cons_succ, List.set_cons_zero, List.set_cons_succ, List.length_cons, List.length_nil, reduceIte, reduceCtorEq, and_true, true_and, and_self, or_true, true_or, false_and, and_false, not_true_eq_false, not_false_eq_true, true_implies, false_implies, implies_true, Nat.reduceAdd, Nat.reduceLT, Nat.reduceEqDiff, Nat.reduceLeDiff, Nat.reduceBEq, Nat.zero_add, Nat.lt_add_one, Bool.false_eq_true, Bool.or_false, Bool.or_true, Bool.or_self, Nat.zero_ne_one, Nat.one_ne_zero, ite_true, ite_false, ne_eq, Nat.reduceSub, Nat.succ_eq_add_one, Nat.zero_lt_succ, Nat.add_one_ne_zero, false_or, or_false, mX3_isBetter_c, mX3_isBetter_n, mX3_isBetter_r, mX3_isBetter_l, dX3_isBetter_0, ic_0, dX3_isBetter_1, dX3_isBetter_3, dX3_isBetter_4, dX3_isBetter_6, dX3_isBetter_8, ic_4, dX3_isBetter_9, tg_9_36, cnd2_ge, dX3_isBetter_12, dX3_isBetter_14, dX3_isBetter_15, fl_3_31_0, dX3_isBetter_18, dX3_isBetter_20, dX3_isBetter_21, dX3_isBetter_22, dX3_isBetter_25, dX3_isBetter_27, dX3_isBetter_28, tg_28_7, cnd2_ne, dX3_isBetter_31, dX3_isBetter_32, tg_32_4, dX3_isBetter_35, ic_1, dX3_isBetter_36, dX3_isBetter_37, dX3_isBetter_39, dX3_isBetter_42, tg_42_m36, dX3_isBetter_45, dX3_isBetter_46, fl_3_15_3, dX3_isBetter_49, tg_49_14, cnd1_ne, dX3_isBetter_52, dX3_isBetter_54, dX3_isBetter_55, fl_3_19_3, dX3_isBetter_58, tg_58_5, cnd2_lt, dX3_isBetter_61, dX3_isBetter_62, dX3_isBetter_63, dX3_isBetter_64, dX3_isBetter_66, dX3_isBetter_68, dX3_isBetter_69, tg_69_29, dX3_isBetter_72, dX3_isBetter_73, fl_3_40_0, dX3_isBetter_76, dX3_isBetter_77, dX3_isBetter_80, dX3_isBetter_81, dX3_isBetter_82, dX3_isBetter_85, tg_85_13, cnd2_gt, dX3_isBetter_88, dX3_isBetter_89, dX3_isBetter_92, dX3_isBetter_95, tg_95_m29, dX3_isBetter_98, dX3_isBetter_99, dX3_isBetter_102, dX3_isBetter_103, dX3_isBetter_106, dX3_isBetter_107, dX3_isBetter_109, dX3_isBetter_111, dX3_isBetter_112, dX3_isBetter_115, tg_115_21, dX3_isBetter_118, dX3_isBetter_120, dX3_isBetter_121, dX3_isBetter_124, tg_124_14, dX3_isBetter_127, dX3_isBetter_129, dX3_isBetter_130, dX3_isBetter_133, tg_133_5, dX3_isBetter_136, dX3_isBetter_137, dX3_isBetter_138, dX3_isBetter_139, dX3_isBetter_141, dX3_isBetter_144, dX3_isBetter_145, dX3_isBetter_147, dX3_isBetter_150, dX3_isBetter_151, jX3_isBetter_0_41, st_aload_n, st_getfield, st_goto, st_iadd, st_iaload, st_iconst, st_ifCond, st_if_icmp, st_iinc, st_iload, st_iload_n, st_invokevirtual, st_ireturn, st_istore, st_isub, st_putfield]
      exact hf
    | succ n ih =>
      intro j t' hj hwt hlp hno
      have c1 := ltN (show j < N by omega) hN
      have hc1 := hCo t'
      have ha1 := hAo t'
      have hb1 := hB' t'
      have hb0 := hb1
      have hi := ih (j + 1) (dayC t') (by omega) (dayC_wf hwt).1
      have hf := fun e => fin t' e hno (nI j)
      rw [lpC] at hlp
      have hcc : cset Γ (b, bw, bk, bd) (dayC t') (cset Γ (b, bw, bk, bd) t' σ) = cset Γ (b, bw, bk, bd) (dayC t') σ := cset_cset
      have ht0 : ∀ hh : WfC t', Col Γ (b, bw, bk, bd) t' (cset Γ (b, bw, bk, bd) t' σ) → YG Γ mX3_isBetter K 92 [(0, .ref a), (1, .ref c), (2, .ref b), (3, .int (nI N)), (4, .int (ow t.2.1 ks 4)), (5, .int (nI j))] [] (cset Γ (b, bw, bk, bd) (dayC t') σ) → YG Γ mX3_isBetter K 88 [(0, .ref a), (1, .ref c), (2, .ref b), (3, .int (nI N)), (4, .int (ow t.2.1 ks 4)), (5, .int (nI j))] [] (cset Γ (b, bw, bk, bd) t' σ) := by
        intro hh hcol hy
        refine yvc1_ok (uX3_isBetter Γ) (S := [66, 98]) 40 ?_
        simp only [yvc1, yvc_s, s1i, s2i, s1l, s2l, sil, s1r, sir, siir, slir, srir, svr, sd1, sd2, lg, lput, ldel, isL_i, isL_r, isL_l, jmp, obj, obj1, fI, fR, arI, arL, arR, hput, f4_0, f4_1, f4_2, f4_3, lc_0, lc_1, rok_i, rok_b, rok_y, strF, fput_1, fput_2, csum_nil, csum_i, csum_l, csum_r, va_up_self, bx_uu, Int.reduceAdd, List.elem_nil, List.elem_cons, List.take_succ_cons, List.take_zero, List.drop_succ_cons, List.drop_zero, List.take_nil, List.drop_nil, List.reverse_cons, List.reverse_nil, List.nil_append, List.cons_append, List.append_nil, Option.toList_some, Option.toList_none, List.getElem?_cons_zero, List.getElem?_cons_succ, List.set_cons_zero, List.set_cons_succ, List.length_cons, List.length_nil, reduceIte, reduceCtorEq, and_true, true_and, and_self, or_true, true_or, false_and, and_false, not_true_eq_false, not_false_eq_true, true_implies, false_implies, implies_true, Nat.reduceAdd, Nat.reduceLT, Nat.reduceEqDiff, Nat.reduceLeDiff, Nat.reduceBEq, Nat.zero_add, Nat.lt_add_one, Bool.false_eq_true, Bool.or_false, Bool.or_true, Bool.or_self, Nat.zero_ne_one, Nat.one_ne_zero, ite_true, ite_false, ne_eq, Nat.reduceSub, Nat.succ_eq_add_one, Nat.zero_lt_succ, Nat.add_one_ne_zero, false_or, or_false, mX3_isBetter_c, mX3_isBetter_n, mX3_isBetter_r, mX3_isBetter_l, dX3_isBetter_0, ic_0, dX3_isBetter_1, dX3_isBetter_3, dX3_isBetter_4, dX3_isBetter_6, dX3_isBetter_8, ic_4, dX3_isBetter_9, tg_9_36, cnd2_ge, dX3_isBetter_12, dX3_isBetter_14, dX3_isBetter_15, fl_3_31_0, dX3_isBetter_18, dX3_isBetter_20, dX3_isBetter_21, dX3_isBetter_22, dX3_isBetter_25, dX3_isBetter_27, dX3_isBetter_28, tg_28_7, cnd2_ne, dX3_isBetter_31, dX3_isBetter_32, tg_32_4, dX3_isBetter_35, ic_1, dX3_isBetter_36, dX3_isBetter_37, dX3_isBetter_39, dX3_isBetter_42, tg_42_m36, dX3_isBetter_45, dX3_isBetter_46, fl_3_15_3, dX3_isBetter_49, tg_49_14, cnd1_ne, dX3_isBetter_52, dX3_isBetter_54, dX3_isBetter_55, fl_3_19_3, dX3_isBetter_58, tg_58_5, cnd2_lt, dX3_isBetter_61, dX3_isBetter_62, dX3_isBetter_63, dX3_isBetter_64, dX3_isBetter_66, dX3_isBetter_68, dX3_isBetter_69, tg_69_29, dX3_isBetter_72, dX3_isBetter_73, fl_3_40_0, dX3_isBetter_76, dX3_isBetter_77, dX3_isBetter_80, dX3_isBetter_81, dX3_isBetter_82, dX3_isBetter_85, tg_85_13, cnd2_gt, dX3_isBetter_88, dX3_isBetter_89, dX3_isBetter_92, dX3_isBetter_95, tg_95_m29, dX3_isBetter_98, dX3_isBetter_99, dX3_isBetter_102, dX3_isBetter_103, dX3_isBetter_106, dX3_isBetter_107, dX3_isBetter_109, dX3_isBetter_111, dX3_isBetter_112, dX3_isBetter_115, tg_115_21, dX3_isBetter_118, dX3_isBetter_120, dX3_isBetter_121, dX3_isBetter_124, tg_124_14, dX3_isBetter_127, dX3_isBetter_129, dX3_isBetter_130, dX3_isBetter_133, tg_133_5, dX3_isBetter_136, dX3_isBetter_137, dX3_isBetter_138, dX3_isBetter_139, dX3_isBetter_141, dX3_isBetter_144, dX3_isBetter_145, dX3_isBetter_147, dX3_isBetter_150, dX3_isBetter_151, jX3_isBetter_0_41, st_aload_n, st_getfield, st_goto, st_iadd, st_iaload, st_iconst, st_ifCond, st_if_icmp, st_iinc, st_iload, st_iload_n, st_invokevirtual, st_ireturn, st_istore, st_isub, st_putfield]
        refine ⟨(b, bw, bk, bd), t', rfl, hh, hcol, ?_⟩
        rw [hcc]
        exact hy
      have hy : ¬ g < t'.2.2.2.2.1 - gones → YG Γ mX3_isBetter K 92 [(0, .ref a), (1, .ref c), (2, .ref b), (3, .int (nI N)), (4, .int (ow t.2.1 ks 4)), (5, .int (nI j))] [] (cset Γ (b, bw, bk, bd) (dayC t') σ) := by
        intro cc
        rw [if_neg cc] at hlp
        refine yvc1_ok (uX3_isBetter Γ) (S := [66, 98]) 40 ?_
        simp only [yvc1, nI_1, yvc_s, s1i, s2i, s1l, s2l, sil, s1r, sir, siir, slir, srir, svr, sd1, sd2, lg, lput, ldel, isL_i, isL_r, isL_l, jmp, obj, obj1, fI, fR, arI, arL, arR, hput, f4_0, f4_1, f4_2, f4_3, lc_0, lc_1, rok_i, rok_b, rok_y, strF, fput_1, fput_2, csum_nil, csum_i, csum_l, csum_r, va_up_self, bx_uu, Int.reduceAdd, List.elem_nil, List.elem_cons, List.take_succ_cons, List.take_zero, List.drop_succ_cons, List.drop_zero, List.take_nil, List.drop_nil, List.reverse_cons, List.reverse_nil, List.nil_append, List.cons_append, List.append_nil, Option.toList_some, Option.toList_none, List.getElem?_cons_zero, List.getElem?_cons_succ, List.set_cons_zero, List.set_cons_succ, List.length_cons, List.length_nil, reduceIte, reduceCtorEq, and_true, true_and, and_self, or_true, true_or, false_and, and_false, not_true_eq_false, not_false_eq_true, true_implies, false_implies, implies_true, Nat.reduceAdd, Nat.reduceLT, Nat.reduceEqDiff, Nat.reduceLeDiff, Nat.reduceBEq, Nat.zero_add, Nat.lt_add_one, Bool.false_eq_true, Bool.or_false, Bool.or_true, Bool.or_self, Nat.zero_ne_one, Nat.one_ne_zero, ite_true, ite_false, ne_eq, Nat.reduceSub, Nat.succ_eq_add_one, Nat.zero_lt_succ, Nat.add_one_ne_zero, false_or, or_false, mX3_isBetter_c, mX3_isBetter_n, mX3_isBetter_r, mX3_isBetter_l, dX3_isBetter_0, ic_0, dX3_isBetter_1, dX3_isBetter_3, dX3_isBetter_4, dX3_isBetter_6, dX3_isBetter_8, ic_4, dX3_isBetter_9, tg_9_36, cnd2_ge, dX3_isBetter_12, dX3_isBetter_14, dX3_isBetter_15, fl_3_31_0, dX3_isBetter_18, dX3_isBetter_20, dX3_isBetter_21, dX3_isBetter_22, dX3_isBetter_25, dX3_isBetter_27, dX3_isBetter_28, tg_28_7, cnd2_ne, dX3_isBetter_31, dX3_isBetter_32, tg_32_4, dX3_isBetter_35, ic_1, dX3_isBetter_36, dX3_isBetter_37, dX3_isBetter_39, dX3_isBetter_42, tg_42_m36, dX3_isBetter_45, dX3_isBetter_46, fl_3_15_3, dX3_isBetter_49, tg_49_14, cnd1_ne, dX3_isBetter_52, dX3_isBetter_54, dX3_isBetter_55, fl_3_19_3, dX3_isBetter_58, tg_58_5, cnd2_lt, dX3_isBetter_61, dX3_isBetter_62, dX3_isBetter_63, dX3_isBetter_64, dX3_isBetter_66, dX3_isBetter_68, dX3_isBetter_69, tg_69_29, dX3_isBetter_72, dX3_isBetter_73, fl_3_40_0, dX3_isBetter_76, dX3_isBetter_77, dX3_isBetter_80, dX3_isBetter_81, dX3_isBetter_82, dX3_isBetter_85, tg_85_13, cnd2_gt, dX3_isBetter_88, dX3_isBetter_89, dX3_isBetter_92, dX3_isBetter_95, tg_95_m29, dX3_isBetter_98, dX3_isBetter_99, dX3_isBetter_102, dX3_isBetter_103, dX3_isBetter_106, dX3_isBetter_107, dX3_isBetter_109, dX3_isBetter_111, dX3_isBetter_112, dX3_isBetter_115, tg_115_21, dX3_isBetter_118, dX3_isBetter_120, dX3_isBetter_121, dX3_isBetter_124, tg_124_14, dX3_isBetter_127, dX3_isBetter_129, dX3_isBetter_130, dX3_isBetter_133, tg_133_5, dX3_isBetter_136, dX3_isBetter_137, dX3_isBetter_138, dX3_isBetter_139, dX3_isBetter_141, dX3_isBetter_144, dX3_isBetter_145, dX3_isBetter_147, dX3_isBetter_150, dX3_isBetter_151, jX3_isBetter_0_41, st_aload_n, st_getfield, st_goto, st_iadd, st_iaload, st_iconst, st_ifCond, st_if_icmp, st_iinc, st_iload, st_iload_n, st_invokevirtual, st_ireturn, st_istore, st_isub, st_putfield]
        exact hi hlp hno
      have hx := fun cc => ht0 hwt hb0 (hy cc)
      have hz : g < t'.2.2.2.2.1 - gones → lpC g gones N t = t' := fun cc => by rw [if_pos cc] at hlp; exact hlp.symm
      clear hi ht0 hy hcc hlp
      generalize cset Γ (b, bw, bk, bd) t' σ = σ1 at *
      obtain ⟨w, kp, kd, day, gone, draw, P, rule, gd⟩ := t'
      obtain ⟨⟨m1, m2, m3, m4⟩, e1, e2, e3, e4⟩ := id hc1
      obtain ⟨⟨v1, v2⟩, f1, f2⟩ := id ha1
      obtain ⟨⟨u1, u2, u3, u4⟩, g1, g2, g3, g4⟩ := id hb1
      simp only [ColE, PlE, iA] at e1 e2 e3 e4 m1 m2 m3 m4 v1 v2 f1 f2 u1 u2 u3 u4 g1 g2 g3 g4
      refine yvc1_ok (uX3_isBetter Γ) (S := [66, 88, 98]) 40 ?_
      simp only [yvc1, c1, m1, v1, u1, e1, f1, g1, yvc_s, s1i, s2i, s1l, s2l, sil, s1r, sir, siir, slir, srir, svr, sd1, sd2, lg, lput, ldel, isL_i, isL_r, isL_l, jmp, obj, obj1, fI, fR, arI, arL, arR, hput, f4_0, f4_1, f4_2, f4_3, lc_0, lc_1, rok_i, rok_b, rok_y, strF, fput_1, fput_2, csum_nil, csum_i, csum_l, csum_r, va_up_self, bx_uu, Int.reduceAdd, List.elem_nil, List.elem_cons, List.take_succ_cons, List.take_zero, List.drop_succ_cons, List.drop_zero, List.take_nil, List.drop_nil, List.reverse_cons, List.reverse_nil, List.nil_append, List.cons_append, List.append_nil, Option.toList_some, Option.toList_none, List.getElem?_cons_zero, List.getElem?_cons_succ, List.set_cons_zero, List.set_cons_succ, List.length_cons, List.length_nil, reduceIte, reduceCtorEq, and_true, true_and, and_self, or_true, true_or, false_and, and_false, not_true_eq_false, not_false_eq_true, true_implies, false_implies, implies_true, Nat.reduceAdd, Nat.reduceLT, Nat.reduceEqDiff, Nat.reduceLeDiff, Nat.reduceBEq, Nat.zero_add, Nat.lt_add_one, Bool.false_eq_true, Bool.or_false, Bool.or_true, Bool.or_self, Nat.zero_ne_one, Nat.one_ne_zero, ite_true, ite_false, ne_eq, Nat.reduceSub, Nat.succ_eq_add_one, Nat.zero_lt_succ, Nat.add_one_ne_zero, false_or, or_false, mX3_isBetter_c, mX3_isBetter_n, mX3_isBetter_r, mX3_isBetter_l, dX3_isBetter_0, ic_0, dX3_isBetter_1, dX3_isBetter_3, dX3_isBetter_4, dX3_isBetter_6, dX3_isBetter_8, ic_4, dX3_isBetter_9, tg_9_36, cnd2_ge, dX3_isBetter_12, dX3_isBetter_14, dX3_isBetter_15, fl_3_31_0, dX3_isBetter_18, dX3_isBetter_20, dX3_isBetter_21, dX3_isBetter_22, dX3_isBetter_25, dX3_isBetter_27, dX3_isBetter_28, tg_28_7, cnd2_ne, dX3_isBetter_31, dX3_isBetter_32, tg_32_4, dX3_isBetter_35, ic_1, dX3_isBetter_36, dX3_isBetter_37, dX3_isBetter_39, dX3_isBetter_42, tg_42_m36, dX3_isBetter_45, dX3_isBetter_46, fl_3_15_3, dX3_isBetter_49, tg_49_14, cnd1_ne, dX3_isBetter_52, dX3_isBetter_54, dX3_isBetter_55, fl_3_19_3, dX3_isBetter_58, tg_58_5, cnd2_lt, dX3_isBetter_61, dX3_isBetter_62, dX3_isBetter_63, dX3_isBetter_64, dX3_isBetter_66, dX3_isBetter_68, dX3_isBetter_69, tg_69_29, dX3_isBetter_72, dX3_isBetter_73, fl_3_40_0, dX3_isBetter_76, dX3_isBetter_77, dX3_isBetter_80, dX3_isBetter_81, dX3_isBetter_82, dX3_isBetter_85, tg_85_13, cnd2_gt, dX3_isBetter_88, dX3_isBetter_89, dX3_isBetter_92, dX3_isBetter_95, tg_95_m29, dX3_isBetter_98, dX3_isBetter_99, dX3_isBetter_102, dX3_isBetter_103, dX3_isBetter_106, dX3_isBetter_107, dX3_isBetter_109, dX3_isBetter_111, dX3_isBetter_112, dX3_isBetter_115, tg_115_21, dX3_isBetter_118, dX3_isBetter_120, dX3_isBetter_121, dX3_isBetter_124, tg_124_14, dX3_isBetter_127, dX3_isBetter_129, dX3_isBetter_130, dX3_isBetter_133, tg_133_5, dX3_isBetter_136, dX3_isBetter_137, dX3_isBetter_138, dX3_isBetter_139, dX3_isBetter_141, dX3_isBetter_144, dX3_isBetter_145, dX3_isBetter_147, dX3_isBetter_150, dX3_isBetter_151, jX3_isBetter_0_41, st_aload_n, st_getfield, st_goto, st_iadd, st_iaload, st_iconst, st_ifCond, st_if_icmp, st_iinc, st_iload, st_iload_n, st_invokevirtual, st_ireturn, st_istore, st_isub, st_putfield]
      exact ⟨fun cc => hf (hz cc), fun cc => hx cc⟩
  -- the count
  have cnt : ∀ n j : Nat, j + n = 4 → YG Γ mX3_isBetter K 6 [(0, .ref a), (1, .ref c), (2, .ref b), (3, .int (nI N)), (4, .int (ow t.2.1 ks j)), (5, .int (nI j))] [] σ := by
    intro n
    induction n with
    | zero =>
      intro j hj
      obtain rfl : j = 4 := by omega
      have hl := loop N 0 t (by omega) hw rfl
      rw [hB.self] at hl
      have hu : g = 0 ∧ ¬ ow t.2.1 ks 4 < v → K (some (.int (bI false))) σ := by
        intro z
        have := h σ frm.rf
        unfold bet at this
        simp only [if_pos z] at this
        exact this hA ⟨t, hB⟩
      obtain ⟨⟨v1, v2⟩, f1, f2⟩ := id hA
      simp only [PlE] at v1 v2 f1 f2
      refine yvc1_ok (uX3_isBetter Γ) (S := [6, 66]) 40 ?_
      simp only [yvc1, ge4, v1, f1, yvc_s, s1i, s2i, s1l, s2l, sil, s1r, sir, siir, slir, srir, svr, sd1, sd2, lg, lput, ldel, isL_i, isL_r, isL_l, jmp, obj, obj1, fI, fR, arI, arL, arR, hput, f4_0, f4_1, f4_2, f4_3, lc_0, lc_1, rok_i, rok_b, rok_y, strF, fput_1, fput_2, csum_nil, csum_i, csum_l, csum_r, va_up_self, bx_uu, Int.reduceAdd, List.elem_nil, List.elem_cons, List.take_succ_cons, List.take_zero, List.drop_succ_cons, List.drop_zero, List.take_nil, List.drop_nil, List.reverse_cons, List.reverse_nil, List.nil_append, List.cons_append, List.append_nil, Option.toList_some, Option.toList_none, List.getElem?_cons_zero, List.getElem?_cons_succ, List.set_cons_zero, List.set_cons_succ, List.length_cons, List.length_nil, reduceIte, reduceCtorEq, and_true, true_and, and_self, or_true, true_or, false_and, and_false, not_true_eq_false, not_false_eq_true, true_implies, false_implies, implies_true, Nat.reduceAdd, Nat.reduceLT, Nat.reduceEqDiff, Nat.reduceLeDiff, Nat.reduceBEq, Nat.zero_add, Nat.lt_add_one, Bool.false_eq_true, Bool.or_false, Bool.or_true, Bool.or_self, Nat.zero_ne_one, Nat.one_ne_zero, ite_true, ite_false, ne_eq, Nat.reduceSub, Nat.succ_eq_add_one, Nat.zero_lt_succ, Nat.add_one_ne_zero, false_or, or_false, mX3_isBetter_c, mX3_isBetter_n, mX3_isBetter_r, mX3_isBetter_l, dX3_isBetter_0, ic_0, dX3_isBetter_1, dX3_isBetter_3, dX3_isBetter_4, dX3_isBetter_6, dX3_isBetter_8, ic_4, dX3_isBetter_9, tg_9_36, cnd2_ge, dX3_isBetter_12, dX3_isBetter_14, dX3_isBetter_15, fl_3_31_0, dX3_isBetter_18, dX3_isBetter_20, dX3_isBetter_21, dX3_isBetter_22, dX3_isBetter_25, dX3_isBetter_27, dX3_isBetter_28, tg_28_7, cnd2_ne, dX3_isBetter_31, dX3_isBetter_32, tg_32_4, dX3_isBetter_35, ic_1, dX3_isBetter_36, dX3_isBetter_37, dX3_isBetter_39, dX3_isBetter_42, tg_42_m36, dX3_isBetter_45, dX3_isBetter_46, fl_3_15_3, dX3_isBetter_49, tg_49_14, cnd1_ne, dX3_isBetter_52, dX3_isBetter_54, dX3_isBetter_55, fl_3_19_3, dX3_isBetter_58, tg_58_5, cnd2_lt, dX3_isBetter_61, dX3_isBetter_62, dX3_isBetter_63, dX3_isBetter_64, dX3_isBetter_66, dX3_isBetter_68, dX3_isBetter_69, tg_69_29, dX3_isBetter_72, dX3_isBetter_73, fl_3_40_0, dX3_isBetter_76, dX3_isBetter_77, dX3_isBetter_80, dX3_isBetter_81, dX3_isBetter_82, dX3_isBetter_85, tg_85_13, cnd2_gt, dX3_isBetter_88, dX3_isBetter_89, dX3_isBetter_92, dX3_isBetter_95, tg_95_m29, dX3_isBetter_98, dX3_isBetter_99, dX3_isBetter_102, dX3_isBetter_103, dX3_isBetter_106, dX3_isBetter_107, dX3_isBetter_109, dX3_isBetter_111, dX3_isBetter_112, dX3_isBetter_115, tg_115_21, dX3_isBetter_118, dX3_isBetter_120, dX3_isBetter_121, dX3_isBetter_124, tg_124_14, dX3_isBetter_127, dX3_isBetter_129, dX3_isBetter_130, dX3_isBetter_133, tg_133_5, dX3_isBetter_136, dX3_isBetter_137, dX3_isBetter_138, dX3_isBetter_139, dX3_isBetter_141, dX3_isBetter_144, dX3_isBetter_145, dX3_isBetter_147, dX3_isBetter_150, dX3_isBetter_151, jX3_isBetter_0_41, st_aload_n, st_getfield, st_goto, st_iadd, st_iaload, st_iconst, st_ifCond, st_if_icmp, st_iinc, st_iload, st_iload_n, st_invokevirtual, st_ireturn, st_istore, st_isub, st_putfield]
      refine ⟨fun c1 => ?_, fun c1 => ⟨fun c2 => ?_, fun c2 => ?_⟩⟩
      · exact hl (fun z => c1 z.1)
      · exact hl (fun z => z.2 c2)
      · exact hu ⟨Classical.not_not.mp c1, c2⟩
    | succ n ih =>
      intro j hj
      obtain ⟨c1, c2, c3⟩ := lt4 (show j < 4 by omega)
      have hj1 := ih (j + 1) (by omega)
      obtain ⟨⟨m1, m2, m3, m4⟩, e1, e2, e3, e4⟩ := id hC
      obtain ⟨⟨u1, u2, u3, u4⟩, g1, g2, g3, g4⟩ := id hB
      simp only [ColE, iA] at e1 e2 e3 e4 m1 m2 m3 m4 u1 u2 u3 u4 g1 g2 g3 g4
      refine yvc1_ok (uX3_isBetter Γ) (S := [6]) 40 ?_
      simp only [yvc1, c1, c2, c3, m1, m3, u1, u3, e1, e3, g1, g3, nI_1, yvc_s, s1i, s2i, s1l, s2l, sil, s1r, sir, siir, slir, srir, svr, sd1, sd2, lg, lput, ldel, isL_i, isL_r, isL_l, jmp, obj, obj1, fI, fR, arI, arL, arR, hput, f4_0, f4_1, f4_2, f4_3, lc_0, lc_1, rok_i, rok_b, rok_y, strF, fput_1, fput_2, csum_nil, csum_i, csum_l, csum_r, va_up_self, bx_uu, Int.reduceAdd, List.elem_nil, List.elem_cons, List.take_succ_cons, List.take_zero, List.drop_succ_cons, List.drop_zero, List.take_nil, List.drop_nil, List.reverse_cons, List.reverse_nil, List.nil_append, List.cons_append, List.append_nil, Option.toList_some, Option.toList_none, List.getElem?_cons_zero, List.getElem?_cons_succ, List.set_cons_zero, List.set_cons_succ, List.length_cons, List.length_nil, reduceIte, reduceCtorEq, and_true, true_and, and_self, or_true, true_or, false_and, and_false, not_true_eq_false, not_false_eq_true, true_implies, false_implies, implies_true, Nat.reduceAdd, Nat.reduceLT, Nat.reduceEqDiff, Nat.reduceLeDiff, Nat.reduceBEq, Nat.zero_add, Nat.lt_add_one, Bool.false_eq_true, Bool.or_false, Bool.or_true, Bool.or_self, Nat.zero_ne_one, Nat.one_ne_zero, ite_true, ite_false, ne_eq, Nat.reduceSub, Nat.succ_eq_add_one, Nat.zero_lt_succ, Nat.add_one_ne_zero, false_or, or_false, mX3_isBetter_c, mX3_isBetter_n, mX3_isBetter_r, mX3_isBetter_l, dX3_isBetter_0, ic_0, dX3_isBetter_1, dX3_isBetter_3, dX3_isBetter_4, dX3_isBetter_6, dX3_isBetter_8, ic_4, dX3_isBetter_9, tg_9_36, cnd2_ge, dX3_isBetter_12, dX3_isBetter_14, dX3_isBetter_15, fl_3_31_0, dX3_isBetter_18, dX3_isBetter_20, dX3_isBetter_21, dX3_isBetter_22, dX3_isBetter_25, dX3_isBetter_27, dX3_isBetter_28, tg_28_7, cnd2_ne, dX3_isBetter_31, dX3_isBetter_32, tg_32_4, dX3_isBetter_35, ic_1, dX3_isBetter_36, dX3_isBetter_37, dX3_isBetter_39, dX3_isBetter_42, tg_42_m36, dX3_isBetter_45, dX3_isBetter_46, fl_3_15_3, dX3_isBetter_49, tg_49_14, cnd1_ne, dX3_isBetter_52, dX3_isBetter_54, dX3_isBetter_55, fl_3_19_3, dX3_isBetter_58, tg_58_5, cnd2_lt, dX3_isBetter_61, dX3_isBetter_62, dX3_isBetter_63, dX3_isBetter_64, dX3_isBetter_66, dX3_isBetter_68, dX3_isBetter_69, tg_69_29, dX3_isBetter_72, dX3_isBetter_73, fl_3_40_0, dX3_isBetter_76, dX3_isBetter_77, dX3_isBetter_80, dX3_isBetter_81, dX3_isBetter_82, dX3_isBetter_85, tg_85_13, cnd2_gt, dX3_isBetter_88, dX3_isBetter_89, dX3_isBetter_92, dX3_isBetter_95, tg_95_m29, dX3_isBetter_98, dX3_isBetter_99, dX3_isBetter_102, dX3_isBetter_103, dX3_isBetter_106, dX3_isBetter_107, dX3_isBetter_109, dX3_isBetter_111, dX3_isBetter_112, dX3_isBetter_115, tg_115_21, dX3_isBetter_118, dX3_isBetter_120, dX3_isBetter_121, dX3_isBetter_124, tg_124_14, dX3_isBetter_127, dX3_isBetter_129, dX3_isBetter_130, dX3_isBetter_133, tg_133_5, dX3_isBetter_136, dX3_isBetter_137, dX3_isBetter_138, dX3_isBetter_139, dX3_isBetter_141, dX3_isBetter_144, dX3_isBetter_145, dX3_isBetter_147, dX3_isBetter_150, dX3_isBetter_151, jX3_isBetter_0_41, st_aload_n, st_getfield, st_goto, st_iadd, st_iaload, st_iconst, st_ifCond, st_if_icmp, st_iinc, st_iload, st_iload_n, st_invokevirtual, st_ireturn, st_istore, st_isub, st_putfield]
      refine ⟨fun cc => ?_, fun cc => ?_⟩
      · rw [ow, if_neg cc] at hj1
        exact hj1
      · rw [ow, if_pos (Classical.not_not.mp cc)] at hj1
        exact hj1
  refine ⟨Nat.le_of_ble_eq_true rfl, yvc_ok (uX3_isBetter Γ) (S := [6]) 40 _ _ _ _ ?_⟩
  simp only [lv_args, Value.category, yvc_s, s1i, s2i, s1l, s2l, sil, s1r, sir, siir, slir, srir, svr, sd1, sd2, lg, lput, ldel, isL_i, isL_r, isL_l, jmp, obj, obj1, fI, fR, arI, arL, arR, hput, f4_0, f4_1, f4_2, f4_3, lc_0, lc_1, rok_i, rok_b, rok_y, strF, fput_1, fput_2, csum_nil, csum_i, csum_l, csum_r, va_up_self, bx_uu, Int.reduceAdd, List.elem_nil, List.elem_cons, List.take_succ_cons, List.take_zero, List.drop_succ_cons, List.drop_zero, List.take_nil, List.drop_nil, List.reverse_cons, List.reverse_nil, List.nil_append, List.cons_append, List.append_nil, Option.toList_some, Option.toList_none, List.getElem?_cons_zero, List.getElem?_cons_succ, List.set_cons_zero, List.set_cons_succ, List.length_cons, List.length_nil, reduceIte, reduceCtorEq, and_true, true_and, and_self, or_true, true_or, false_and, and_false, not_true_eq_false, not_false_eq_true, true_implies, false_implies, implies_true, Nat.reduceAdd, Nat.reduceLT, Nat.reduceEqDiff, Nat.reduceLeDiff, Nat.reduceBEq, Nat.zero_add, Nat.lt_add_one, Bool.false_eq_true, Bool.or_false, Bool.or_true, Bool.or_self, Nat.zero_ne_one, Nat.one_ne_zero, ite_true, ite_false, ne_eq, Nat.reduceSub, Nat.succ_eq_add_one, Nat.zero_lt_succ, Nat.add_one_ne_zero, false_or, or_false, mX3_isBetter_c, mX3_isBetter_n, mX3_isBetter_r, mX3_isBetter_l, dX3_isBetter_0, ic_0, dX3_isBetter_1, dX3_isBetter_3, dX3_isBetter_4, dX3_isBetter_6, dX3_isBetter_8, ic_4, dX3_isBetter_9, tg_9_36, cnd2_ge, dX3_isBetter_12, dX3_isBetter_14, dX3_isBetter_15, fl_3_31_0, dX3_isBetter_18, dX3_isBetter_20, dX3_isBetter_21, dX3_isBetter_22, dX3_isBetter_25, dX3_isBetter_27, dX3_isBetter_28, tg_28_7, cnd2_ne, dX3_isBetter_31, dX3_isBetter_32, tg_32_4, dX3_isBetter_35, ic_1, dX3_isBetter_36, dX3_isBetter_37, dX3_isBetter_39, dX3_isBetter_42, tg_42_m36, dX3_isBetter_45, dX3_isBetter_46, fl_3_15_3, dX3_isBetter_49, tg_49_14, cnd1_ne, dX3_isBetter_52, dX3_isBetter_54, dX3_isBetter_55, fl_3_19_3, dX3_isBetter_58, tg_58_5, cnd2_lt, dX3_isBetter_61, dX3_isBetter_62, dX3_isBetter_63, dX3_isBetter_64, dX3_isBetter_66, dX3_isBetter_68, dX3_isBetter_69, tg_69_29, dX3_isBetter_72, dX3_isBetter_73, fl_3_40_0, dX3_isBetter_76, dX3_isBetter_77, dX3_isBetter_80, dX3_isBetter_81, dX3_isBetter_82, dX3_isBetter_85, tg_85_13, cnd2_gt, dX3_isBetter_88, dX3_isBetter_89, dX3_isBetter_92, dX3_isBetter_95, tg_95_m29, dX3_isBetter_98, dX3_isBetter_99, dX3_isBetter_102, dX3_isBetter_103, dX3_isBetter_106, dX3_isBetter_107, dX3_isBetter_109, dX3_isBetter_111, dX3_isBetter_112, dX3_isBetter_115, tg_115_21, dX3_isBetter_118, dX3_isBetter_120, dX3_isBetter_121, dX3_isBetter_124, tg_124_14, dX3_isBetter_127, dX3_isBetter_129, dX3_isBetter_130, dX3_isBetter_133, tg_133_5, dX3_isBetter_136, dX3_isBetter_137, dX3_isBetter_138, dX3_isBetter_139, dX3_isBetter_141, dX3_isBetter_144, dX3_isBetter_145, dX3_isBetter_147, dX3_isBetter_150, dX3_isBetter_151, jX3_isBetter_0_41, st_aload_n, st_getfield, st_goto, st_iadd, st_iaload, st_iconst, st_ifCond, st_if_icmp, st_iinc, st_iload, st_iload_n, st_invokevirtual, st_ireturn, st_istore, st_isub, st_putfield]
  exact cnt 4 0 rfl
def dgt (way P : Nat) : Nat → Nat
  | 0 => way / P / P / P % P
  | 1 => way / P / P % P
  | 2 => way / P % P
  | _ => way % P
theorem dgt_lt {way P : Nat} (h : 0 < P) : ∀ d : Nat, dgt way P d < P
  | 0 => Nat.mod_lt _ h
  | 1 => Nat.mod_lt _ h
  | 2 => Nat.mod_lt _ h
  | _ + 3 => Nat.mod_lt _ h
theorem spF_at {f : Nat → Int32} {way P : Nat} : ∀ d : Nat, d < 4 → spF f way P d = nI (dgt way P d)
  | 0, _ => rfl
  | 1, _ => rfl
  | 2, _ => rfl
  | 3, _ => rfl
  | d + 4, h => absurd h (by omega)
/-- t is as s, but for its keys, which are as the way tells -/
def agr (t s : CS) (way : Nat) : Prop := (∀ k, k < 20 → t.1 k = s.1 k) ∧ (∀ d, d < 4 → t.2.1 d = nI (dgt way s.2.2.2.2.2.2.1 d)) ∧ (∀ p, p < 5 → t.2.2.1 p = s.2.2.1 p) ∧ t.2.2.2.1 = s.2.2.2.1 ∧ t.2.2.2.2.1 = s.2.2.2.2.1 ∧ t.2.2.2.2.2.1 = s.2.2.2.2.2.1 ∧ t.2.2.2.2.2.2.1 = s.2.2.2.2.2.2.1 ∧ t.2.2.2.2.2.2.2.1 = s.2.2.2.2.2.2.2.1
def SkR (s : CS) (n : Nat) : Nat → Nat → Int32 → Int32 → Prop
  | 0, b, g, v => b = 0 ∧ g = 121 ∧ v = 5
  | k + 1, b', g', v' => ∃ (b : Nat) (g v : Int32) (t : CS), SkR s n k b g v ∧ agr t s k ∧ (bet s t g v n).2 = (g', v') ∧ b' = if (bet s t g v n).1 = true then k else b
def sp_X3_seek (Γ : Cx) : YSp := fun av σ K => ∃ (A : Nat × Nat) (f : Nat → Int32) (g v : Int32) (C B : CA) (s t : CS) (n : Nat), av = [.ref A.1, .ref C.1, .ref B.1, .int (nI n)] ∧ n < 100 ∧ 0 < s.2.2.2.2.2.2.1 ∧ s.2.2.2.2.2.2.1 ≤ 5 ∧ Pl Γ A (f, g, v) σ ∧ Col Γ C s σ ∧ Col Γ B t σ ∧ apC B C ∧ (∀ q, SF A q → ¬ CF B q ∧ ¬ CF C q) ∧
  ∀ (σ' : Hp) (f' : Nat → Int32) (b : Nat) (g' v' : Int32), frm (fun q => SF A q ∨ CF B q) σ σ' → SkR s n (s.2.2.2.2.2.2.1 * s.2.2.2.2.2.2.1 * s.2.2.2.2.2.2.1 * s.2.2.2.2.2.2.1) b g' v' → (∀ d, d < 4 → f' d = nI (dgt b s.2.2.2.2.2.2.1 d)) → Pl Γ A (f', g', v') σ' → (∃ t', Col Γ B t' σ') → K none σ'
theorem rv_X3_seek {Γ : Cx} : Recv (sp_X3_seek Γ) 3 3 := by
  intro av σ K h
  obtain ⟨A, f, g, v, C, B, s, t, n, rfl, -, -, -, hc, -⟩ := h
  obtain ⟨fs, h1, h2⟩ := pl_rv hc
  exact ⟨_, _, fs, rfl, rfl, h1, h2⟩
theorem p4_le {P : Nat} (h : P ≤ 5) : P * P * P * P ≤ 625 := by
  rcases (show P = 0 ∨ P = 1 ∨ P = 2 ∨ P = 3 ∨ P = 4 ∨ P = 5 by omega) with rfl | rfl | rfl | rfl | rfl | rfl <;> decide
theorem bw_451 : Cond.code yX0_become cX0_become 2 none ∈ BW := bw_i 451 (by decide +kernel) (by decide +kernel)
theorem no_X0_become : NameOK yX0_become 1 := by unfold NameOK; decide +kernel
theorem bw_600 : Cond.methodLink RX3 27 yX0_become ∈ BW := bw_i 600 (by decide +kernel) (by decide +kernel)
theorem bw_449 : Cond.instanceMethod yX0_become ∈ BW := bw_i 449 (by decide +kernel) (by decide +kernel)
theorem bw_450 : Cond.selects RX0 yX0_become yX0_become ∈ BW := bw_i 450 (by decide +kernel) (by decide +kernel)
theorem bw_603 : Cond.code yX3_spell cX3_spell 5 none ∈ BW := bw_i 603 (by decide +kernel) (by decide +kernel)
theorem bw_47 : Cond.initialized RX3 ∈ BW := bw_i 47 (by decide +kernel) (by decide +kernel)
theorem no_X3_spell : NameOK yX3_spell 3 := by unfold NameOK; decide +kernel
theorem bw_601 : Cond.methodLink RX3 32 yX3_spell ∈ BW := bw_i 601 (by decide +kernel) (by decide +kernel)
theorem bw_602 : Cond.static yX3_spell ∈ BW := bw_i 602 (by decide +kernel) (by decide +kernel)
theorem bw_607 : Cond.code yX3_isBetter cX3_isBetter 6 (some .boolean) ∈ BW := bw_i 607 (by decide +kernel) (by decide +kernel)
theorem no_X3_isBetter : NameOK yX3_isBetter 3 := by unfold NameOK; decide +kernel
theorem bw_604 : Cond.methodLink RX3 36 yX3_isBetter ∈ BW := bw_i 604 (by decide +kernel) (by decide +kernel)
theorem bw_606 : Cond.instanceMethod yX3_isBetter ∈ BW := bw_i 606 (by decide +kernel) (by decide +kernel)
theorem bw_12 : Cond.selects RX3 yX3_isBetter yX3_isBetter ∈ BW := bw_i 12 (by decide +kernel) (by decide +kernel)
theorem bc_121 : (Int8.ofInt 121).toInt32 = 121 := by decide
theorem tg_42_41 : tgo 42 41 = some 83 := by decide
theorem tg_70_7 : tgo 70 7 = some 77 := by decide
theorem tg_80_m42 : tgo 80 (-42) = some 38 := by decide
def mX3_seek : Mt := (⟨5, 0, 0, 115⟩, RX3, cX3_seek, 7, none, (0, 0), none)
theorem mX3_seek_c : mX3_seek.2.2.1 = cX3_seek := rfl
theorem mX3_seek_n : mX3_seek.2.2.2.1 = 7 := rfl
theorem mX3_seek_r : mX3_seek.2.2.2.2.1 = none := rfl
theorem mX3_seek_l : mX3_seek.2.2.2.2.2.2 = none := rfl
def jX3_seek (Γ : Cx) : List ((Nat × Nat) × Nat × Bool × YSp) := [((0, 27), 2, false, sp_X0_become Γ), ((1, 32), 3, false, sp_X3_spell Γ), ((0, 36), 4, false, sp_X3_isBetter Γ)]
theorem jX3_seek_0_27 (Γ : Cx) : kT (jX3_seek Γ) 0 27 = some (2, false, sp_X0_become Γ) := rfl
theorem jX3_seek_1_32 (Γ : Cx) : kT (jX3_seek Γ) 1 32 = some (3, false, sp_X3_spell Γ) := rfl
theorem jX3_seek_0_36 (Γ : Cx) : kT (jX3_seek Γ) 0 36 = some (4, false, sp_X3_isBetter Γ) := rfl
theorem uX3_seek (Γ : Cx) : TbOK Γ mX3_seek (fT fX3, cT kX3, kT (jX3_seek Γ)) := tb_ok fX3_ok kX3_ok (all_cons ⟨call_V (n := 1) (T := TX0) (N := 9) (ok_X0_become Γ) (rv_X0_become (Γ := Γ)) rfl bw_451 bw_600 bw_449 bw_450 bw_44 no_X0_become ⟨⟨rfl, rfl⟩, ⟨by decide, by decide⟩, ⟨by decide, by decide⟩⟩, fun z => by cases z⟩ (all_cons ⟨call_S (n := 3) (ok_X3_spell Γ) (rv_X3_spell (Γ := Γ)) bw_603 bw_601 bw_602 bw_47 no_X3_spell ⟨⟨rfl, rfl⟩, ⟨by decide, by decide⟩, ⟨by decide, by decide⟩⟩, fun z => by cases z⟩ (all_cons ⟨call_V (n := 3) (T := TX3) (N := 3) (ok_X3_isBetter Γ) (rv_X3_isBetter (Γ := Γ)) rfl bw_607 bw_604 bw_606 bw_12 bw_47 no_X3_isBetter ⟨⟨rfl, rfl⟩, ⟨by decide, by decide⟩, ⟨by decide, by decide⟩⟩, fun z => by cases z⟩ (all_nil))))
theorem cf_apart {Γ : Cx} {A B : CA} {s t : CS} {σ : Hp} (hA : Col Γ A s σ) (hB : Col Γ B t σ) (h : apC A B) : ∀ q, CF A q → ¬ CF B q := by
  obtain ⟨q1, q2, q3, q4⟩ := h
  obtain ⟨-, a1, a2, a3, a4⟩ := hA
  obtain ⟨-, b1, b2, b3, b4⟩ := hB
  intro q hq hz
  rcases hq with rfl | rfl | rfl | rfl <;> rcases hz with z | z | z | z
  · exact q1 z
  · exact ne_of a1 b2 (fun e => iA_neO e.symm) z
  · exact ne_of a1 b3 (fun e => iA_neO e.symm) z
  · exact ne_of a1 b4 (fun e => iA_neO e.symm) z
  · exact ne_of a2 b1 iA_neO z
  · exact q2 z
  · exact ne_of a2 b3 (iA_ne (by decide)) z
  · exact ne_of a2 b4 (iA_ne (by decide)) z
  · exact ne_of a3 b1 iA_neO z
  · exact ne_of a3 b2 (iA_ne (by decide)) z
  · exact q3 z
  · exact ne_of a3 b4 (iA_ne (by decide)) z
  · exact ne_of a4 b1 iA_neO z
  · exact ne_of a4 b2 (iA_ne (by decide)) z
  · exact ne_of a4 b3 (iA_ne (by decide)) z
  · exact q4 z
theorem ltW {j n : Nat} (h : j < n) (hn : n ≤ 625) : ¬ nI n ≤ nI j := nI_ge h (by omega)
set_option maxRecDepth 20000 in
theorem ok_X3_seek (Γ : Cx) : Ok Γ yX3_seek mX3_seek (sp_X3_seek Γ) := by
  refine ok_intro (by decide +kernel) rfl rfl ?_
  intro av σ K h
  obtain ⟨⟨a, pk⟩, f, g, v, ⟨c, cw, ck, cd⟩, ⟨b, bw, bk, bd⟩, ⟨ws, ks, ds, days, gones, draws, P, rules, gds⟩, t, N, rfl, hN, h0, h5, hA, hC, hB, hap, hdis, h⟩ := h
  simp only at h0 h5
  have h625 := p4_le h5
  have hBC := cf_apart hB hC hap
  have loop : ∀ n j best : Nat, ∀ (g v : Int32) (t : CS) (σ1 : Hp), j + n = P * P * P * P → best < 1000 → frm (fun q => SF (a, pk) q ∨ CF (b, bw, bk, bd) q) σ σ1 → SkR (ws, ks, ds, days, gones, draws, P, rules, gds) N j best g v → Pl Γ (a, pk) (f, g, v) σ1 → Col Γ (b, bw, bk, bd) t σ1 → YG Γ mX3_seek K 38 [(0, .ref a), (1, .ref c), (2, .ref b), (3, .int (nI N)), (4, .int (nI (P * P * P * P))), (5, .int (nI best)), (6, .int (nI j))] [] σ1 := by
    intro n
    induction n with
    | zero =>
      intro j best g v t σ1 hj hbest hfr hsk hA hB
      obtain rfl : j = P * P * P * P := by omega
      have hC1 : Col Γ (c, cw, ck, cd) (ws, ks, ds, days, gones, draws, P, rules, gds) σ1 := col_frm hC hfr (fun q hq z => z.elim (fun z => (hdis q z).2 hq) (fun z => hBC q z hq))
      obtain ⟨⟨m1, m2, m3, m4⟩, e1, e2, e3, e4⟩ := id hC1
      obtain ⟨⟨v1, v2⟩, f1, f2⟩ := id hA
      have f1s := f1
      simp only [ColE, PlE] at e1 f1s m1 v1
      refine yvc1_ok (uX3_seek Γ) (S := [38]) 40 ?_
      simp only [yvc1, geP, m1, v1, e1, f1s, yvc_s, s1i, s2i, s1l, s2l, sil, s1r, sir, siir, slir, srir, svr, sd1, sd2, lg, lput, ldel, isL_i, isL_r, isL_l, jmp, obj, obj1, fI, fR, arI, arL, arR, hput, f4_0, f4_1, f4_2, f4_3, lc_0, lc_1, rok_i, rok_b, rok_y, strF, fput_1, fput_2, csum_nil, csum_i, csum_l, csum_r, va_up_self, bx_uu, Int.reduceAdd, List.elem_nil, List.elem_cons, List.take_succ_cons, List.take_zero, List.drop_succ_cons, List.drop_zero, List.take_nil, List.drop_nil, List.reverse_cons, List.reverse_nil, List.nil_append, List.cons_append, List.append_nil, Option.toList_some, Option.toList_none, List.getElem?_cons_zero, List.getElem?_cons_succ, List.set_cons_zero, List.set_cons_succ, List.length_cons, List.length_nil, reduceIte, reduceCtorEq, and_true, true_and, and_self, or_true, true_or, false_and, and_false, not_true_eq_false, not_false_eq_true, true_implies, false_implies, implies_true, Nat.reduceAdd, Nat.reduceLT, Nat.reduceEqDiff, Nat.reduceLeDiff, Nat.reduceBEq, Nat.zero_add, Nat.lt_add_one, Bool.false_eq_true, Bool.or_false, Bool.or_true, Bool.or_self, Nat.zero_ne_one, Nat.one_ne_zero, ite_true, ite_false, ne_eq, Nat.reduceSub, Nat.succ_eq_add_one, Nat.zero_lt_succ, Nat.add_one_ne_zero, false_or, or_false, mX3_seek_c, mX3_seek_n, mX3_seek_r, mX3_seek_l, dX3_seek_0, dX3_seek_1, bc_121, dX3_seek_3, fl_3_15_3, dX3_seek_6, dX3_seek_7, ic_5, dX3_seek_8, fl_3_19_3, dX3_seek_11, dX3_seek_12, fl_3_22_0, dX3_seek_15, dX3_seek_16, dX3_seek_19, dX3_seek_20, dX3_seek_21, dX3_seek_24, dX3_seek_25, dX3_seek_26, dX3_seek_29, dX3_seek_30, dX3_seek_32, ic_0, dX3_seek_33, dX3_seek_35, dX3_seek_36, dX3_seek_38, dX3_seek_40, dX3_seek_42, tg_42_41, cnd2_ge, dX3_seek_45, dX3_seek_46, dX3_seek_47, dX3_seek_50, dX3_seek_52, dX3_seek_53, dX3_seek_56, dX3_seek_57, fl_3_31_0, dX3_seek_60, dX3_seek_63, dX3_seek_64, dX3_seek_65, dX3_seek_66, dX3_seek_67, dX3_seek_70, tg_70_7, cnd1_eq, dX3_seek_73, dX3_seek_75, dX3_seek_77, ic_1, dX3_seek_80, tg_80_m42, dX3_seek_83, dX3_seek_85, dX3_seek_86, dX3_seek_89, dX3_seek_90, fl_3_9_3, dX3_seek_93, dX3_seek_96, jX3_seek_0_27, jX3_seek_1_32, jX3_seek_0_36, st_aload_n, st_bipush, st_getfield, st_goto, st_iconst, st_ifCond, st_if_icmp, st_iinc, st_iload, st_iload_n, st_imul, st_invokestatic, st_invokevirtual, st_istore, st_putfield, st_return]
      refine ⟨best, P, pk, f, rfl, ⟨h0, h5, hbest⟩, v2, f2, ?_⟩
      have hk := h _ (spF f best P) best g v (hfr.tr (hput_frm (Or.inl (Or.inr rfl)))) hsk spF_at (hA.putA (spF f best P)) ⟨t, hB.keep rfl (fun q hq => va_up_ne _ _ (fun z => (hdis pk (Or.inr rfl)).1 (by have z' : q = pk := z; rw [← z']; exact hq)))⟩
      refine yvc_ok (uX3_seek Γ) (S := [38]) 40 _ _ _ _ ?_
      simp only [yvc_s, s1i, s2i, s1l, s2l, sil, s1r, sir, siir, slir, srir, svr, sd1, sd2, lg, lput, ldel, isL_i, isL_r, isL_l, jmp, obj, obj1, fI, fR, arI, arL, arR, hput, f4_0, f4_1, f4_2, f4_3, lc_0, lc_1, rok_i, rok_b, rok_y, strF, fput_1, fput_2, csum_nil, csum_i, csum_l, csum_r, va_up_self, bx_uu, Int.reduceAdd, List.elem_nil, List.elem_cons, List.take_succ_cons, List.take_zero, List.drop_succ_cons, List.drop_zero, List.take_nil, List.drop_nil, List.reverse_cons, List.reverse_nil, List.nil_append, List.cons_append, List.append_nil, Option.toList_some, Option.toList_none, List.getElem?_cons_zero, List.getElem?_cons_succ, List.set_cons_zero, List.set_cons_succ, List.length_cons, List.length_nil, reduceIte, reduceCtorEq, and_true, true_and, and_self, or_true, true_or, false_and, and_false, not_true_eq_false, not_false_eq_true, true_implies, false_implies, implies_true, Nat.reduceAdd, Nat.reduceLT, Nat.reduceEqDiff, Nat.reduceLeDiff, Nat.reduceBEq, Nat.zero_add, Nat.lt_add_one, Bool.false_eq_true, Bool.or_false, Bool.or_true, Bool.or_self, Nat.zero_ne_one, Nat.one_ne_zero, ite_true, ite_false, ne_eq, Nat.reduceSub, Nat.succ_eq_add_one, Nat.zero_lt_succ, Nat.add_one_ne_zero, false_or, or_false, mX3_seek_c, mX3_seek_n, mX3_seek_r, mX3_seek_l, dX3_seek_0, dX3_seek_1, bc_121, dX3_seek_3, fl_3_15_3, dX3_seek_6, dX3_seek_7, ic_5, dX3_seek_8, fl_3_19_3, dX3_seek_11, dX3_seek_12, fl_3_22_0, dX3_seek_15, dX3_seek_16, dX3_seek_19, dX3_seek_20, dX3_seek_21, dX3_seek_24, dX3_seek_25, dX3_seek_26, dX3_seek_29, dX3_seek_30, dX3_seek_32, ic_0, dX3_seek_33, dX3_seek_35, dX3_seek_36, dX3_seek_38, dX3_seek_40, dX3_seek_42, tg_42_41, cnd2_ge, dX3_seek_45, dX3_seek_46, dX3_seek_47, dX3_seek_50, dX3_seek_52, dX3_seek_53, dX3_seek_56, dX3_seek_57, fl_3_31_0, dX3_seek_60, dX3_seek_63, dX3_seek_64, dX3_seek_65, dX3_seek_66, dX3_seek_67, dX3_seek_70, tg_70_7, cnd1_eq, dX3_seek_73, dX3_seek_75, dX3_seek_77, ic_1, dX3_seek_80, tg_80_m42, dX3_seek_83, dX3_seek_85, dX3_seek_86, dX3_seek_89, dX3_seek_90, fl_3_9_3, dX3_seek_93, dX3_seek_96, jX3_seek_0_27, jX3_seek_1_32, jX3_seek_0_36, st_aload_n, st_bipush, st_getfield, st_goto, st_iconst, st_ifCond, st_if_icmp, st_iinc, st_iload, st_iload_n, st_imul, st_invokestatic, st_invokevirtual, st_istore, st_putfield, st_return]
      exact hk
    | succ n ih =>
      intro j best g v t σ1 hj hbest hfr hsk hA hB
      have hC1 : Col Γ (c, cw, ck, cd) (ws, ks, ds, days, gones, draws, P, rules, gds) σ1 := col_frm hC hfr (fun q hq z => z.elim (fun z => (hdis q z).2 hq) (fun z => hBC q z hq))
      have c1 := ltW (show j < P * P * P * P by omega) h625
      refine yvc1_ok (uX3_seek Γ) (S := [38]) 40 ?_
      simp only [yvc1, c1, yvc_s, s1i, s2i, s1l, s2l, sil, s1r, sir, siir, slir, srir, svr, sd1, sd2, lg, lput, ldel, isL_i, isL_r, isL_l, jmp, obj, obj1, fI, fR, arI, arL, arR, hput, f4_0, f4_1, f4_2, f4_3, lc_0, lc_1, rok_i, rok_b, rok_y, strF, fput_1, fput_2, csum_nil, csum_i, csum_l, csum_r, va_up_self, bx_uu, Int.reduceAdd, List.elem_nil, List.elem_cons, List.take_succ_cons, List.take_zero, List.drop_succ_cons, List.drop_zero, List.take_nil, List.drop_nil, List.reverse_cons, List.reverse_nil, List.nil_append, List.cons_append, List.append_nil, Option.toList_some, Option.toList_none, List.getElem?_cons_zero, List.getElem?_cons_succ, List.set_cons_zero, List.set_cons_succ, List.length_cons, List.length_nil, reduceIte, reduceCtorEq, and_true, true_and, and_self, or_true, true_or, false_and, and_false, not_true_eq_false, not_false_eq_true, true_implies, false_implies, implies_true, Nat.reduceAdd, Nat.reduceLT, Nat.reduceEqDiff, Nat.reduceLeDiff, Nat.reduceBEq, Nat.zero_add, Nat.lt_add_one, Bool.false_eq_true, Bool.or_false, Bool.or_true, Bool.or_self, Nat.zero_ne_one, Nat.one_ne_zero, ite_true, ite_false, ne_eq, Nat.reduceSub, Nat.succ_eq_add_one, Nat.zero_lt_succ, Nat.add_one_ne_zero, false_or, or_false, mX3_seek_c, mX3_seek_n, mX3_seek_r, mX3_seek_l, dX3_seek_0, dX3_seek_1, bc_121, dX3_seek_3, fl_3_15_3, dX3_seek_6, dX3_seek_7, ic_5, dX3_seek_8, fl_3_19_3, dX3_seek_11, dX3_seek_12, fl_3_22_0, dX3_seek_15, dX3_seek_16, dX3_seek_19, dX3_seek_20, dX3_seek_21, dX3_seek_24, dX3_seek_25, dX3_seek_26, dX3_seek_29, dX3_seek_30, dX3_seek_32, ic_0, dX3_seek_33, dX3_seek_35, dX3_seek_36, dX3_seek_38, dX3_seek_40, dX3_seek_42, tg_42_41, cnd2_ge, dX3_seek_45, dX3_seek_46, dX3_seek_47, dX3_seek_50, dX3_seek_52, dX3_seek_53, dX3_seek_56, dX3_seek_57, fl_3_31_0, dX3_seek_60, dX3_seek_63, dX3_seek_64, dX3_seek_65, dX3_seek_66, dX3_seek_67, dX3_seek_70, tg_70_7, cnd1_eq, dX3_seek_73, dX3_seek_75, dX3_seek_77, ic_1, dX3_seek_80, tg_80_m42, dX3_seek_83, dX3_seek_85, dX3_seek_86, dX3_seek_89, dX3_seek_90, fl_3_9_3, dX3_seek_93, dX3_seek_96, jX3_seek_0_27, jX3_seek_1_32, jX3_seek_0_36, st_aload_n, st_bipush, st_getfield, st_goto, st_iconst, st_ifCond, st_if_icmp, st_iinc, st_iload, st_iload_n, st_imul, st_invokestatic, st_invokevirtual, st_istore, st_putfield, st_return]
      refine ⟨(b, bw, bk, bd), (c, cw, ck, cd), t, (ws, ks, ds, days, gones, draws, P, rules, gds), rfl, hap, hB, hC1, ?_⟩
      obtain ⟨wt, kt, dt, dayt, gonet, drawt, Pt, rulet, gdt⟩ := t
      have hB2 := hB.set (bec (wt, kt, dt, dayt, gonet, drawt, Pt, rulet, gdt) (ws, ks, ds, days, gones, draws, P, rules, gds))
      have hC2 : Col Γ (c, cw, ck, cd) (ws, ks, ds, days, gones, draws, P, rules, gds) (cset Γ (b, bw, bk, bd) (bec (wt, kt, dt, dayt, gonet, drawt, Pt, rulet, gdt) (ws, ks, ds, days, gones, draws, P, rules, gds)) σ1) := hB.other hC1 hap
      have hpk := hB2.putK (spF (cpN 4 ks kt) j P)
      rw [cset_cset] at hpk
      simp only [bec] at hB2 hC2 hpk ⊢
      have hB3 := hB.set (cpN 20 ws wt, spF (cpN 4 ks kt) j P, cpN 5 ds dt, days, gones, draws, P, rules, gdt)
      have hC3 : Col Γ (c, cw, ck, cd) (ws, ks, ds, days, gones, draws, P, rules, gds) (cset Γ (b, bw, bk, bd) (cpN 20 ws wt, spF (cpN 4 ks kt) j P, cpN 5 ds dt, days, gones, draws, P, rules, gdt) σ1) := hB.other hC1 hap
      have hA3 : Pl Γ (a, pk) (f, g, v) (cset Γ (b, bw, bk, bd) (cpN 20 ws wt, spF (cpN 4 ks kt) j P, cpN 5 ds dt, days, gones, draws, P, rules, gdt) σ1) := hA.keep rfl (fun q hq => cset_frm.2 q (hdis q hq).1)
      have hfr3 : frm (fun q => SF (a, pk) q ∨ CF (b, bw, bk, bd) q) σ (cset Γ (b, bw, bk, bd) (cpN 20 ws wt, spF (cpN 4 ks kt) j P, cpN 5 ds dt, days, gones, draws, P, rules, gdt) σ1) := hfr.tr (cset_frm.mono (fun _ z => Or.inr z))
      have hag : agr (cpN 20 ws wt, spF (cpN 4 ks kt) j P, cpN 5 ds dt, days, gones, draws, P, rules, gdt) (ws, ks, ds, days, gones, draws, P, rules, gds) j := ⟨fun k hk => cpN_in hk, fun d hd => spF_at d hd, fun p hp => cpN_in hp, rfl, rfl, rfl, rfl, rfl⟩
      have hwf : WfC (cpN 20 ws wt, spF (cpN 4 ks kt) j P, cpN 5 ds dt, days, gones, draws, P, rules, gdt) := ⟨h5, fun d hd => Or.inr ⟨dgt j P d, dgt_lt h0 d, spF_at d hd⟩⟩
      generalize cset Γ (b, bw, bk, bd) (cpN 20 ws wt, spF (cpN 4 ks kt) j P, cpN 5 ds dt, days, gones, draws, P, rules, gdt) σ1 = σ3 at *
      generalize cset Γ (b, bw, bk, bd) (cpN 20 ws wt, cpN 4 ks kt, cpN 5 ds dt, days, gones, draws, P, rules, gdt) σ1 = σ2 at *
      obtain ⟨⟨m1, m2, m3, m4⟩, e1, e2, e3, e4⟩ := id hC2
      obtain ⟨⟨u1, u2, u3, u4⟩, g1, g2, g3, g4⟩ := id hB2
      have g1s := g1
      simp only [ColE] at e1 g1s m1 u1
      refine yvc_ok (uX3_seek Γ) (S := [38]) 40 _ _ _ _ ?_
      simp only [m1, u1, e1, g1s, yvc_s, s1i, s2i, s1l, s2l, sil, s1r, sir, siir, slir, srir, svr, sd1, sd2, lg, lput, ldel, isL_i, isL_r, isL_l, jmp, obj, obj1, fI, fR, arI, arL, arR, hput, f4_0, f4_1, f4_2, f4_3, lc_0, lc_1, rok_i, rok_b, rok_y, strF, fput_1, fput_2, csum_nil, csum_i, csum_l, csum_r, va_up_self, bx_uu, Int.reduceAdd, List.elem_nil, List.elem_cons, List.take_succ_cons, List.take_zero, List.drop_succ_cons, List.drop_zero, List.take_nil, List.drop_nil, List.reverse_cons, List.reverse_nil, List.nil_append, List.cons_append, List.append_nil, Option.toList_some, Option.toList_none, List.getElem?_cons_zero, List.getElem?_cons_succ, List.set_cons_zero, List.set_cons_succ, List.length_cons, List.length_nil, reduceIte, reduceCtorEq, and_true, true_and, and_self, or_true, true_or, false_and, and_false, not_true_eq_false, not_false_eq_true, true_implies, false_implies, implies_true, Nat.reduceAdd, Nat.reduceLT, Nat.reduceEqDiff, Nat.reduceLeDiff, Nat.reduceBEq, Nat.zero_add, Nat.lt_add_one, Bool.false_eq_true, Bool.or_false, Bool.or_true, Bool.or_self, Nat.zero_ne_one, Nat.one_ne_zero, ite_true, ite_false, ne_eq, Nat.reduceSub, Nat.succ_eq_add_one, Nat.zero_lt_succ, Nat.add_one_ne_zero, false_or, or_false, mX3_seek_c, mX3_seek_n, mX3_seek_r, mX3_seek_l, dX3_seek_0, dX3_seek_1, bc_121, dX3_seek_3, fl_3_15_3, dX3_seek_6, dX3_seek_7, ic_5, dX3_seek_8, fl_3_19_3, dX3_seek_11, dX3_seek_12, fl_3_22_0, dX3_seek_15, dX3_seek_16, dX3_seek_19, dX3_seek_20, dX3_seek_21, dX3_seek_24, dX3_seek_25, dX3_seek_26, dX3_seek_29, dX3_seek_30, dX3_seek_32, ic_0, dX3_seek_33, dX3_seek_35, dX3_seek_36, dX3_seek_38, dX3_seek_40, dX3_seek_42, tg_42_41, cnd2_ge, dX3_seek_45, dX3_seek_46, dX3_seek_47, dX3_seek_50, dX3_seek_52, dX3_seek_53, dX3_seek_56, dX3_seek_57, fl_3_31_0, dX3_seek_60, dX3_seek_63, dX3_seek_64, dX3_seek_65, dX3_seek_66, dX3_seek_67, dX3_seek_70, tg_70_7, cnd1_eq, dX3_seek_73, dX3_seek_75, dX3_seek_77, ic_1, dX3_seek_80, tg_80_m42, dX3_seek_83, dX3_seek_85, dX3_seek_86, dX3_seek_89, dX3_seek_90, fl_3_9_3, dX3_seek_93, dX3_seek_96, jX3_seek_0_27, jX3_seek_1_32, jX3_seek_0_36, st_aload_n, st_bipush, st_getfield, st_goto, st_iconst, st_ifCond, st_if_icmp, st_iinc, st_iload, st_iload_n, st_imul, st_invokestatic, st_invokevirtual, st_istore, st_putfield, st_return]
      refine ⟨j, P, bk, _, rfl, ⟨h0, h5, by omega⟩, u3, g3, ?_⟩
      rw [hpk]
      refine yvc_ok (uX3_seek Γ) (S := [38]) 40 _ _ _ _ ?_
      simp only [yvc_s, s1i, s2i, s1l, s2l, sil, s1r, sir, siir, slir, srir, svr, sd1, sd2, lg, lput, ldel, isL_i, isL_r, isL_l, jmp, obj, obj1, fI, fR, arI, arL, arR, hput, f4_0, f4_1, f4_2, f4_3, lc_0, lc_1, rok_i, rok_b, rok_y, strF, fput_1, fput_2, csum_nil, csum_i, csum_l, csum_r, va_up_self, bx_uu, Int.reduceAdd, List.elem_nil, List.elem_cons, List.take_succ_cons, List.take_zero, List.drop_succ_cons, List.drop_zero, List.take_nil, List.drop_nil, List.reverse_cons, List.reverse_nil, List.nil_append, List.cons_append, List.append_nil, Option.toList_some, Option.toList_none, List.getElem?_cons_zero, List.getElem?_cons_succ, List.set_cons_zero, List.set_cons_succ, List.length_cons, List.length_nil, reduceIte, reduceCtorEq, and_true, true_and, and_self, or_true, true_or, false_and, and_false, not_true_eq_false, not_false_eq_true, true_implies, false_implies, implies_true, Nat.reduceAdd, Nat.reduceLT, Nat.reduceEqDiff, Nat.reduceLeDiff, Nat.reduceBEq, Nat.zero_add, Nat.lt_add_one, Bool.false_eq_true, Bool.or_false, Bool.or_true, Bool.or_self, Nat.zero_ne_one, Nat.one_ne_zero, ite_true, ite_false, ne_eq, Nat.reduceSub, Nat.succ_eq_add_one, Nat.zero_lt_succ, Nat.add_one_ne_zero, false_or, or_false, mX3_seek_c, mX3_seek_n, mX3_seek_r, mX3_seek_l, dX3_seek_0, dX3_seek_1, bc_121, dX3_seek_3, fl_3_15_3, dX3_seek_6, dX3_seek_7, ic_5, dX3_seek_8, fl_3_19_3, dX3_seek_11, dX3_seek_12, fl_3_22_0, dX3_seek_15, dX3_seek_16, dX3_seek_19, dX3_seek_20, dX3_seek_21, dX3_seek_24, dX3_seek_25, dX3_seek_26, dX3_seek_29, dX3_seek_30, dX3_seek_32, ic_0, dX3_seek_33, dX3_seek_35, dX3_seek_36, dX3_seek_38, dX3_seek_40, dX3_seek_42, tg_42_41, cnd2_ge, dX3_seek_45, dX3_seek_46, dX3_seek_47, dX3_seek_50, dX3_seek_52, dX3_seek_53, dX3_seek_56, dX3_seek_57, fl_3_31_0, dX3_seek_60, dX3_seek_63, dX3_seek_64, dX3_seek_65, dX3_seek_66, dX3_seek_67, dX3_seek_70, tg_70_7, cnd1_eq, dX3_seek_73, dX3_seek_75, dX3_seek_77, ic_1, dX3_seek_80, tg_80_m42, dX3_seek_83, dX3_seek_85, dX3_seek_86, dX3_seek_89, dX3_seek_90, fl_3_9_3, dX3_seek_93, dX3_seek_96, jX3_seek_0_27, jX3_seek_1_32, jX3_seek_0_36, st_aload_n, st_bipush, st_getfield, st_goto, st_iconst, st_ifCond, st_if_icmp, st_iinc, st_iload, st_iload_n, st_imul, st_invokestatic, st_invokevirtual, st_istore, st_putfield, st_return]
      refine ⟨(a, pk), f, g, v, (c, cw, ck, cd), (b, bw, bk, bd), _, _, N, rfl, hN, hwf, hA3, hC3, hB3, hap, fun q hq => (hdis q hq).1, ?_⟩
      intro σ4 hfr4 hA4 hB4
      obtain ⟨t4, hB4⟩ := hB4
      have hi := fun best' hb' hs' => ih (j + 1) best' _ _ t4 σ4 (by omega) hb' (hfr3.tr hfr4) hs' hA4 hB4
      refine yvc_ok (uX3_seek Γ) (S := [38]) 40 _ _ _ _ ?_
      simp only [bI_eq0, Bool.not_eq_false, nI_1, yvc_s, s1i, s2i, s1l, s2l, sil, s1r, sir, siir, slir, srir, svr, sd1, sd2, lg, lput, ldel, isL_i, isL_r, isL_l, jmp, obj, obj1, fI, fR, arI, arL, arR, hput, f4_0, f4_1, f4_2, f4_3, lc_0, lc_1, rok_i, rok_b, rok_y, strF, fput_1, fput_2, csum_nil, csum_i, csum_l, csum_r, va_up_self, bx_uu, Int.reduceAdd, List.elem_nil, List.elem_cons, List.take_succ_cons, List.take_zero, List.drop_succ_cons, List.drop_zero, List.take_nil, List.drop_nil, List.reverse_cons, List.reverse_nil, List.nil_append, List.cons_append, List.append_nil, Option.toList_some, Option.toList_none, List.getElem?_cons_zero, List.getElem?_cons_succ, List.set_cons_zero, List.set_cons_succ, List.length_cons, List.length_nil, reduceIte, reduceCtorEq, and_true, true_and, and_self, or_true, true_or, false_and, and_false, not_true_eq_false, not_false_eq_true, true_implies, false_implies, implies_true, Nat.reduceAdd, Nat.reduceLT, Nat.reduceEqDiff, Nat.reduceLeDiff, Nat.reduceBEq, Nat.zero_add, Nat.lt_add_one, Bool.false_eq_true, Bool.or_false, Bool.or_true, Bool.or_self, Nat.zero_ne_one, Nat.one_ne_zero, ite_true, ite_false, ne_eq, Nat.reduceSub, Nat.succ_eq_add_one, Nat.zero_lt_succ, Nat.add_one_ne_zero, false_or, or_false, mX3_seek_c, mX3_seek_n, mX3_seek_r, mX3_seek_l, dX3_seek_0, dX3_seek_1, bc_121, dX3_seek_3, fl_3_15_3, dX3_seek_6, dX3_seek_7, ic_5, dX3_seek_8, fl_3_19_3, dX3_seek_11, dX3_seek_12, fl_3_22_0, dX3_seek_15, dX3_seek_16, dX3_seek_19, dX3_seek_20, dX3_seek_21, dX3_seek_24, dX3_seek_25, dX3_seek_26, dX3_seek_29, dX3_seek_30, dX3_seek_32, ic_0, dX3_seek_33, dX3_seek_35, dX3_seek_36, dX3_seek_38, dX3_seek_40, dX3_seek_42, tg_42_41, cnd2_ge, dX3_seek_45, dX3_seek_46, dX3_seek_47, dX3_seek_50, dX3_seek_52, dX3_seek_53, dX3_seek_56, dX3_seek_57, fl_3_31_0, dX3_seek_60, dX3_seek_63, dX3_seek_64, dX3_seek_65, dX3_seek_66, dX3_seek_67, dX3_seek_70, tg_70_7, cnd1_eq, dX3_seek_73, dX3_seek_75, dX3_seek_77, ic_1, dX3_seek_80, tg_80_m42, dX3_seek_83, dX3_seek_85, dX3_seek_86, dX3_seek_89, dX3_seek_90, fl_3_9_3, dX3_seek_93, dX3_seek_96, jX3_seek_0_27, jX3_seek_1_32, jX3_seek_0_36, st_aload_n, st_bipush, st_getfield, st_goto, st_iconst, st_ifCond, st_if_icmp, st_iinc, st_iload, st_iload_n, st_imul, st_invokestatic, st_invokevirtual, st_istore, st_putfield, st_return]
      refine ⟨fun cc => ?_, fun cc => ?_⟩
      · exact hi best hbest ⟨best, g, v, _, hsk, hag, rfl, by rw [cc]; rfl⟩
      · exact hi j (by omega) ⟨best, g, v, _, hsk, hag, rfl, by rw [cc]; rfl⟩
  have hA1 := hA.putO 121 5
  have hl := loop (P * P * P * P) 0 0 121 5 t (hput σ a (PlE pk 121 5)) (by omega) (by decide) (hput_frm (Or.inl (Or.inl rfl))) ⟨rfl, rfl, rfl⟩ hA1 (hB.keep rfl (fun q hq => va_up_ne _ _ (fun z => (hdis a (Or.inl rfl)).1 (by rw [← z]; exact hq))))
  have hC1 : Col Γ (c, cw, ck, cd) (ws, ks, ds, days, gones, draws, P, rules, gds) (hput σ a (PlE pk 121 5)) := hC.keep rfl (fun q hq => va_up_ne _ _ (fun z => (hdis a (Or.inl rfl)).2 (by rw [← z]; exact hq)))
  obtain ⟨⟨m1, m2, m3, m4⟩, e1, e2, e3, e4⟩ := id hC1
  obtain ⟨⟨v1, v2⟩, f1, f2⟩ := id hA
  simp only [ColE, PlE, hput] at e1 f1 m1 v1 hl
  refine ⟨Nat.le_of_ble_eq_true rfl, yvc_ok (uX3_seek Γ) (S := [38]) 40 _ _ _ _ ?_⟩
  simp only [lv_args, Value.category, m1, v1, e1, f1, pk_mul, yvc_s, s1i, s2i, s1l, s2l, sil, s1r, sir, siir, slir, srir, svr, sd1, sd2, lg, lput, ldel, isL_i, isL_r, isL_l, jmp, obj, obj1, fI, fR, arI, arL, arR, hput, f4_0, f4_1, f4_2, f4_3, lc_0, lc_1, rok_i, rok_b, rok_y, strF, fput_1, fput_2, csum_nil, csum_i, csum_l, csum_r, va_up_self, bx_uu, Int.reduceAdd, List.elem_nil, List.elem_cons, List.take_succ_cons, List.take_zero, List.drop_succ_cons, List.drop_zero, List.take_nil, List.drop_nil, List.reverse_cons, List.reverse_nil, List.nil_append, List.cons_append, List.append_nil, Option.toList_some, Option.toList_none, List.getElem?_cons_zero, List.getElem?_cons_succ, List.set_cons_zero, List.set_cons_succ, List.length_cons, List.length_nil, reduceIte, reduceCtorEq, and_true, true_and, and_self, or_true, true_or, false_and, and_false, not_true_eq_false, not_false_eq_true, true_implies, false_implies, implies_true, Nat.reduceAdd, Nat.reduceLT, Nat.reduceEqDiff, Nat.reduceLeDiff, Nat.reduceBEq, Nat.zero_add, Nat.lt_add_one, Bool.false_eq_true, Bool.or_false, Bool.or_true, Bool.or_self, Nat.zero_ne_one, Nat.one_ne_zero, ite_true, ite_false, ne_eq, Nat.reduceSub, Nat.succ_eq_add_one, Nat.zero_lt_succ, Nat.add_one_ne_zero, false_or, or_false, mX3_seek_c, mX3_seek_n, mX3_seek_r, mX3_seek_l, dX3_seek_0, dX3_seek_1, bc_121, dX3_seek_3, fl_3_15_3, dX3_seek_6, dX3_seek_7, ic_5, dX3_seek_8, fl_3_19_3, dX3_seek_11, dX3_seek_12, fl_3_22_0, dX3_seek_15, dX3_seek_16, dX3_seek_19, dX3_seek_20, dX3_seek_21, dX3_seek_24, dX3_seek_25, dX3_seek_26, dX3_seek_29, dX3_seek_30, dX3_seek_32, ic_0, dX3_seek_33, dX3_seek_35, dX3_seek_36, dX3_seek_38, dX3_seek_40, dX3_seek_42, tg_42_41, cnd2_ge, dX3_seek_45, dX3_seek_46, dX3_seek_47, dX3_seek_50, dX3_seek_52, dX3_seek_53, dX3_seek_56, dX3_seek_57, fl_3_31_0, dX3_seek_60, dX3_seek_63, dX3_seek_64, dX3_seek_65, dX3_seek_66, dX3_seek_67, dX3_seek_70, tg_70_7, cnd1_eq, dX3_seek_73, dX3_seek_75, dX3_seek_77, ic_1, dX3_seek_80, tg_80_m42, dX3_seek_83, dX3_seek_85, dX3_seek_86, dX3_seek_89, dX3_seek_90, fl_3_9_3, dX3_seek_93, dX3_seek_96, jX3_seek_0_27, jX3_seek_1_32, jX3_seek_0_36, st_aload_n, st_bipush, st_getfield, st_goto, st_iconst, st_ifCond, st_if_icmp, st_iinc, st_iload, st_iload_n, st_imul, st_invokestatic, st_invokevirtual, st_istore, st_putfield, st_return]
  exact hl
