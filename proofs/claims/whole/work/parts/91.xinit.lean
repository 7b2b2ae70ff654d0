/-! ===== constructors: YawnKeys ===== -/
/-- a predicate that speaks of the cells of label i alone -/
def Loc (i : Nat) (P : (Nat → Nat) → Hp → Prop) : Prop := ∀ (lab lab' : Nat → Nat) (σ σ' : Hp), P lab σ → (∀ q, q ∈ σ.1 → lab q = i → q ∈ σ'.1 ∧ lab' q = i ∧ σ'.2 q = σ.2 q) → P lab' σ'
theorem Ext.loc {lab lab' : Nat → Nat} {b i : Nat} {σ σ' : Hp} {P : (Nat → Nat) → Hp → Prop} (E : Ext lab lab' b σ σ') (hP : Loc i P) (hb : lab b ≠ i) (h : P lab σ) : P lab' σ' :=
  hP lab lab' σ σ' h (fun q hq hl => by
    obtain ⟨a1, a2, a3⟩ := E q hq
    exact ⟨a1, a2.trans hl, a3 (fun z => hb (z ▸ hl))⟩)
/-- all that was there stays -/
def ExtA (lab lab' : Nat → Nat) (σ σ' : Hp) : Prop := ∀ q, q ∈ σ.1 → q ∈ σ'.1 ∧ lab' q = lab q ∧ σ'.2 q = σ.2 q
theorem ExtA.ext {lab lab' : Nat → Nat} {b : Nat} {σ σ' : Hp} (E : ExtA lab lab' σ σ') : Ext lab lab' b σ σ' := fun q hq => ⟨(E q hq).1, (E q hq).2.1, fun _ => (E q hq).2.2⟩
theorem ExtA.loc {lab lab' : Nat → Nat} {i : Nat} {σ σ' : Hp} {P : (Nat → Nat) → Hp → Prop} (E : ExtA lab lab' σ σ') (hP : Loc i P) (h : P lab σ) : P lab' σ' := hP lab lab' σ σ' h (fun q hq hl => ⟨(E q hq).1, (E q hq).2.1.trans hl, (E q hq).2.2⟩)
theorem ExtA.new {lab : Nat → Nat} {q i : Nat} {σ : Hp} {e : va_E} (h : q ∉ σ.1) : ExtA lab (labU lab q i) σ (hnew σ q e) := fun r hr => ⟨hnew_in hr, labU_ne (ne_fresh h hr), hnew_ne (ne_fresh h hr)⟩
theorem ExtA.sub {lab lab' lab'' : Nat → Nat} {b : Nat} {σ σ' σ'' : Hp} (h : ExtA lab lab' σ σ') (h' : Ext lab' lab'' b σ' σ'') (hb : b ∉ σ.1) : ExtA lab lab'' σ σ'' := fun q hq => by
  obtain ⟨a1, a2, a3⟩ := h q hq
  obtain ⟨b1, b2, b3⟩ := h' q a1
  exact ⟨b1, b2.trans a2, (b3 (fun e => hb (e ▸ hq))).trans a3⟩
def colL (Γ : Cx) (A : CA) (s : CS) (i : Nat) (lab : Nat → Nat) (σ : Hp) : Prop := Col Γ A s σ ∧ ∀ q, CF A q → lab q = i
theorem loc_col {Γ : Cx} {A : CA} {s : CS} {i : Nat} : Loc i (colL Γ A s i) := by
  rintro lab lab' σ σ' ⟨⟨⟨m1, m2, m3, m4⟩, e1, e2, e3, e4⟩, hl⟩ h
  obtain ⟨a1, b1, c1⟩ := h _ m1 (hl _ (Or.inl rfl))
  obtain ⟨a2, b2, c2⟩ := h _ m2 (hl _ (Or.inr (Or.inl rfl)))
  obtain ⟨a3, b3, c3⟩ := h _ m3 (hl _ (Or.inr (Or.inr (Or.inl rfl))))
  obtain ⟨a4, b4, c4⟩ := h _ m4 (hl _ (Or.inr (Or.inr (Or.inr rfl))))
  refine ⟨⟨⟨a1, a2, a3, a4⟩, c1.trans e1, c2.trans e2, c3.trans e3, c4.trans e4⟩, ?_⟩
  rintro q (rfl | rfl | rfl | rfl)
  · exact b1
  · exact b2
  · exact b3
  · exact b4
def pasL (Γ : Cx) (p : Nat) (c : Nat → MC) (n i : Nat) (lab : Nat → Nat) (σ : Hp) : Prop := PastAt Γ (fL lab i) p c n σ
theorem loc_pas {Γ : Cx} {p : Nat} {c : Nat → MC} {n i : Nat} : Loc i (pasL Γ p c n i) := by
  rintro lab lab' σ σ' ⟨pm, m, ⟨⟨m1, m2, hn⟩, e1, ⟨f, e2, e2'⟩, e3, e4⟩, hl⟩ h
  obtain ⟨a1, b1, c1⟩ := h _ m1 (hl _ (Or.inl rfl))
  obtain ⟨a2, b2, c2⟩ := h _ m2 (hl _ (Or.inr (Or.inl rfl)))
  have hm : ∀ i, i < 8 → MomAt Γ (m i) (c i) σ' := fun k hk => by
    obtain ⟨⟨w1, w2, w3⟩, x1, ⟨f1, x2, y2⟩, ⟨f2, x3, y3⟩⟩ := e3 k hk
    obtain ⟨u1, -, v1⟩ := h _ w1 (hl _ (Or.inr (Or.inr ⟨k, hk, Or.inl rfl⟩)))
    obtain ⟨u2, -, v2⟩ := h _ w2 (hl _ (Or.inr (Or.inr ⟨k, hk, Or.inr (Or.inl rfl)⟩)))
    obtain ⟨u3, -, v3⟩ := h _ w3 (hl _ (Or.inr (Or.inr ⟨k, hk, Or.inr (Or.inr rfl)⟩)))
    exact ⟨⟨u1, u2, u3⟩, v1.trans x1, ⟨f1, v2.trans x2, y2⟩, ⟨f2, v3.trans x3, y3⟩⟩
  refine ⟨pm, m, ⟨⟨a1, a2, hn⟩, c1.trans e1, ⟨f, c2.trans e2, e2'⟩, hm, e4⟩, ?_⟩
  rintro q (rfl | rfl | ⟨k, hk, hq⟩)
  · exact b1
  · exact b2
  · obtain ⟨⟨w1, w2, w3⟩, -⟩ := e3 k hk
    rcases hq with rfl | rfl | rfl
    · exact (h _ w1 (hl _ (Or.inr (Or.inr ⟨k, hk, Or.inl rfl⟩)))).2.1
    · exact (h _ w2 (hl _ (Or.inr (Or.inr ⟨k, hk, Or.inr (Or.inl rfl)⟩)))).2.1
    · exact (h _ w3 (hl _ (Or.inr (Or.inr ⟨k, hk, Or.inr (Or.inr rfl)⟩)))).2.1
def tapL (Γ : Cx) (A : Nat × Nat) (l : Nat → Int32) (n k : Nat) (i : Nat) (lab : Nat → Nat) (σ : Hp) : Prop := Tp Γ A l n k σ ∧ ∀ q, SF A q → lab q = i
theorem loc_tap {Γ : Cx} {A : Nat × Nat} {l : Nat → Int32} {n k : Nat} {i : Nat} : Loc i (tapL Γ A l n k i) := by
  rintro lab lab' σ σ' ⟨⟨⟨m1, m2⟩, e1, e2⟩, hl⟩ h
  obtain ⟨a1, b1, c1⟩ := h _ m1 (hl _ (Or.inl rfl))
  obtain ⟨a2, b2, c2⟩ := h _ m2 (hl _ (Or.inr rfl))
  refine ⟨⟨⟨a1, a2⟩, c1.trans e1, c2.trans e2⟩, ?_⟩
  rintro q (rfl | rfl)
  · exact b1
  · exact b2
def plaL (Γ : Cx) (A : Nat × Nat) (s : PLS) (i : Nat) (lab : Nat → Nat) (σ : Hp) : Prop := Pl Γ A s σ ∧ ∀ q, SF A q → lab q = i
theorem loc_pla {Γ : Cx} {A : Nat × Nat} {s : PLS} {i : Nat} : Loc i (plaL Γ A s i) := by
  rintro lab lab' σ σ' ⟨⟨⟨m1, m2⟩, e1, e2⟩, hl⟩ h
  obtain ⟨a1, b1, c1⟩ := h _ m1 (hl _ (Or.inl rfl))
  obtain ⟨a2, b2, c2⟩ := h _ m2 (hl _ (Or.inr rfl))
  refine ⟨⟨⟨a1, a2⟩, c1.trans e1, c2.trans e2⟩, ?_⟩
  rintro q (rfl | rfl)
  · exact b1
  · exact b2
def sheL (Γ : Cx) (A : Nat × Nat) (s : SS) (i : Nat) (lab : Nat → Nat) (σ : Hp) : Prop := Sh Γ A s σ ∧ ∀ q, SF A q → lab q = i
theorem loc_she {Γ : Cx} {A : Nat × Nat} {s : SS} {i : Nat} : Loc i (sheL Γ A s i) := by
  rintro lab lab' σ σ' ⟨⟨⟨m1, m2⟩, e1, e2⟩, hl⟩ h
  obtain ⟨a1, b1, c1⟩ := h _ m1 (hl _ (Or.inl rfl))
  obtain ⟨a2, b2, c2⟩ := h _ m2 (hl _ (Or.inr rfl))
  refine ⟨⟨⟨a1, a2⟩, c1.trans e1, c2.trans e2⟩, ?_⟩
  rintro q (rfl | rfl)
  · exact b1
  · exact b2
theorem lab3 {A : Nat × Nat} {lab : Nat → Nat} {i : Nat} (h : ∀ q, SF A q → lab q = i) : ∀ q, SF A q → lab q = i := h
theorem bw_63 : Cond.methodLink RX6 1 objectInit ∈ BW := bw_i 63 (by decide +kernel) (by decide +kernel)
theorem ol_X6_init : Cond.methodLink RX6 1 objectInit ∈ BW := bw_63
theorem bw_70 : Cond.code yX0_init cX0_init 1 none ∈ BW := bw_i 70 (by decide +kernel) (by decide +kernel)
theorem bw_69 : Cond.instanceMethod yX0_init ∈ BW := bw_i 69 (by decide +kernel) (by decide +kernel)
theorem nw_68 : Cond.methodLinkNest RX6 9 yX0_init "YawnKeys" ∈ nestW := List.mem_filter.mpr ⟨List.mem_of_getElem? (i := 68) (by decide +kernel), rfl⟩
theorem no_X0_init : NameOK yX0_init 0 := by unfold NameOK; decide +kernel
theorem bw_131 : Cond.code yX2_init cX2_init 2 none ∈ BW := bw_i 131 (by decide +kernel) (by decide +kernel)
theorem bw_130 : Cond.instanceMethod yX2_init ∈ BW := bw_i 130 (by decide +kernel) (by decide +kernel)
theorem bw_129 : Cond.methodLink RX6 21 yX2_init ∈ BW := bw_i 129 (by decide +kernel) (by decide +kernel)
theorem no_X2_init : NameOK yX2_init 0 := by unfold NameOK; decide +kernel
theorem bw_155 : Cond.code yX5_init cX5_init 1 none ∈ BW := bw_i 155 (by decide +kernel) (by decide +kernel)
theorem bw_154 : Cond.instanceMethod yX5_init ∈ BW := bw_i 154 (by decide +kernel) (by decide +kernel)
theorem nw_153 : Cond.methodLinkNest RX6 38 yX5_init "YawnKeys" ∈ nestW := List.mem_filter.mpr ⟨List.mem_of_getElem? (i := 153) (by decide +kernel), rfl⟩
theorem no_X5_init : NameOK yX5_init 0 := by unfold NameOK; decide +kernel
theorem bw_172 : Cond.code yX3_init cX3_init 1 none ∈ BW := bw_i 172 (by decide +kernel) (by decide +kernel)
theorem bw_171 : Cond.instanceMethod yX3_init ∈ BW := bw_i 171 (by decide +kernel) (by decide +kernel)
theorem nw_170 : Cond.methodLinkNest RX6 45 yX3_init "YawnKeys" ∈ nestW := List.mem_filter.mpr ⟨List.mem_of_getElem? (i := 170) (by decide +kernel), rfl⟩
theorem no_X3_init : NameOK yX3_init 0 := by unfold NameOK; decide +kernel
theorem bw_192 : Cond.code yX4_init cX4_init 1 none ∈ BW := bw_i 192 (by decide +kernel) (by decide +kernel)
theorem bw_191 : Cond.instanceMethod yX4_init ∈ BW := bw_i 191 (by decide +kernel) (by decide +kernel)
theorem nw_190 : Cond.methodLinkNest RX6 52 yX4_init "YawnKeys" ∈ nestW := List.mem_filter.mpr ⟨List.mem_of_getElem? (i := 190) (by decide +kernel), rfl⟩
theorem no_X4_init : NameOK yX4_init 0 := by unfold NameOK; decide +kernel
theorem bw_66 : Cond.classLink RX6 7 RX0 ∈ BW := bw_i 66 (by decide +kernel) (by decide +kernel)
theorem bw_67 : Cond.instantiable RX0 9 ∈ BW := bw_i 67 (by decide +kernel) (by decide +kernel)
theorem nn_X6_init_7 : NewOK RX6 7 0 9 [.null, .null, .int 0, .int 0, .int 0, .null, .int 0, .int 0, .int 0] := ⟨RX0, TX0, tyX0, rfl, bw_66, bw_67, bw_44, wsIn_0, tyX0_ok, fun j hj => match j, hj with | 0, _ => rfl | 1, _ => rfl | 2, _ => rfl | 3, _ => rfl | 4, _ => rfl | 5, _ => rfl | 6, _ => rfl | 7, _ => rfl | 8, _ => rfl⟩
theorem fin_6_6_0 : finT RX6 6 0 := ⟨_, _, _, tyX6 0, rfl, rfl, rfl, by decide +kernel, fun v => ⟨rfl, rfl⟩⟩
theorem fin_6_6_1 : finT RX6 6 1 := ⟨_, _, _, tyX6 1, rfl, rfl, rfl, by decide +kernel, fun v => ⟨rfl, rfl⟩⟩
theorem bw_127 : Cond.classLink RX6 19 RX2 ∈ BW := bw_i 127 (by decide +kernel) (by decide +kernel)
theorem bw_128 : Cond.instantiable RX2 2 ∈ BW := bw_i 128 (by decide +kernel) (by decide +kernel)
theorem nn_X6_init_19 : NewOK RX6 19 2 2 [.null, .int 0] := ⟨RX2, TX2, tyX2, rfl, bw_127, bw_128, bw_45, wsIn_2, tyX2_ok, fun j hj => match j, hj with | 0, _ => rfl | 1, _ => rfl⟩
theorem fin_6_6_2 : finT RX6 6 2 := ⟨_, _, _, tyX6 2, rfl, rfl, rfl, by decide +kernel, fun v => ⟨rfl, rfl⟩⟩
theorem fin_6_6_3 : finT RX6 6 3 := ⟨_, _, _, tyX6 3, rfl, rfl, rfl, by decide +kernel, fun v => ⟨rfl, rfl⟩⟩
theorem fin_6_6_4 : finT RX6 6 4 := ⟨_, _, _, tyX6 4, rfl, rfl, rfl, by decide +kernel, fun v => ⟨rfl, rfl⟩⟩
theorem bw_151 : Cond.classLink RX6 36 RX5 ∈ BW := bw_i 151 (by decide +kernel) (by decide +kernel)
theorem bw_152 : Cond.instantiable RX5 3 ∈ BW := bw_i 152 (by decide +kernel) (by decide +kernel)
theorem nn_X6_init_36 : NewOK RX6 36 5 3 [.null, .int 0, .int 0] := ⟨RX5, TX5, tyX5, rfl, bw_151, bw_152, bw_46, wsIn_5, tyX5_ok, fun j hj => match j, hj with | 0, _ => rfl | 1, _ => rfl | 2, _ => rfl⟩
theorem fin_6_6_6 : finT RX6 6 6 := ⟨_, _, _, tyX6 6, rfl, rfl, rfl, by decide +kernel, fun v => ⟨rfl, rfl⟩⟩
theorem bw_168 : Cond.classLink RX6 43 RX3 ∈ BW := bw_i 168 (by decide +kernel) (by decide +kernel)
theorem bw_169 : Cond.instantiable RX3 3 ∈ BW := bw_i 169 (by decide +kernel) (by decide +kernel)
theorem nn_X6_init_43 : NewOK RX6 43 3 3 [.null, .int 0, .int 0] := ⟨RX3, TX3, tyX3, rfl, bw_168, bw_169, bw_47, wsIn_3, tyX3_ok, fun j hj => match j, hj with | 0, _ => rfl | 1, _ => rfl | 2, _ => rfl⟩
theorem fin_6_6_7 : finT RX6 6 7 := ⟨_, _, _, tyX6 7, rfl, rfl, rfl, by decide +kernel, fun v => ⟨rfl, rfl⟩⟩
theorem bw_187 : Cond.classLink RX6 50 RX4 ∈ BW := bw_i 187 (by decide +kernel) (by decide +kernel)
theorem nq_X6_init : Cond.classLink RX6 50 RX4 ∈ BW := bw_187
theorem bw_189 : Cond.instantiable RX4 3 ∈ BW := bw_i 189 (by decide +kernel) (by decide +kernel)
theorem nn_X6_init_50 : NewOK RX6 50 4 3 [.null, .int 0, .int 0] := ⟨RX4, TX4, tyX4, rfl, bw_187, bw_189, bw_48, wsIn_4, tyX4_ok, fun j hj => match j, hj with | 0, _ => rfl | 1, _ => rfl | 2, _ => rfl⟩
theorem fin_6_6_8 : finT RX6 6 8 := ⟨_, _, _, tyX6 8, rfl, rfl, rfl, by decide +kernel, fun v => ⟨rfl, rfl⟩⟩
def mX6_init : Mt := (⟨3, 77, 770, 61⟩, RX6, cX6_init, 1, none, (0, 0), none)
theorem mX6_init_c : mX6_init.2.2.1 = cX6_init := rfl
theorem mX6_init_n : mX6_init.2.2.2.1 = 1 := rfl
theorem mX6_init_r : mX6_init.2.2.2.2.1 = none := rfl
theorem mX6_init_l : mX6_init.2.2.2.2.2.2 = none := rfl
theorem mX6_init_o : mX6_init.2.1 = RX6 := rfl
theorem mX6_init_k : mX6_init.1.cells = 77 := rfl
theorem mX6_init_s : mX6_init.1.slots = 770 := rfl
theorem uX6_init (Γ : Cx) : TbOK Γ mX6_init (fT fX6, cT kX6, kT []) := tb_ok fX6_ok kX6_ok all_nil
theorem ni_X6_init_9 {Γ : Cx} {K : Option Value → Hp → Prop} {kn : Nat × Nat} {pc : Nat} {lv : Lv} {st : List Value} {σ : Hp} {b : Nat} (hd : decode mX6_init.2.2.1 pc = .ok (.invokespecial 9, 3)) (hcs : csum st ≤ 8) (k1 : kn.1 + 3 ≤ 77) (k2 : kn.2 + 29 ≤ 770) (h : sp_X0_init Γ [.ref b] σ (fun v σ' => v = none ∧ YN Γ mX6_init K (kn.1 + 3, kn.2 + 29) (pc + 3) lv st σ')) : YN Γ mX6_init K kn pc lv (.ref b :: st) σ := n_init (μ := mX6_init) (μ' := mX0_init) (oki_X0_init Γ) rfl bw_70 (Or.inr ⟨_, nw_68⟩) bw_69 bw_44 rfl no_X0_init ⟨by decide, by decide⟩ hd hcs k1 k2 h
theorem ni_X6_init_21 {Γ : Cx} {K : Option Value → Hp → Prop} {kn : Nat × Nat} {pc : Nat} {lv : Lv} {st : List Value} {σ : Hp} {b : Nat} (hd : decode mX6_init.2.2.1 pc = .ok (.invokespecial 21, 3)) (hcs : csum st ≤ 8) (k1 : kn.1 + 25 ≤ 77) (k2 : kn.2 + 240 ≤ 770) (h : sp_X2_init Γ [.ref b] σ (fun v σ' => v = none ∧ YN Γ mX6_init K (kn.1 + 25, kn.2 + 240) (pc + 3) lv st σ')) : YN Γ mX6_init K kn pc lv (.ref b :: st) σ := n_init (μ := mX6_init) (μ' := mX2_init) (oki_X2_init Γ) rfl bw_131 (Or.inl bw_129) bw_130 bw_45 rfl no_X2_init ⟨by decide, by decide⟩ hd hcs k1 k2 h
theorem ni_X6_init_38 {Γ : Cx} {K : Option Value → Hp → Prop} {kn : Nat × Nat} {pc : Nat} {lv : Lv} {st : List Value} {σ : Hp} {b : Nat} (hd : decode mX6_init.2.2.1 pc = .ok (.invokespecial 38, 3)) (hcs : csum st ≤ 8) (k1 : kn.1 + 1 ≤ 77) (k2 : kn.2 + 50 ≤ 770) (h : sp_X5_init Γ [.ref b] σ (fun v σ' => v = none ∧ YN Γ mX6_init K (kn.1 + 1, kn.2 + 50) (pc + 3) lv st σ')) : YN Γ mX6_init K kn pc lv (.ref b :: st) σ := n_init (μ := mX6_init) (μ' := mX5_init) (oki_X5_init Γ) rfl bw_155 (Or.inr ⟨_, nw_153⟩) bw_154 bw_46 rfl no_X5_init ⟨by decide, by decide⟩ hd hcs k1 k2 h
theorem ni_X6_init_45 {Γ : Cx} {K : Option Value → Hp → Prop} {kn : Nat × Nat} {pc : Nat} {lv : Lv} {st : List Value} {σ : Hp} {b : Nat} (hd : decode mX6_init.2.2.1 pc = .ok (.invokespecial 45, 3)) (hcs : csum st ≤ 8) (k1 : kn.1 + 1 ≤ 77) (k2 : kn.2 + 4 ≤ 770) (h : sp_X3_init Γ [.ref b] σ (fun v σ' => v = none ∧ YN Γ mX6_init K (kn.1 + 1, kn.2 + 4) (pc + 3) lv st σ')) : YN Γ mX6_init K kn pc lv (.ref b :: st) σ := n_init (μ := mX6_init) (μ' := mX3_init) (oki_X3_init Γ) rfl bw_172 (Or.inr ⟨_, nw_170⟩) bw_171 bw_47 rfl no_X3_init ⟨by decide, by decide⟩ hd hcs k1 k2 h
theorem ni_X6_init_52 {Γ : Cx} {K : Option Value → Hp → Prop} {kn : Nat × Nat} {pc : Nat} {lv : Lv} {st : List Value} {σ : Hp} {b : Nat} (hd : decode mX6_init.2.2.1 pc = .ok (.invokespecial 52, 3)) (hcs : csum st ≤ 8) (k1 : kn.1 + 1 ≤ 77) (k2 : kn.2 + 24 ≤ 770) (h : sp_X4_init Γ [.ref b] σ (fun v σ' => v = none ∧ YN Γ mX6_init K (kn.1 + 1, kn.2 + 24) (pc + 3) lv st σ')) : YN Γ mX6_init K kn pc lv (.ref b :: st) σ := n_init (μ := mX6_init) (μ' := mX4_init) (oki_X4_init Γ) rfl bw_192 (Or.inr ⟨_, nw_190⟩) bw_191 bw_48 rfl no_X4_init ⟨by decide, by decide⟩ hd hcs k1 k2 h
theorem mkCol {Γ : Cx} {K : Option Value → Hp → Prop} {kn : Nat × Nat} {pc : Nat} {lv : Lv} {st : List Value} {σ : Hp} {lab : Nat → Nat} (i : Nat) (d1 : decode mX6_init.2.2.1 pc = .ok (.new 7, 3)) (d2 : decode mX6_init.2.2.1 (pc + 3) = .ok (.dup, 1)) (d3 : decode mX6_init.2.2.1 (pc + 3 + 1) = .ok (.invokespecial 9, 3)) (hcs : csum st ≤ 7) (k1 : kn.1 + 4 ≤ 77) (k2 : kn.2 + 38 ≤ 770)
    (h : ∀ (σ' : Hp) (lab' : Nat → Nat) (A : CA) (f : Nat → Int32), ExtA lab lab' σ σ' → colL Γ A (c0S f) i lab' σ' → (∀ k, k < 4 → f k = -4) → YN Γ mX6_init K (kn.1 + 1 + 3, kn.2 + 9 + 29) (pc + 3 + 1 + 3) lv (.ref A.1 :: st) σ') : YN Γ mX6_init K kn pc lv st σ := by
  refine n_new nn_X6_init_7 d1 (by show kn.1 + 1 ≤ 77; omega) (by show kn.2 + 9 ≤ 770; omega) (fun o ho => ?_)
  have E2 : ExtA lab (labU lab o i) σ (hnew σ o (.inr (0, [.null, .null, .int 0, .int 0, .int 0, .null, .int 0, .int 0, .int 0]))) := ExtA.new ho
  have mo : o ∈ (hnew σ o (.inr (0, [.null, .null, .int 0, .int 0, .int 0, .null, .int 0, .int 0, .int 0]))).1 := hnew_q
  have eo : (hnew σ o (.inr (0, [.null, .null, .int 0, .int 0, .int 0, .null, .int 0, .int 0, .int 0]))).2 o = .inr (0, [.null, .null, .int 0, .int 0, .int 0, .null, .int 0, .int 0, .int 0]) := hnew_at
  generalize hnew σ o (.inr (0, [.null, .null, .int 0, .int 0, .int 0, .null, .int 0, .int 0, .int 0])) = σ2 at E2 mo eo ⊢
  refine nvc_ok (uX6_init Γ) (S := []) 1 _ _ _ _ ?_
  simp only [nvc_s, d2, sn_dup, sd1, isL_r, List.elem_nil, Bool.false_eq_true, reduceIte, true_and]
  refine ni_X6_init_9 d3 (by rw [csum_r]; omega) (by show kn.1 + 1 + 3 ≤ 77; omega) (by show kn.2 + 9 + 29 ≤ 770; omega) ⟨o, i, labU lab o i, rfl, mo, eo, labU_at, ?_⟩
  intro σ' lab' A f hA E hC hf hl
  have E' : ExtA lab lab' σ σ' := E2.sub E ho
  refine ⟨rfl, ?_⟩
  have := h σ' lab' A f E' ⟨hC, hl⟩ hf
  rw [hA] at this
  exact this
theorem mkPas {Γ : Cx} {K : Option Value → Hp → Prop} {kn : Nat × Nat} {pc : Nat} {lv : Lv} {st : List Value} {σ : Hp} {lab : Nat → Nat} (i : Nat) (d1 : decode mX6_init.2.2.1 pc = .ok (.new 19, 3)) (d2 : decode mX6_init.2.2.1 (pc + 3) = .ok (.dup, 1)) (d3 : decode mX6_init.2.2.1 (pc + 3 + 1) = .ok (.invokespecial 21, 3)) (hcs : csum st ≤ 7) (k1 : kn.1 + 26 ≤ 77) (k2 : kn.2 + 242 ≤ 770)
    (h : ∀ (σ' : Hp) (lab' : Nat → Nat) (o : Nat) (c : Nat → MC), ExtA lab lab' σ σ' → pasL Γ o c 0 i lab' σ' → YN Γ mX6_init K (kn.1 + 1 + 25, kn.2 + 2 + 240) (pc + 3 + 1 + 3) lv (.ref o :: st) σ') : YN Γ mX6_init K kn pc lv st σ := by
  refine n_new nn_X6_init_19 d1 (by show kn.1 + 1 ≤ 77; omega) (by show kn.2 + 2 ≤ 770; omega) (fun o ho => ?_)
  have E2 : ExtA lab (labU lab o i) σ (hnew σ o (.inr (2, [.null, .int 0]))) := ExtA.new ho
  have mo : o ∈ (hnew σ o (.inr (2, [.null, .int 0]))).1 := hnew_q
  have eo : (hnew σ o (.inr (2, [.null, .int 0]))).2 o = .inr (2, [.null, .int 0]) := hnew_at
  generalize hnew σ o (.inr (2, [.null, .int 0])) = σ2 at E2 mo eo ⊢
  refine nvc_ok (uX6_init Γ) (S := []) 1 _ _ _ _ ?_
  simp only [nvc_s, d2, sn_dup, sd1, isL_r, List.elem_nil, Bool.false_eq_true, reduceIte, true_and]
  refine ni_X6_init_21 d3 (by rw [csum_r]; omega) (by show kn.1 + 1 + 25 ≤ 77; omega) (by show kn.2 + 2 + 240 ≤ 770; omega) ⟨o, i, labU lab o i, rfl, mo, eo, labU_at, ?_⟩
  intro σ' lab' c E hC
  have E' : ExtA lab lab' σ σ' := E2.sub E ho
  refine ⟨rfl, ?_⟩
  exact h σ' lab' o c E' hC
theorem mkTap {Γ : Cx} {K : Option Value → Hp → Prop} {kn : Nat × Nat} {pc : Nat} {lv : Lv} {st : List Value} {σ : Hp} {lab : Nat → Nat} (i : Nat) (d1 : decode mX6_init.2.2.1 pc = .ok (.new 36, 3)) (d2 : decode mX6_init.2.2.1 (pc + 3) = .ok (.dup, 1)) (d3 : decode mX6_init.2.2.1 (pc + 3 + 1) = .ok (.invokespecial 38, 3)) (hcs : csum st ≤ 7) (k1 : kn.1 + 2 ≤ 77) (k2 : kn.2 + 53 ≤ 770)
    (h : ∀ (σ' : Hp) (lab' : Nat → Nat) (o w : Nat), ExtA lab lab' σ σ' → tapL Γ (o, w) (fun _ => 0) 0 0 i lab' σ' → YN Γ mX6_init K (kn.1 + 1 + 1, kn.2 + 3 + 50) (pc + 3 + 1 + 3) lv (.ref o :: st) σ') : YN Γ mX6_init K kn pc lv st σ := by
  refine n_new nn_X6_init_36 d1 (by show kn.1 + 1 ≤ 77; omega) (by show kn.2 + 3 ≤ 770; omega) (fun o ho => ?_)
  have E2 : ExtA lab (labU lab o i) σ (hnew σ o (.inr (5, [.null, .int 0, .int 0]))) := ExtA.new ho
  have mo : o ∈ (hnew σ o (.inr (5, [.null, .int 0, .int 0]))).1 := hnew_q
  have eo : (hnew σ o (.inr (5, [.null, .int 0, .int 0]))).2 o = .inr (5, [.null, .int 0, .int 0]) := hnew_at
  generalize hnew σ o (.inr (5, [.null, .int 0, .int 0])) = σ2 at E2 mo eo ⊢
  refine nvc_ok (uX6_init Γ) (S := []) 1 _ _ _ _ ?_
  simp only [nvc_s, d2, sn_dup, sd1, isL_r, List.elem_nil, Bool.false_eq_true, reduceIte, true_and]
  refine ni_X6_init_38 d3 (by rw [csum_r]; omega) (by show kn.1 + 1 + 1 ≤ 77; omega) (by show kn.2 + 3 + 50 ≤ 770; omega) ⟨o, i, labU lab o i, rfl, mo, eo, labU_at, ?_⟩
  intro σ' lab' w E hC hl
  have E' : ExtA lab lab' σ σ' := E2.sub E ho
  refine ⟨rfl, ?_⟩
  exact h σ' lab' o w E' ⟨hC, hl⟩
theorem mkPla {Γ : Cx} {K : Option Value → Hp → Prop} {kn : Nat × Nat} {pc : Nat} {lv : Lv} {st : List Value} {σ : Hp} {lab : Nat → Nat} (i : Nat) (d1 : decode mX6_init.2.2.1 pc = .ok (.new 43, 3)) (d2 : decode mX6_init.2.2.1 (pc + 3) = .ok (.dup, 1)) (d3 : decode mX6_init.2.2.1 (pc + 3 + 1) = .ok (.invokespecial 45, 3)) (hcs : csum st ≤ 7) (k1 : kn.1 + 2 ≤ 77) (k2 : kn.2 + 7 ≤ 770)
    (h : ∀ (σ' : Hp) (lab' : Nat → Nat) (o w : Nat), ExtA lab lab' σ σ' → plaL Γ (o, w) (fun _ => 0, 0, 0) i lab' σ' → YN Γ mX6_init K (kn.1 + 1 + 1, kn.2 + 3 + 4) (pc + 3 + 1 + 3) lv (.ref o :: st) σ') : YN Γ mX6_init K kn pc lv st σ := by
  refine n_new nn_X6_init_43 d1 (by show kn.1 + 1 ≤ 77; omega) (by show kn.2 + 3 ≤ 770; omega) (fun o ho => ?_)
  have E2 : ExtA lab (labU lab o i) σ (hnew σ o (.inr (3, [.null, .int 0, .int 0]))) := ExtA.new ho
  have mo : o ∈ (hnew σ o (.inr (3, [.null, .int 0, .int 0]))).1 := hnew_q
  have eo : (hnew σ o (.inr (3, [.null, .int 0, .int 0]))).2 o = .inr (3, [.null, .int 0, .int 0]) := hnew_at
  generalize hnew σ o (.inr (3, [.null, .int 0, .int 0])) = σ2 at E2 mo eo ⊢
  refine nvc_ok (uX6_init Γ) (S := []) 1 _ _ _ _ ?_
  simp only [nvc_s, d2, sn_dup, sd1, isL_r, List.elem_nil, Bool.false_eq_true, reduceIte, true_and]
  refine ni_X6_init_45 d3 (by rw [csum_r]; omega) (by show kn.1 + 1 + 1 ≤ 77; omega) (by show kn.2 + 3 + 4 ≤ 770; omega) ⟨o, i, labU lab o i, rfl, mo, eo, labU_at, ?_⟩
  intro σ' lab' w E hC hl
  have E' : ExtA lab lab' σ σ' := E2.sub E ho
  refine ⟨rfl, ?_⟩
  exact h σ' lab' o w E' ⟨hC, hl⟩
theorem mkShe {Γ : Cx} {K : Option Value → Hp → Prop} {kn : Nat × Nat} {pc : Nat} {lv : Lv} {st : List Value} {σ : Hp} {lab : Nat → Nat} (i : Nat) (d1 : decode mX6_init.2.2.1 pc = .ok (.new 50, 3)) (d2 : decode mX6_init.2.2.1 (pc + 3) = .ok (.dup, 1)) (d3 : decode mX6_init.2.2.1 (pc + 3 + 1) = .ok (.invokespecial 52, 3)) (hcs : csum st ≤ 7) (k1 : kn.1 + 2 ≤ 77) (k2 : kn.2 + 27 ≤ 770)
    (h : ∀ (σ' : Hp) (lab' : Nat → Nat) (o w : Nat), ExtA lab lab' σ σ' → sheL Γ (o, w) (fun _ => 0, 0, -1) i lab' σ' → YN Γ mX6_init K (kn.1 + 1 + 1, kn.2 + 3 + 24) (pc + 3 + 1 + 3) lv (.ref o :: st) σ') : YN Γ mX6_init K kn pc lv st σ := by
  refine n_new nn_X6_init_50 d1 (by show kn.1 + 1 ≤ 77; omega) (by show kn.2 + 3 ≤ 770; omega) (fun o ho => ?_)
  have E2 : ExtA lab (labU lab o i) σ (hnew σ o (.inr (4, [.null, .int 0, .int 0]))) := ExtA.new ho
  have mo : o ∈ (hnew σ o (.inr (4, [.null, .int 0, .int 0]))).1 := hnew_q
  have eo : (hnew σ o (.inr (4, [.null, .int 0, .int 0]))).2 o = .inr (4, [.null, .int 0, .int 0]) := hnew_at
  generalize hnew σ o (.inr (4, [.null, .int 0, .int 0])) = σ2 at E2 mo eo ⊢
  refine nvc_ok (uX6_init Γ) (S := []) 1 _ _ _ _ ?_
  simp only [nvc_s, d2, sn_dup, sd1, isL_r, List.elem_nil, Bool.false_eq_true, reduceIte, true_and]
  refine ni_X6_init_52 d3 (by rw [csum_r]; omega) (by show kn.1 + 1 + 1 ≤ 77; omega) (by show kn.2 + 3 + 24 ≤ 770; omega) ⟨o, i, labU lab o i, rfl, mo, eo, labU_at, ?_⟩
  intro σ' lab' w E hC hw hl
  have E' : ExtA lab lab' σ σ' := E2.sub E ho
  refine ⟨rfl, ?_⟩
  exact h σ' lab' o w E' ⟨hC, hl⟩
def sp_X6_init (Γ : Cx) : YSp := fun av σ K => ∃ (b : Nat) (lab : Nat → Nat), av = [.ref b] ∧ b ∈ σ.1 ∧ σ.2 b = .inr (6, [.null, .null, .null, .null, .null, .int 0, .null, .null, .null]) ∧ lab b = 0 ∧ ∀ (σ' : Hp) (lab' : Nat → Nat) (X : XA) (f g : Nat → Int32) (c d : Nat → MC), X.1 = b → Ext lab lab' b σ σ' → XW Γ lab' X (c0S f, c0S g, (c, 0), (d, 0), false, (fun _ => 0, 0), fun _ => (fun _ => 0, 0, -1)) σ' → (∀ k, k < 4 → f k = -4) → K none σ'
set_option maxRecDepth 20000 in
theorem oki_X6_init (Γ : Cx) : OkI Γ yX6_init mX6_init (sp_X6_init Γ) := by
  refine oki_intro (by decide +kernel) rfl rfl ?_
  intro av σ K h
  obtain ⟨b, lab, rfl, m0, e0, l0, h⟩ := h
  refine ⟨Nat.le_of_ble_eq_true rfl, nvc_ok (uX6_init Γ) (S := [1]) 4 _ _ _ _ ?_⟩
  simp only [lv_args, Value.category, nvc_s, s1i, s2i, s1l, s2l, sil, s1r, sir, siir, slir, srir, svr, sd1, sd2, lg, lput, ldel, isL_i, isL_r, isL_l, jmp, obj, obj1, fI, fR, arI, arL, arR, hput, f4_0, f4_1, f4_2, f4_3, lc_0, lc_1, rok_i, rok_b, rok_y, strF, fput_1, fput_2, csum_nil, csum_i, csum_l, csum_r, va_up_self, bx_uu, Int.reduceAdd, List.elem_nil, List.elem_cons, List.take_succ_cons, List.take_zero, List.drop_succ_cons, List.drop_zero, List.take_nil, List.drop_nil, List.reverse_cons, List.reverse_nil, List.nil_append, List.cons_append, List.append_nil, Option.toList_some, Option.toList_none, List.getElem?_cons_zero, List.getElem?_cons_succ, List.set_cons_zero, List.set_cons_succ, List.length_cons, List.length_nil, reduceIte, reduceCtorEq, and_true, true_and, and_self, or_true, true_or, false_and, and_false, not_true_eq_false, not_false_eq_true, true_implies, false_implies, implies_true, Nat.reduceAdd, Nat.reduceLT, Nat.reduceEqDiff, Nat.reduceLeDiff, Nat.reduceBEq, Nat.zero_add, Nat.lt_add_one, Bool.false_eq_true, Bool.or_false, Bool.or_true, Bool.or_self, Nat.zero_ne_one, Nat.one_ne_zero, ite_true, ite_false, ne_eq, Nat.reduceSub, Nat.succ_eq_add_one, Nat.zero_lt_succ, Nat.add_one_ne_zero, false_or, or_false, or_self, mX6_init_c, mX6_init_n, mX6_init_r, mX6_init_l, mX6_init_o, mX6_init_k, mX6_init_s, dX6_init_0, dX6_init_1, dX6_init_4, dX6_init_5, dX6_init_8, dX6_init_9, dX6_init_12, fl_6_10_6, dX6_init_15, dX6_init_16, dX6_init_19, dX6_init_20, dX6_init_23, fl_6_16_6, dX6_init_26, dX6_init_27, dX6_init_30, dX6_init_31, dX6_init_34, fl_6_22_6, dX6_init_37, dX6_init_38, dX6_init_41, dX6_init_42, dX6_init_45, fl_6_26_6, dX6_init_48, dX6_init_49, dX6_init_52, dX6_init_53, dX6_init_56, fl_6_29_6, dX6_init_59, dX6_init_60, ic_0, dX6_init_61, fl_6_32_6, dX6_init_64, dX6_init_65, dX6_init_68, dX6_init_69, dX6_init_72, fl_6_39_6, dX6_init_75, dX6_init_76, dX6_init_79, dX6_init_80, dX6_init_83, fl_6_46_6, dX6_init_86, dX6_init_87, ic_4, dX6_init_88, dX6_init_91, dX6_init_92, dX6_init_93, dX6_init_96, dX6_init_97, dX6_init_100, dX6_init_101, dX6_init_102, ic_1, dX6_init_103, dX6_init_106, dX6_init_107, dX6_init_110, dX6_init_111, dX6_init_112, ic_2, dX6_init_113, dX6_init_116, dX6_init_117, dX6_init_120, dX6_init_121, dX6_init_122, ic_3, dX6_init_123, dX6_init_126, dX6_init_127, dX6_init_130, dX6_init_131, fl_6_53_6, dX6_init_134, fin_6_6_0, fin_6_6_1, fin_6_6_2, fin_6_6_3, fin_6_6_4, fin_6_6_6, fin_6_6_7, fin_6_6_8, sn_aastore, sn_aload_n, sn_dup, sn_iconst, sn_putfield, sn_return]
  refine n_obj ol_X6_init dX6_init_1 (by decide) (by decide) (by decide) ?_
  have E0 : Ext lab lab b σ σ := Ext.rf
  have hfresh : ∀ q, q ∉ σ.1 → b ≠ q := fun q hq => ne_fresh hq m0
  refine nvc_ok (uX6_init Γ) (S := [5]) 4 _ _ _ _ ?_
  simp only [nvc_s, s1i, s2i, s1l, s2l, sil, s1r, sir, siir, slir, srir, svr, sd1, sd2, lg, lput, ldel, isL_i, isL_r, isL_l, jmp, obj, obj1, fI, fR, arI, arL, arR, hput, f4_0, f4_1, f4_2, f4_3, lc_0, lc_1, rok_i, rok_b, rok_y, strF, fput_1, fput_2, csum_nil, csum_i, csum_l, csum_r, va_up_self, bx_uu, Int.reduceAdd, List.elem_nil, List.elem_cons, List.take_succ_cons, List.take_zero, List.drop_succ_cons, List.drop_zero, List.take_nil, List.drop_nil, List.reverse_cons, List.reverse_nil, List.nil_append, List.cons_append, List.append_nil, Option.toList_some, Option.toList_none, List.getElem?_cons_zero, List.getElem?_cons_succ, List.set_cons_zero, List.set_cons_succ, List.length_cons, List.length_nil, reduceIte, reduceCtorEq, and_true, true_and, and_self, or_true, true_or, false_and, and_false, not_true_eq_false, not_false_eq_true, true_implies, false_implies, implies_true, Nat.reduceAdd, Nat.reduceLT, Nat.reduceEqDiff, Nat.reduceLeDiff, Nat.reduceBEq, Nat.zero_add, Nat.lt_add_one, Bool.false_eq_true, Bool.or_false, Bool.or_true, Bool.or_self, Nat.zero_ne_one, Nat.one_ne_zero, ite_true, ite_false, ne_eq, Nat.reduceSub, Nat.succ_eq_add_one, Nat.zero_lt_succ, Nat.add_one_ne_zero, false_or, or_false, or_self, mX6_init_c, mX6_init_n, mX6_init_r, mX6_init_l, mX6_init_o, mX6_init_k, mX6_init_s, dX6_init_0, dX6_init_1, dX6_init_4, dX6_init_5, dX6_init_8, dX6_init_9, dX6_init_12, fl_6_10_6, dX6_init_15, dX6_init_16, dX6_init_19, dX6_init_20, dX6_init_23, fl_6_16_6, dX6_init_26, dX6_init_27, dX6_init_30, dX6_init_31, dX6_init_34, fl_6_22_6, dX6_init_37, dX6_init_38, dX6_init_41, dX6_init_42, dX6_init_45, fl_6_26_6, dX6_init_48, dX6_init_49, dX6_init_52, dX6_init_53, dX6_init_56, fl_6_29_6, dX6_init_59, dX6_init_60, ic_0, dX6_init_61, fl_6_32_6, dX6_init_64, dX6_init_65, dX6_init_68, dX6_init_69, dX6_init_72, fl_6_39_6, dX6_init_75, dX6_init_76, dX6_init_79, dX6_init_80, dX6_init_83, fl_6_46_6, dX6_init_86, dX6_init_87, ic_4, dX6_init_88, dX6_init_91, dX6_init_92, dX6_init_93, dX6_init_96, dX6_init_97, dX6_init_100, dX6_init_101, dX6_init_102, ic_1, dX6_init_103, dX6_init_106, dX6_init_107, dX6_init_110, dX6_init_111, dX6_init_112, ic_2, dX6_init_113, dX6_init_116, dX6_init_117, dX6_init_120, dX6_init_121, dX6_init_122, ic_3, dX6_init_123, dX6_init_126, dX6_init_127, dX6_init_130, dX6_init_131, fl_6_53_6, dX6_init_134, fin_6_6_0, fin_6_6_1, fin_6_6_2, fin_6_6_3, fin_6_6_4, fin_6_6_6, fin_6_6_7, fin_6_6_8, sn_aastore, sn_aload_n, sn_dup, sn_iconst, sn_putfield, sn_return]
  refine mkCol (lab := lab) 1 dX6_init_5 dX6_init_8 dX6_init_9 (Nat.le_of_ble_eq_true rfl) (by decide) (by decide) ?_
  intro σa laba A1 f1 Ea P1 hf1
  have E0 := E0.tr Ea.ext
  have e0 := (Ea b m0).2.2.trans e0
  have l0 := (Ea b m0).2.1.trans l0
  have m0 := (Ea b m0).1
  obtain ⟨σn, hσn⟩ : ∃ x, x = hput σa b (.inr (6, [.ref A1.1, .null, .null, .null, .null, .int 0, .null, .null, .null])) := ⟨_, rfl⟩
  have E1 : Ext laba laba b σa σn := by rw [hσn]; exact Ext.put
  have m1 : b ∈ σn.1 := by rw [hσn]; exact m0
  have e1 : σn.2 b = .inr (6, [.ref A1.1, .null, .null, .null, .null, .int 0, .null, .null, .null]) := by rw [hσn]; exact va_up_self _ _ _
  have P1 := E1.loc loc_col (by rw [l0]; decide) P1
  refine nvc_ok (uX6_init Γ) (S := [16]) 4 _ _ _ _ ?_
  simp only [m0, e0, nvc_s, s1i, s2i, s1l, s2l, sil, s1r, sir, siir, slir, srir, svr, sd1, sd2, lg, lput, ldel, isL_i, isL_r, isL_l, jmp, obj, obj1, fI, fR, arI, arL, arR, hput, f4_0, f4_1, f4_2, f4_3, lc_0, lc_1, rok_i, rok_b, rok_y, strF, fput_1, fput_2, csum_nil, csum_i, csum_l, csum_r, va_up_self, bx_uu, Int.reduceAdd, List.elem_nil, List.elem_cons, List.take_succ_cons, List.take_zero, List.drop_succ_cons, List.drop_zero, List.take_nil, List.drop_nil, List.reverse_cons, List.reverse_nil, List.nil_append, List.cons_append, List.append_nil, Option.toList_some, Option.toList_none, List.getElem?_cons_zero, List.getElem?_cons_succ, List.set_cons_zero, List.set_cons_succ, List.length_cons, List.length_nil, reduceIte, reduceCtorEq, and_true, true_and, and_self, or_true, true_or, false_and, and_false, not_true_eq_false, not_false_eq_true, true_implies, false_implies, implies_true, Nat.reduceAdd, Nat.reduceLT, Nat.reduceEqDiff, Nat.reduceLeDiff, Nat.reduceBEq, Nat.zero_add, Nat.lt_add_one, Bool.false_eq_true, Bool.or_false, Bool.or_true, Bool.or_self, Nat.zero_ne_one, Nat.one_ne_zero, ite_true, ite_false, ne_eq, Nat.reduceSub, Nat.succ_eq_add_one, Nat.zero_lt_succ, Nat.add_one_ne_zero, false_or, or_false, or_self, mX6_init_c, mX6_init_n, mX6_init_r, mX6_init_l, mX6_init_o, mX6_init_k, mX6_init_s, dX6_init_0, dX6_init_1, dX6_init_4, dX6_init_5, dX6_init_8, dX6_init_9, dX6_init_12, fl_6_10_6, dX6_init_15, dX6_init_16, dX6_init_19, dX6_init_20, dX6_init_23, fl_6_16_6, dX6_init_26, dX6_init_27, dX6_init_30, dX6_init_31, dX6_init_34, fl_6_22_6, dX6_init_37, dX6_init_38, dX6_init_41, dX6_init_42, dX6_init_45, fl_6_26_6, dX6_init_48, dX6_init_49, dX6_init_52, dX6_init_53, dX6_init_56, fl_6_29_6, dX6_init_59, dX6_init_60, ic_0, dX6_init_61, fl_6_32_6, dX6_init_64, dX6_init_65, dX6_init_68, dX6_init_69, dX6_init_72, fl_6_39_6, dX6_init_75, dX6_init_76, dX6_init_79, dX6_init_80, dX6_init_83, fl_6_46_6, dX6_init_86, dX6_init_87, ic_4, dX6_init_88, dX6_init_91, dX6_init_92, dX6_init_93, dX6_init_96, dX6_init_97, dX6_init_100, dX6_init_101, dX6_init_102, ic_1, dX6_init_103, dX6_init_106, dX6_init_107, dX6_init_110, dX6_init_111, dX6_init_112, ic_2, dX6_init_113, dX6_init_116, dX6_init_117, dX6_init_120, dX6_init_121, dX6_init_122, ic_3, dX6_init_123, dX6_init_126, dX6_init_127, dX6_init_130, dX6_init_131, fl_6_53_6, dX6_init_134, fin_6_6_0, fin_6_6_1, fin_6_6_2, fin_6_6_3, fin_6_6_4, fin_6_6_6, fin_6_6_7, fin_6_6_8, sn_aastore, sn_aload_n, sn_dup, sn_iconst, sn_putfield, sn_return]
  simp only [hput] at hσn
  rw [← hσn]
  clear hσn
  have E0 := E0.tr E1
  have m0 := m1
  have e0 := e1
  clear E1 m1 e1
  refine mkCol (lab := laba) 2 dX6_init_16 dX6_init_19 dX6_init_20 (Nat.le_of_ble_eq_true rfl) (by decide) (by decide) ?_
  intro σa laba A2 f2 Ea P2 hf2
  have E0 := E0.tr Ea.ext
  have e0 := (Ea b m0).2.2.trans e0
  have l0 := (Ea b m0).2.1.trans l0
  have m0 := (Ea b m0).1
  have P1 := Ea.loc loc_col P1
  obtain ⟨σn, hσn⟩ : ∃ x, x = hput σa b (.inr (6, [.ref A1.1, .ref A2.1, .null, .null, .null, .int 0, .null, .null, .null])) := ⟨_, rfl⟩
  have E1 : Ext laba laba b σa σn := by rw [hσn]; exact Ext.put
  have m1 : b ∈ σn.1 := by rw [hσn]; exact m0
  have e1 : σn.2 b = .inr (6, [.ref A1.1, .ref A2.1, .null, .null, .null, .int 0, .null, .null, .null]) := by rw [hσn]; exact va_up_self _ _ _
  have P1 := E1.loc loc_col (by rw [l0]; decide) P1
  have P2 := E1.loc loc_col (by rw [l0]; decide) P2
  refine nvc_ok (uX6_init Γ) (S := [27]) 4 _ _ _ _ ?_
  simp only [m0, e0, nvc_s, s1i, s2i, s1l, s2l, sil, s1r, sir, siir, slir, srir, svr, sd1, sd2, lg, lput, ldel, isL_i, isL_r, isL_l, jmp, obj, obj1, fI, fR, arI, arL, arR, hput, f4_0, f4_1, f4_2, f4_3, lc_0, lc_1, rok_i, rok_b, rok_y, strF, fput_1, fput_2, csum_nil, csum_i, csum_l, csum_r, va_up_self, bx_uu, Int.reduceAdd, List.elem_nil, List.elem_cons, List.take_succ_cons, List.take_zero, List.drop_succ_cons, List.drop_zero, List.take_nil, List.drop_nil, List.reverse_cons, List.reverse_nil, List.nil_append, List.cons_append, List.append_nil, Option.toList_some, Option.toList_none, List.getElem?_cons_zero, List.getElem?_cons_succ, List.set_cons_zero, List.set_cons_succ, List.length_cons, List.length_nil, reduceIte, reduceCtorEq, and_true, true_and, and_self, or_true, true_or, false_and, and_false, not_true_eq_false, not_false_eq_true, true_implies, false_implies, implies_true, Nat.reduceAdd, Nat.reduceLT, Nat.reduceEqDiff, Nat.reduceLeDiff, Nat.reduceBEq, Nat.zero_add, Nat.lt_add_one, Bool.false_eq_true, Bool.or_false, Bool.or_true, Bool.or_self, Nat.zero_ne_one, Nat.one_ne_zero, ite_true, ite_false, ne_eq, Nat.reduceSub, Nat.succ_eq_add_one, Nat.zero_lt_succ, Nat.add_one_ne_zero, false_or, or_false, or_self, mX6_init_c, mX6_init_n, mX6_init_r, mX6_init_l, mX6_init_o, mX6_init_k, mX6_init_s, dX6_init_0, dX6_init_1, dX6_init_4, dX6_init_5, dX6_init_8, dX6_init_9, dX6_init_12, fl_6_10_6, dX6_init_15, dX6_init_16, dX6_init_19, dX6_init_20, dX6_init_23, fl_6_16_6, dX6_init_26, dX6_init_27, dX6_init_30, dX6_init_31, dX6_init_34, fl_6_22_6, dX6_init_37, dX6_init_38, dX6_init_41, dX6_init_42, dX6_init_45, fl_6_26_6, dX6_init_48, dX6_init_49, dX6_init_52, dX6_init_53, dX6_init_56, fl_6_29_6, dX6_init_59, dX6_init_60, ic_0, dX6_init_61, fl_6_32_6, dX6_init_64, dX6_init_65, dX6_init_68, dX6_init_69, dX6_init_72, fl_6_39_6, dX6_init_75, dX6_init_76, dX6_init_79, dX6_init_80, dX6_init_83, fl_6_46_6, dX6_init_86, dX6_init_87, ic_4, dX6_init_88, dX6_init_91, dX6_init_92, dX6_init_93, dX6_init_96, dX6_init_97, dX6_init_100, dX6_init_101, dX6_init_102, ic_1, dX6_init_103, dX6_init_106, dX6_init_107, dX6_init_110, dX6_init_111, dX6_init_112, ic_2, dX6_init_113, dX6_init_116, dX6_init_117, dX6_init_120, dX6_init_121, dX6_init_122, ic_3, dX6_init_123, dX6_init_126, dX6_init_127, dX6_init_130, dX6_init_131, fl_6_53_6, dX6_init_134, fin_6_6_0, fin_6_6_1, fin_6_6_2, fin_6_6_3, fin_6_6_4, fin_6_6_6, fin_6_6_7, fin_6_6_8, sn_aastore, sn_aload_n, sn_dup, sn_iconst, sn_putfield, sn_return]
  simp only [hput] at hσn
  rw [← hσn]
  clear hσn
  have E0 := E0.tr E1
  have m0 := m1
  have e0 := e1
  clear E1 m1 e1
  refine mkPas (lab := laba) 3 dX6_init_27 dX6_init_30 dX6_init_31 (Nat.le_of_ble_eq_true rfl) (by decide) (by decide) ?_
  intro σa laba o3 c3 Ea P3
  have E0 := E0.tr Ea.ext
  have e0 := (Ea b m0).2.2.trans e0
  have l0 := (Ea b m0).2.1.trans l0
  have m0 := (Ea b m0).1
  have P1 := Ea.loc loc_col P1
  have P2 := Ea.loc loc_col P2
  obtain ⟨σn, hσn⟩ : ∃ x, x = hput σa b (.inr (6, [.ref A1.1, .ref A2.1, .ref o3, .null, .null, .int 0, .null, .null, .null])) := ⟨_, rfl⟩
  have E1 : Ext laba laba b σa σn := by rw [hσn]; exact Ext.put
  have m1 : b ∈ σn.1 := by rw [hσn]; exact m0
  have e1 : σn.2 b = .inr (6, [.ref A1.1, .ref A2.1, .ref o3, .null, .null, .int 0, .null, .null, .null]) := by rw [hσn]; exact va_up_self _ _ _
  have P1 := E1.loc loc_col (by rw [l0]; decide) P1
  have P2 := E1.loc loc_col (by rw [l0]; decide) P2
  have P3 := E1.loc loc_pas (by rw [l0]; decide) P3
  refine nvc_ok (uX6_init Γ) (S := [38]) 4 _ _ _ _ ?_
  simp only [m0, e0, nvc_s, s1i, s2i, s1l, s2l, sil, s1r, sir, siir, slir, srir, svr, sd1, sd2, lg, lput, ldel, isL_i, isL_r, isL_l, jmp, obj, obj1, fI, fR, arI, arL, arR, hput, f4_0, f4_1, f4_2, f4_3, lc_0, lc_1, rok_i, rok_b, rok_y, strF, fput_1, fput_2, csum_nil, csum_i, csum_l, csum_r, va_up_self, bx_uu, Int.reduceAdd, List.elem_nil, List.elem_cons, List.take_succ_cons, List.take_zero, List.drop_succ_cons, List.drop_zero, List.take_nil, List.drop_nil, List.reverse_cons, List.reverse_nil, List.nil_append, List.cons_append, List.append_nil, Option.toList_some, Option.toList_none, List.getElem?_cons_zero, List.getElem?_cons_succ, List.set_cons_zero, List.set_cons_succ, List.length_cons, List.length_nil, reduceIte, reduceCtorEq, and_true, true_and, and_self, or_true, true_or, false_and, and_false, not_true_eq_false, not_false_eq_true, true_implies, false_implies, implies_true, Nat.reduceAdd, Nat.reduceLT, Nat.reduceEqDiff, Nat.reduceLeDiff, Nat.reduceBEq, Nat.zero_add, Nat.lt_add_one, Bool.false_eq_true, Bool.or_false, Bool.or_true, Bool.or_self, Nat.zero_ne_one, Nat.one_ne_zero, ite_true, ite_false, ne_eq, Nat.reduceSub, Nat.succ_eq_add_one, Nat.zero_lt_succ, Nat.add_one_ne_zero, false_or, or_false, or_self, mX6_init_c, mX6_init_n, mX6_init_r, mX6_init_l, mX6_init_o, mX6_init_k, mX6_init_s, dX6_init_0, dX6_init_1, dX6_init_4, dX6_init_5, dX6_init_8, dX6_init_9, dX6_init_12, fl_6_10_6, dX6_init_15, dX6_init_16, dX6_init_19, dX6_init_20, dX6_init_23, fl_6_16_6, dX6_init_26, dX6_init_27, dX6_init_30, dX6_init_31, dX6_init_34, fl_6_22_6, dX6_init_37, dX6_init_38, dX6_init_41, dX6_init_42, dX6_init_45, fl_6_26_6, dX6_init_48, dX6_init_49, dX6_init_52, dX6_init_53, dX6_init_56, fl_6_29_6, dX6_init_59, dX6_init_60, ic_0, dX6_init_61, fl_6_32_6, dX6_init_64, dX6_init_65, dX6_init_68, dX6_init_69, dX6_init_72, fl_6_39_6, dX6_init_75, dX6_init_76, dX6_init_79, dX6_init_80, dX6_init_83, fl_6_46_6, dX6_init_86, dX6_init_87, ic_4, dX6_init_88, dX6_init_91, dX6_init_92, dX6_init_93, dX6_init_96, dX6_init_97, dX6_init_100, dX6_init_101, dX6_init_102, ic_1, dX6_init_103, dX6_init_106, dX6_init_107, dX6_init_110, dX6_init_111, dX6_init_112, ic_2, dX6_init_113, dX6_init_116, dX6_init_117, dX6_init_120, dX6_init_121, dX6_init_122, ic_3, dX6_init_123, dX6_init_126, dX6_init_127, dX6_init_130, dX6_init_131, fl_6_53_6, dX6_init_134, fin_6_6_0, fin_6_6_1, fin_6_6_2, fin_6_6_3, fin_6_6_4, fin_6_6_6, fin_6_6_7, fin_6_6_8, sn_aastore, sn_aload_n, sn_dup, sn_iconst, sn_putfield, sn_return]
  simp only [hput] at hσn
  rw [← hσn]
  clear hσn
  have E0 := E0.tr E1
  have m0 := m1
  have e0 := e1
  clear E1 m1 e1
  refine mkCol (lab := laba) 4 dX6_init_38 dX6_init_41 dX6_init_42 (Nat.le_of_ble_eq_true rfl) (by decide) (by decide) ?_
  intro σa laba A4 f4 Ea P4 hf4
  have E0 := E0.tr Ea.ext
  have e0 := (Ea b m0).2.2.trans e0
  have l0 := (Ea b m0).2.1.trans l0
  have m0 := (Ea b m0).1
  have P1 := Ea.loc loc_col P1
  have P2 := Ea.loc loc_col P2
  have P3 := Ea.loc loc_pas P3
  obtain ⟨σn, hσn⟩ : ∃ x, x = hput σa b (.inr (6, [.ref A1.1, .ref A2.1, .ref o3, .ref A4.1, .null, .int 0, .null, .null, .null])) := ⟨_, rfl⟩
  have E1 : Ext laba laba b σa σn := by rw [hσn]; exact Ext.put
  have m1 : b ∈ σn.1 := by rw [hσn]; exact m0
  have e1 : σn.2 b = .inr (6, [.ref A1.1, .ref A2.1, .ref o3, .ref A4.1, .null, .int 0, .null, .null, .null]) := by rw [hσn]; exact va_up_self _ _ _
  have P1 := E1.loc loc_col (by rw [l0]; decide) P1
  have P2 := E1.loc loc_col (by rw [l0]; decide) P2
  have P3 := E1.loc loc_pas (by rw [l0]; decide) P3
  have P4 := E1.loc loc_col (by rw [l0]; decide) P4
  refine nvc_ok (uX6_init Γ) (S := [49]) 4 _ _ _ _ ?_
  simp only [m0, e0, nvc_s, s1i, s2i, s1l, s2l, sil, s1r, sir, siir, slir, srir, svr, sd1, sd2, lg, lput, ldel, isL_i, isL_r, isL_l, jmp, obj, obj1, fI, fR, arI, arL, arR, hput, f4_0, f4_1, f4_2, f4_3, lc_0, lc_1, rok_i, rok_b, rok_y, strF, fput_1, fput_2, csum_nil, csum_i, csum_l, csum_r, va_up_self, bx_uu, Int.reduceAdd, List.elem_nil, List.elem_cons, List.take_succ_cons, List.take_zero, List.drop_succ_cons, List.drop_zero, List.take_nil, List.drop_nil, List.reverse_cons, List.reverse_nil, List.nil_append, List.cons_append, List.append_nil, Option.toList_some, Option.toList_none, List.getElem?_cons_zero, List.getElem?_cons_succ, List.set_cons_zero, List.set_cons_succ, List.length_cons, List.length_nil, reduceIte, reduceCtorEq, and_true, true_and, and_self, or_true, true_or, false_and, and_false, not_true_eq_false, not_false_eq_true, true_implies, false_implies, implies_true, Nat.reduceAdd, Nat.reduceLT, Nat.reduceEqDiff, Nat.reduceLeDiff, Nat.reduceBEq, Nat.zero_add, Nat.lt_add_one, Bool.false_eq_true, Bool.or_false, Bool.or_true, Bool.or_self, Nat.zero_ne_one, Nat.one_ne_zero, ite_true, ite_false, ne_eq, Nat.reduceSub, Nat.succ_eq_add_one, Nat.zero_lt_succ, Nat.add_one_ne_zero, false_or, or_false, or_self, mX6_init_c, mX6_init_n, mX6_init_r, mX6_init_l, mX6_init_o, mX6_init_k, mX6_init_s, dX6_init_0, dX6_init_1, dX6_init_4, dX6_init_5, dX6_init_8, dX6_init_9, dX6_init_12, fl_6_10_6, dX6_init_15, dX6_init_16, dX6_init_19, dX6_init_20, dX6_init_23, fl_6_16_6, dX6_init_26, dX6_init_27, dX6_init_30, dX6_init_31, dX6_init_34, fl_6_22_6, dX6_init_37, dX6_init_38, dX6_init_41, dX6_init_42, dX6_init_45, fl_6_26_6, dX6_init_48, dX6_init_49, dX6_init_52, dX6_init_53, dX6_init_56, fl_6_29_6, dX6_init_59, dX6_init_60, ic_0, dX6_init_61, fl_6_32_6, dX6_init_64, dX6_init_65, dX6_init_68, dX6_init_69, dX6_init_72, fl_6_39_6, dX6_init_75, dX6_init_76, dX6_init_79, dX6_init_80, dX6_init_83, fl_6_46_6, dX6_init_86, dX6_init_87, ic_4, dX6_init_88, dX6_init_91, dX6_init_92, dX6_init_93, dX6_init_96, dX6_init_97, dX6_init_100, dX6_init_101, dX6_init_102, ic_1, dX6_init_103, dX6_init_106, dX6_init_107, dX6_init_110, dX6_init_111, dX6_init_112, ic_2, dX6_init_113, dX6_init_116, dX6_init_117, dX6_init_120, dX6_init_121, dX6_init_122, ic_3, dX6_init_123, dX6_init_126, dX6_init_127, dX6_init_130, dX6_init_131, fl_6_53_6, dX6_init_134, fin_6_6_0, fin_6_6_1, fin_6_6_2, fin_6_6_3, fin_6_6_4, fin_6_6_6, fin_6_6_7, fin_6_6_8, sn_aastore, sn_aload_n, sn_dup, sn_iconst, sn_putfield, sn_return]
  simp only [hput] at hσn
  rw [← hσn]
  clear hσn
  have E0 := E0.tr E1
  have m0 := m1
  have e0 := e1
  clear E1 m1 e1
  refine mkPas (lab := laba) 5 dX6_init_49 dX6_init_52 dX6_init_53 (Nat.le_of_ble_eq_true rfl) (by decide) (by decide) ?_
  intro σa laba o5 c5 Ea P5
  have E0 := E0.tr Ea.ext
  have e0 := (Ea b m0).2.2.trans e0
  have l0 := (Ea b m0).2.1.trans l0
  have m0 := (Ea b m0).1
  have P1 := Ea.loc loc_col P1
  have P2 := Ea.loc loc_col P2
  have P3 := Ea.loc loc_pas P3
  have P4 := Ea.loc loc_col P4
  obtain ⟨σn, hσn⟩ : ∃ x, x = hput σa b (.inr (6, [.ref A1.1, .ref A2.1, .ref o3, .ref A4.1, .ref o5, .int 0, .null, .null, .null])) := ⟨_, rfl⟩
  have E1 : Ext laba laba b σa σn := by rw [hσn]; exact Ext.put
  have m1 : b ∈ σn.1 := by rw [hσn]; exact m0
  have e1 : σn.2 b = .inr (6, [.ref A1.1, .ref A2.1, .ref o3, .ref A4.1, .ref o5, .int 0, .null, .null, .null]) := by rw [hσn]; exact va_up_self _ _ _
  have P1 := E1.loc loc_col (by rw [l0]; decide) P1
  have P2 := E1.loc loc_col (by rw [l0]; decide) P2
  have P3 := E1.loc loc_pas (by rw [l0]; decide) P3
  have P4 := E1.loc loc_col (by rw [l0]; decide) P4
  have P5 := E1.loc loc_pas (by rw [l0]; decide) P5
  refine nvc_ok (uX6_init Γ) (S := [65]) 7 _ _ _ _ ?_
  simp only [m0, e0, nvc_s, s1i, s2i, s1l, s2l, sil, s1r, sir, siir, slir, srir, svr, sd1, sd2, lg, lput, ldel, isL_i, isL_r, isL_l, jmp, obj, obj1, fI, fR, arI, arL, arR, hput, f4_0, f4_1, f4_2, f4_3, lc_0, lc_1, rok_i, rok_b, rok_y, strF, fput_1, fput_2, csum_nil, csum_i, csum_l, csum_r, va_up_self, bx_uu, Int.reduceAdd, List.elem_nil, List.elem_cons, List.take_succ_cons, List.take_zero, List.drop_succ_cons, List.drop_zero, List.take_nil, List.drop_nil, List.reverse_cons, List.reverse_nil, List.nil_append, List.cons_append, List.append_nil, Option.toList_some, Option.toList_none, List.getElem?_cons_zero, List.getElem?_cons_succ, List.set_cons_zero, List.set_cons_succ, List.length_cons, List.length_nil, reduceIte, reduceCtorEq, and_true, true_and, and_self, or_true, true_or, false_and, and_false, not_true_eq_false, not_false_eq_true, true_implies, false_implies, implies_true, Nat.reduceAdd, Nat.reduceLT, Nat.reduceEqDiff, Nat.reduceLeDiff, Nat.reduceBEq, Nat.zero_add, Nat.lt_add_one, Bool.false_eq_true, Bool.or_false, Bool.or_true, Bool.or_self, Nat.zero_ne_one, Nat.one_ne_zero, ite_true, ite_false, ne_eq, Nat.reduceSub, Nat.succ_eq_add_one, Nat.zero_lt_succ, Nat.add_one_ne_zero, false_or, or_false, or_self, mX6_init_c, mX6_init_n, mX6_init_r, mX6_init_l, mX6_init_o, mX6_init_k, mX6_init_s, dX6_init_0, dX6_init_1, dX6_init_4, dX6_init_5, dX6_init_8, dX6_init_9, dX6_init_12, fl_6_10_6, dX6_init_15, dX6_init_16, dX6_init_19, dX6_init_20, dX6_init_23, fl_6_16_6, dX6_init_26, dX6_init_27, dX6_init_30, dX6_init_31, dX6_init_34, fl_6_22_6, dX6_init_37, dX6_init_38, dX6_init_41, dX6_init_42, dX6_init_45, fl_6_26_6, dX6_init_48, dX6_init_49, dX6_init_52, dX6_init_53, dX6_init_56, fl_6_29_6, dX6_init_59, dX6_init_60, ic_0, dX6_init_61, fl_6_32_6, dX6_init_64, dX6_init_65, dX6_init_68, dX6_init_69, dX6_init_72, fl_6_39_6, dX6_init_75, dX6_init_76, dX6_init_79, dX6_init_80, dX6_init_83, fl_6_46_6, dX6_init_86, dX6_init_87, ic_4, dX6_init_88, dX6_init_91, dX6_init_92, dX6_init_93, dX6_init_96, dX6_init_97, dX6_init_100, dX6_init_101, dX6_init_102, ic_1, dX6_init_103, dX6_init_106, dX6_init_107, dX6_init_110, dX6_init_111, dX6_init_112, ic_2, dX6_init_113, dX6_init_116, dX6_init_117, dX6_init_120, dX6_init_121, dX6_init_122, ic_3, dX6_init_123, dX6_init_126, dX6_init_127, dX6_init_130, dX6_init_131, fl_6_53_6, dX6_init_134, fin_6_6_0, fin_6_6_1, fin_6_6_2, fin_6_6_3, fin_6_6_4, fin_6_6_6, fin_6_6_7, fin_6_6_8, sn_aastore, sn_aload_n, sn_dup, sn_iconst, sn_putfield, sn_return]
  simp only [hput] at hσn
  rw [← hσn]
  clear hσn
  have E0 := E0.tr E1
  have m0 := m1
  have e0 := e1
  clear E1 m1 e1
  refine mkTap (lab := laba) 6 dX6_init_65 dX6_init_68 dX6_init_69 (Nat.le_of_ble_eq_true rfl) (by decide) (by decide) ?_
  intro σa laba o6 w6 Ea P6
  have E0 := E0.tr Ea.ext
  have e0 := (Ea b m0).2.2.trans e0
  have l0 := (Ea b m0).2.1.trans l0
  have m0 := (Ea b m0).1
  have P1 := Ea.loc loc_col P1
  have P2 := Ea.loc loc_col P2
  have P3 := Ea.loc loc_pas P3
  have P4 := Ea.loc loc_col P4
  have P5 := Ea.loc loc_pas P5
  obtain ⟨σn, hσn⟩ : ∃ x, x = hput σa b (.inr (6, [.ref A1.1, .ref A2.1, .ref o3, .ref A4.1, .ref o5, .int 0, .ref o6, .null, .null])) := ⟨_, rfl⟩
  have E1 : Ext laba laba b σa σn := by rw [hσn]; exact Ext.put
  have m1 : b ∈ σn.1 := by rw [hσn]; exact m0
  have e1 : σn.2 b = .inr (6, [.ref A1.1, .ref A2.1, .ref o3, .ref A4.1, .ref o5, .int 0, .ref o6, .null, .null]) := by rw [hσn]; exact va_up_self _ _ _
  have P1 := E1.loc loc_col (by rw [l0]; decide) P1
  have P2 := E1.loc loc_col (by rw [l0]; decide) P2
  have P3 := E1.loc loc_pas (by rw [l0]; decide) P3
  have P4 := E1.loc loc_col (by rw [l0]; decide) P4
  have P5 := E1.loc loc_pas (by rw [l0]; decide) P5
  have P6 := E1.loc loc_tap (by rw [l0]; decide) P6
  refine nvc_ok (uX6_init Γ) (S := [76]) 4 _ _ _ _ ?_
  simp only [m0, e0, nvc_s, s1i, s2i, s1l, s2l, sil, s1r, sir, siir, slir, srir, svr, sd1, sd2, lg, lput, ldel, isL_i, isL_r, isL_l, jmp, obj, obj1, fI, fR, arI, arL, arR, hput, f4_0, f4_1, f4_2, f4_3, lc_0, lc_1, rok_i, rok_b, rok_y, strF, fput_1, fput_2, csum_nil, csum_i, csum_l, csum_r, va_up_self, bx_uu, Int.reduceAdd, List.elem_nil, List.elem_cons, List.take_succ_cons, List.take_zero, List.drop_succ_cons, List.drop_zero, List.take_nil, List.drop_nil, List.reverse_cons, List.reverse_nil, List.nil_append, List.cons_append, List.append_nil, Option.toList_some, Option.toList_none, List.getElem?_cons_zero, List.getElem?_cons_succ, List.set_cons_zero, List.set_cons_succ, List.length_cons, List.length_nil, reduceIte, reduceCtorEq, and_true, true_and, and_self, or_true, true_or, false_and, and_false, not_true_eq_false, not_false_eq_true, true_implies, false_implies, implies_true, Nat.reduceAdd, Nat.reduceLT, Nat.reduceEqDiff, Nat.reduceLeDiff, Nat.reduceBEq, Nat.zero_add, Nat.lt_add_one, Bool.false_eq_true, Bool.or_false, Bool.or_true, Bool.or_self, Nat.zero_ne_one, Nat.one_ne_zero, ite_true, ite_false, ne_eq, Nat.reduceSub, Nat.succ_eq_add_one, Nat.zero_lt_succ, Nat.add_one_ne_zero, false_or, or_false, or_self, mX6_init_c, mX6_init_n, mX6_init_r, mX6_init_l, mX6_init_o, mX6_init_k, mX6_init_s, dX6_init_0, dX6_init_1, dX6_init_4, dX6_init_5, dX6_init_8, dX6_init_9, dX6_init_12, fl_6_10_6, dX6_init_15, dX6_init_16, dX6_init_19, dX6_init_20, dX6_init_23, fl_6_16_6, dX6_init_26, dX6_init_27, dX6_init_30, dX6_init_31, dX6_init_34, fl_6_22_6, dX6_init_37, dX6_init_38, dX6_init_41, dX6_init_42, dX6_init_45, fl_6_26_6, dX6_init_48, dX6_init_49, dX6_init_52, dX6_init_53, dX6_init_56, fl_6_29_6, dX6_init_59, dX6_init_60, ic_0, dX6_init_61, fl_6_32_6, dX6_init_64, dX6_init_65, dX6_init_68, dX6_init_69, dX6_init_72, fl_6_39_6, dX6_init_75, dX6_init_76, dX6_init_79, dX6_init_80, dX6_init_83, fl_6_46_6, dX6_init_86, dX6_init_87, ic_4, dX6_init_88, dX6_init_91, dX6_init_92, dX6_init_93, dX6_init_96, dX6_init_97, dX6_init_100, dX6_init_101, dX6_init_102, ic_1, dX6_init_103, dX6_init_106, dX6_init_107, dX6_init_110, dX6_init_111, dX6_init_112, ic_2, dX6_init_113, dX6_init_116, dX6_init_117, dX6_init_120, dX6_init_121, dX6_init_122, ic_3, dX6_init_123, dX6_init_126, dX6_init_127, dX6_init_130, dX6_init_131, fl_6_53_6, dX6_init_134, fin_6_6_0, fin_6_6_1, fin_6_6_2, fin_6_6_3, fin_6_6_4, fin_6_6_6, fin_6_6_7, fin_6_6_8, sn_aastore, sn_aload_n, sn_dup, sn_iconst, sn_putfield, sn_return]
  simp only [hput] at hσn
  rw [← hσn]
  clear hσn
  have E0 := E0.tr E1
  have m0 := m1
  have e0 := e1
  clear E1 m1 e1
  refine mkPla (lab := laba) 7 dX6_init_76 dX6_init_79 dX6_init_80 (Nat.le_of_ble_eq_true rfl) (by decide) (by decide) ?_
  intro σa laba o7 w7 Ea P7
  have E0 := E0.tr Ea.ext
  have e0 := (Ea b m0).2.2.trans e0
  have l0 := (Ea b m0).2.1.trans l0
  have m0 := (Ea b m0).1
  have P1 := Ea.loc loc_col P1
  have P2 := Ea.loc loc_col P2
  have P3 := Ea.loc loc_pas P3
  have P4 := Ea.loc loc_col P4
  have P5 := Ea.loc loc_pas P5
  have P6 := Ea.loc loc_tap P6
  obtain ⟨σn, hσn⟩ : ∃ x, x = hput σa b (.inr (6, [.ref A1.1, .ref A2.1, .ref o3, .ref A4.1, .ref o5, .int 0, .ref o6, .ref o7, .null])) := ⟨_, rfl⟩
  have E1 : Ext laba laba b σa σn := by rw [hσn]; exact Ext.put
  have m1 : b ∈ σn.1 := by rw [hσn]; exact m0
  have e1 : σn.2 b = .inr (6, [.ref A1.1, .ref A2.1, .ref o3, .ref A4.1, .ref o5, .int 0, .ref o6, .ref o7, .null]) := by rw [hσn]; exact va_up_self _ _ _
  have P1 := E1.loc loc_col (by rw [l0]; decide) P1
  have P2 := E1.loc loc_col (by rw [l0]; decide) P2
  have P3 := E1.loc loc_pas (by rw [l0]; decide) P3
  have P4 := E1.loc loc_col (by rw [l0]; decide) P4
  have P5 := E1.loc loc_pas (by rw [l0]; decide) P5
  have P6 := E1.loc loc_tap (by rw [l0]; decide) P6
  have P7 := E1.loc loc_pla (by rw [l0]; decide) P7
  refine nvc_ok (uX6_init Γ) (S := [88]) 5 _ _ _ _ ?_
  simp only [m0, e0, nvc_s, s1i, s2i, s1l, s2l, sil, s1r, sir, siir, slir, srir, svr, sd1, sd2, lg, lput, ldel, isL_i, isL_r, isL_l, jmp, obj, obj1, fI, fR, arI, arL, arR, hput, f4_0, f4_1, f4_2, f4_3, lc_0, lc_1, rok_i, rok_b, rok_y, strF, fput_1, fput_2, csum_nil, csum_i, csum_l, csum_r, va_up_self, bx_uu, Int.reduceAdd, List.elem_nil, List.elem_cons, List.take_succ_cons, List.take_zero, List.drop_succ_cons, List.drop_zero, List.take_nil, List.drop_nil, List.reverse_cons, List.reverse_nil, List.nil_append, List.cons_append, List.append_nil, Option.toList_some, Option.toList_none, List.getElem?_cons_zero, List.getElem?_cons_succ, List.set_cons_zero, List.set_cons_succ, List.length_cons, List.length_nil, reduceIte, reduceCtorEq, and_true, true_and, and_self, or_true, true_or, false_and, and_false, not_true_eq_false, not_false_eq_true, true_implies, false_implies, implies_true, Nat.reduceAdd, Nat.reduceLT, Nat.reduceEqDiff, Nat.reduceLeDiff, Nat.reduceBEq, Nat.zero_add, Nat.lt_add_one, Bool.false_eq_true, Bool.or_false, Bool.or_true, Bool.or_self, Nat.zero_ne_one, Nat.one_ne_zero, ite_true, ite_false, ne_eq, Nat.reduceSub, Nat.succ_eq_add_one, Nat.zero_lt_succ, Nat.add_one_ne_zero, false_or, or_false, or_self, mX6_init_c, mX6_init_n, mX6_init_r, mX6_init_l, mX6_init_o, mX6_init_k, mX6_init_s, dX6_init_0, dX6_init_1, dX6_init_4, dX6_init_5, dX6_init_8, dX6_init_9, dX6_init_12, fl_6_10_6, dX6_init_15, dX6_init_16, dX6_init_19, dX6_init_20, dX6_init_23, fl_6_16_6, dX6_init_26, dX6_init_27, dX6_init_30, dX6_init_31, dX6_init_34, fl_6_22_6, dX6_init_37, dX6_init_38, dX6_init_41, dX6_init_42, dX6_init_45, fl_6_26_6, dX6_init_48, dX6_init_49, dX6_init_52, dX6_init_53, dX6_init_56, fl_6_29_6, dX6_init_59, dX6_init_60, ic_0, dX6_init_61, fl_6_32_6, dX6_init_64, dX6_init_65, dX6_init_68, dX6_init_69, dX6_init_72, fl_6_39_6, dX6_init_75, dX6_init_76, dX6_init_79, dX6_init_80, dX6_init_83, fl_6_46_6, dX6_init_86, dX6_init_87, ic_4, dX6_init_88, dX6_init_91, dX6_init_92, dX6_init_93, dX6_init_96, dX6_init_97, dX6_init_100, dX6_init_101, dX6_init_102, ic_1, dX6_init_103, dX6_init_106, dX6_init_107, dX6_init_110, dX6_init_111, dX6_init_112, ic_2, dX6_init_113, dX6_init_116, dX6_init_117, dX6_init_120, dX6_init_121, dX6_init_122, ic_3, dX6_init_123, dX6_init_126, dX6_init_127, dX6_init_130, dX6_init_131, fl_6_53_6, dX6_init_134, fin_6_6_0, fin_6_6_1, fin_6_6_2, fin_6_6_3, fin_6_6_4, fin_6_6_6, fin_6_6_7, fin_6_6_8, sn_aastore, sn_aload_n, sn_dup, sn_iconst, sn_putfield, sn_return]
  simp only [hput] at hσn
  rw [← hσn]
  clear hσn
  have E0 := E0.tr E1
  have m0 := m1
  have e0 := e1
  clear E1 m1 e1
  refine n_newq 4 3 (Or.inr ⟨rfl, rfl⟩) nq_X6_init dX6_init_88 (by decide) (by decide) (by decide) (by decide) (by decide) (fun sh hsh => ?_)
  show YN Γ mX6_init K _ _ _ _ (hnew _ sh (shA Γ (fun _ => none)))
  have Ea : ExtA laba (labU laba sh 0) σn (hnew σn sh (shA Γ (fun _ => none))) := ExtA.new hsh
  have hbs := ne_fresh hsh m0
  have nsh := E0.out hsh
  have ms : sh ∈ (hnew σn sh (shA Γ (fun _ => none))).1 := hnew_q
  have es : (hnew σn sh (shA Γ (fun _ => none))).2 sh = shA Γ (fun _ => none) := hnew_at
  have lsh : labU laba sh 0 sh = 0 := labU_at
  have E0 := E0.tr Ea.ext
  have e0 := (Ea b m0).2.2.trans e0
  have l0 := (Ea b m0).2.1.trans l0
  have m0 := (Ea b m0).1
  have P1 := Ea.loc loc_col P1
  have P2 := Ea.loc loc_col P2
  have P3 := Ea.loc loc_pas P3
  have P4 := Ea.loc loc_col P4
  have P5 := Ea.loc loc_pas P5
  have P6 := Ea.loc loc_tap P6
  have P7 := Ea.loc loc_pla P7
  generalize hnew σn sh (shA Γ (fun _ => none)) = σs at Ea ms es E0 e0 m0 P1 P2 P3 P4 P5 P6 P7 ⊢
  generalize labU laba sh 0 = labs at Ea lsh E0 l0 P1 P2 P3 P4 P5 P6 P7
  clear Ea
  refine nvc_ok (uX6_init Γ) (S := [93]) 5 _ _ _ _ ?_
  simp only [nvc_s, s1i, s2i, s1l, s2l, sil, s1r, sir, siir, slir, srir, svr, sd1, sd2, lg, lput, ldel, isL_i, isL_r, isL_l, jmp, obj, obj1, fI, fR, arI, arL, arR, hput, f4_0, f4_1, f4_2, f4_3, lc_0, lc_1, rok_i, rok_b, rok_y, strF, fput_1, fput_2, csum_nil, csum_i, csum_l, csum_r, va_up_self, bx_uu, Int.reduceAdd, List.elem_nil, List.elem_cons, List.take_succ_cons, List.take_zero, List.drop_succ_cons, List.drop_zero, List.take_nil, List.drop_nil, List.reverse_cons, List.reverse_nil, List.nil_append, List.cons_append, List.append_nil, Option.toList_some, Option.toList_none, List.getElem?_cons_zero, List.getElem?_cons_succ, List.set_cons_zero, List.set_cons_succ, List.length_cons, List.length_nil, reduceIte, reduceCtorEq, and_true, true_and, and_self, or_true, true_or, false_and, and_false, not_true_eq_false, not_false_eq_true, true_implies, false_implies, implies_true, Nat.reduceAdd, Nat.reduceLT, Nat.reduceEqDiff, Nat.reduceLeDiff, Nat.reduceBEq, Nat.zero_add, Nat.lt_add_one, Bool.false_eq_true, Bool.or_false, Bool.or_true, Bool.or_self, Nat.zero_ne_one, Nat.one_ne_zero, ite_true, ite_false, ne_eq, Nat.reduceSub, Nat.succ_eq_add_one, Nat.zero_lt_succ, Nat.add_one_ne_zero, false_or, or_false, or_self, mX6_init_c, mX6_init_n, mX6_init_r, mX6_init_l, mX6_init_o, mX6_init_k, mX6_init_s, dX6_init_0, dX6_init_1, dX6_init_4, dX6_init_5, dX6_init_8, dX6_init_9, dX6_init_12, fl_6_10_6, dX6_init_15, dX6_init_16, dX6_init_19, dX6_init_20, dX6_init_23, fl_6_16_6, dX6_init_26, dX6_init_27, dX6_init_30, dX6_init_31, dX6_init_34, fl_6_22_6, dX6_init_37, dX6_init_38, dX6_init_41, dX6_init_42, dX6_init_45, fl_6_26_6, dX6_init_48, dX6_init_49, dX6_init_52, dX6_init_53, dX6_init_56, fl_6_29_6, dX6_init_59, dX6_init_60, ic_0, dX6_init_61, fl_6_32_6, dX6_init_64, dX6_init_65, dX6_init_68, dX6_init_69, dX6_init_72, fl_6_39_6, dX6_init_75, dX6_init_76, dX6_init_79, dX6_init_80, dX6_init_83, fl_6_46_6, dX6_init_86, dX6_init_87, ic_4, dX6_init_88, dX6_init_91, dX6_init_92, dX6_init_93, dX6_init_96, dX6_init_97, dX6_init_100, dX6_init_101, dX6_init_102, ic_1, dX6_init_103, dX6_init_106, dX6_init_107, dX6_init_110, dX6_init_111, dX6_init_112, ic_2, dX6_init_113, dX6_init_116, dX6_init_117, dX6_init_120, dX6_init_121, dX6_init_122, ic_3, dX6_init_123, dX6_init_126, dX6_init_127, dX6_init_130, dX6_init_131, fl_6_53_6, dX6_init_134, fin_6_6_0, fin_6_6_1, fin_6_6_2, fin_6_6_3, fin_6_6_4, fin_6_6_6, fin_6_6_7, fin_6_6_8, sn_aastore, sn_aload_n, sn_dup, sn_iconst, sn_putfield, sn_return]
  refine mkShe (lab := labs) 8 dX6_init_93 dX6_init_96 dX6_init_97 (Nat.le_of_ble_eq_true rfl) (by decide) (by decide) ?_
  intro σa laba o8 w8 Ea P8
  have E0 := E0.tr Ea.ext
  have e0 := (Ea b m0).2.2.trans e0
  have l0 := (Ea b m0).2.1.trans l0
  have m0 := (Ea b m0).1
  have es := (Ea sh ms).2.2.trans es
  have lsh := (Ea sh ms).2.1.trans lsh
  have ms := (Ea sh ms).1
  have P1 := Ea.loc loc_col P1
  have P2 := Ea.loc loc_col P2
  have P3 := Ea.loc loc_pas P3
  have P4 := Ea.loc loc_col P4
  have P5 := Ea.loc loc_pas P5
  have P6 := Ea.loc loc_tap P6
  have P7 := Ea.loc loc_pla P7
  have mo := P8.1.1.1
  have eo := P8.1.2.1
  obtain ⟨σn, hσn⟩ : ∃ x, x = hput σa sh (shA Γ (va_up (fun _ => none) 0 (some o8))) := ⟨_, rfl⟩
  have E1 : Ext laba laba sh σa σn := by rw [hσn]; exact Ext.put
  have E0' : Ext lab laba b σ σn := by rw [hσn]; exact E0.putQ nsh
  have m1 : b ∈ σn.1 := by rw [hσn]; exact m0
  have ms1 : sh ∈ σn.1 := by rw [hσn]; exact ms
  have e1 := (E1 b m0).2.2 hbs
  rw [e0] at e1
  have es1 : σn.2 sh = shA Γ (va_up (fun _ => none) 0 (some o8)) := by rw [hσn]; exact va_up_self _ _ _
  have P1 := E1.loc loc_col (by rw [lsh]; decide) P1
  have P2 := E1.loc loc_col (by rw [lsh]; decide) P2
  have P3 := E1.loc loc_pas (by rw [lsh]; decide) P3
  have P4 := E1.loc loc_col (by rw [lsh]; decide) P4
  have P5 := E1.loc loc_pas (by rw [lsh]; decide) P5
  have P6 := E1.loc loc_tap (by rw [lsh]; decide) P6
  have P7 := E1.loc loc_pla (by rw [lsh]; decide) P7
  have P8 := E1.loc loc_she (by rw [lsh]; decide) P8
  simp only [shA] at es hσn
  simp only [ShE] at mo eo
  refine nvc_ok (uX6_init Γ) (S := [103]) 5 _ _ _ _ ?_
  simp only [m0, e0, ms, es, mo, eo, l4_0, l4_1, l4_2, l4_3, nvc_s, s1i, s2i, s1l, s2l, sil, s1r, sir, siir, slir, srir, svr, sd1, sd2, lg, lput, ldel, isL_i, isL_r, isL_l, jmp, obj, obj1, fI, fR, arI, arL, arR, hput, f4_0, f4_1, f4_2, f4_3, lc_0, lc_1, rok_i, rok_b, rok_y, strF, fput_1, fput_2, csum_nil, csum_i, csum_l, csum_r, va_up_self, bx_uu, Int.reduceAdd, List.elem_nil, List.elem_cons, List.take_succ_cons, List.take_zero, List.drop_succ_cons, List.drop_zero, List.take_nil, List.drop_nil, List.reverse_cons, List.reverse_nil, List.nil_append, List.cons_append, List.append_nil, Option.toList_some, Option.toList_none, List.getElem?_cons_zero, List.getElem?_cons_succ, List.set_cons_zero, List.set_cons_succ, List.length_cons, List.length_nil, reduceIte, reduceCtorEq, and_true, true_and, and_self, or_true, true_or, false_and, and_false, not_true_eq_false, not_false_eq_true, true_implies, false_implies, implies_true, Nat.reduceAdd, Nat.reduceLT, Nat.reduceEqDiff, Nat.reduceLeDiff, Nat.reduceBEq, Nat.zero_add, Nat.lt_add_one, Bool.false_eq_true, Bool.or_false, Bool.or_true, Bool.or_self, Nat.zero_ne_one, Nat.one_ne_zero, ite_true, ite_false, ne_eq, Nat.reduceSub, Nat.succ_eq_add_one, Nat.zero_lt_succ, Nat.add_one_ne_zero, false_or, or_false, or_self, mX6_init_c, mX6_init_n, mX6_init_r, mX6_init_l, mX6_init_o, mX6_init_k, mX6_init_s, dX6_init_0, dX6_init_1, dX6_init_4, dX6_init_5, dX6_init_8, dX6_init_9, dX6_init_12, fl_6_10_6, dX6_init_15, dX6_init_16, dX6_init_19, dX6_init_20, dX6_init_23, fl_6_16_6, dX6_init_26, dX6_init_27, dX6_init_30, dX6_init_31, dX6_init_34, fl_6_22_6, dX6_init_37, dX6_init_38, dX6_init_41, dX6_init_42, dX6_init_45, fl_6_26_6, dX6_init_48, dX6_init_49, dX6_init_52, dX6_init_53, dX6_init_56, fl_6_29_6, dX6_init_59, dX6_init_60, ic_0, dX6_init_61, fl_6_32_6, dX6_init_64, dX6_init_65, dX6_init_68, dX6_init_69, dX6_init_72, fl_6_39_6, dX6_init_75, dX6_init_76, dX6_init_79, dX6_init_80, dX6_init_83, fl_6_46_6, dX6_init_86, dX6_init_87, ic_4, dX6_init_88, dX6_init_91, dX6_init_92, dX6_init_93, dX6_init_96, dX6_init_97, dX6_init_100, dX6_init_101, dX6_init_102, ic_1, dX6_init_103, dX6_init_106, dX6_init_107, dX6_init_110, dX6_init_111, dX6_init_112, ic_2, dX6_init_113, dX6_init_116, dX6_init_117, dX6_init_120, dX6_init_121, dX6_init_122, ic_3, dX6_init_123, dX6_init_126, dX6_init_127, dX6_init_130, dX6_init_131, fl_6_53_6, dX6_init_134, fin_6_6_0, fin_6_6_1, fin_6_6_2, fin_6_6_3, fin_6_6_4, fin_6_6_6, fin_6_6_7, fin_6_6_8, sn_aastore, sn_aload_n, sn_dup, sn_iconst, sn_putfield, sn_return]
  simp only [hput] at hσn
  rw [← hσn]
  clear hσn
  have E0 := E0'
  have m0 := m1
  have e0 := e1
  have ms := ms1
  have es := es1
  clear E1 E0' m1 e1 ms1 es1 mo eo
  refine mkShe (lab := laba) 9 dX6_init_103 dX6_init_106 dX6_init_107 (Nat.le_of_ble_eq_true rfl) (by decide) (by decide) ?_
  intro σa laba o9 w9 Ea P9
  have E0 := E0.tr Ea.ext
  have e0 := (Ea b m0).2.2.trans e0
  have l0 := (Ea b m0).2.1.trans l0
  have m0 := (Ea b m0).1
  have es := (Ea sh ms).2.2.trans es
  have lsh := (Ea sh ms).2.1.trans lsh
  have ms := (Ea sh ms).1
  have P1 := Ea.loc loc_col P1
  have P2 := Ea.loc loc_col P2
  have P3 := Ea.loc loc_pas P3
  have P4 := Ea.loc loc_col P4
  have P5 := Ea.loc loc_pas P5
  have P6 := Ea.loc loc_tap P6
  have P7 := Ea.loc loc_pla P7
  have P8 := Ea.loc loc_she P8
  have mo := P9.1.1.1
  have eo := P9.1.2.1
  obtain ⟨σn, hσn⟩ : ∃ x, x = hput σa sh (shA Γ (va_up (va_up (fun _ => none) 0 (some o8)) 1 (some o9))) := ⟨_, rfl⟩
  have E1 : Ext laba laba sh σa σn := by rw [hσn]; exact Ext.put
  have E0' : Ext lab laba b σ σn := by rw [hσn]; exact E0.putQ nsh
  have m1 : b ∈ σn.1 := by rw [hσn]; exact m0
  have ms1 : sh ∈ σn.1 := by rw [hσn]; exact ms
  have e1 := (E1 b m0).2.2 hbs
  rw [e0] at e1
  have es1 : σn.2 sh = shA Γ (va_up (va_up (fun _ => none) 0 (some o8)) 1 (some o9)) := by rw [hσn]; exact va_up_self _ _ _
  have P1 := E1.loc loc_col (by rw [lsh]; decide) P1
  have P2 := E1.loc loc_col (by rw [lsh]; decide) P2
  have P3 := E1.loc loc_pas (by rw [lsh]; decide) P3
  have P4 := E1.loc loc_col (by rw [lsh]; decide) P4
  have P5 := E1.loc loc_pas (by rw [lsh]; decide) P5
  have P6 := E1.loc loc_tap (by rw [lsh]; decide) P6
  have P7 := E1.loc loc_pla (by rw [lsh]; decide) P7
  have P8 := E1.loc loc_she (by rw [lsh]; decide) P8
  have P9 := E1.loc loc_she (by rw [lsh]; decide) P9
  simp only [shA] at es hσn
  simp only [ShE] at mo eo
  refine nvc_ok (uX6_init Γ) (S := [113]) 5 _ _ _ _ ?_
  simp only [m0, e0, ms, es, mo, eo, l4_0, l4_1, l4_2, l4_3, nvc_s, s1i, s2i, s1l, s2l, sil, s1r, sir, siir, slir, srir, svr, sd1, sd2, lg, lput, ldel, isL_i, isL_r, isL_l, jmp, obj, obj1, fI, fR, arI, arL, arR, hput, f4_0, f4_1, f4_2, f4_3, lc_0, lc_1, rok_i, rok_b, rok_y, strF, fput_1, fput_2, csum_nil, csum_i, csum_l, csum_r, va_up_self, bx_uu, Int.reduceAdd, List.elem_nil, List.elem_cons, List.take_succ_cons, List.take_zero, List.drop_succ_cons, List.drop_zero, List.take_nil, List.drop_nil, List.reverse_cons, List.reverse_nil, List.nil_append, List.cons_append, List.append_nil, Option.toList_some, Option.toList_none, List.getElem?_cons_zero, List.getElem?_cons_succ, List.set_cons_zero, List.set_cons_succ, List.length_cons, List.length_nil, reduceIte, reduceCtorEq, and_true, true_and, and_self, or_true, true_or, false_and, and_false, not_true_eq_false, not_false_eq_true, true_implies, false_implies, implies_true, Nat.reduceAdd, Nat.reduceLT, Nat.reduceEqDiff, Nat.reduceLeDiff, Nat.reduceBEq, Nat.zero_add, Nat.lt_add_one, Bool.false_eq_true, Bool.or_false, Bool.or_true, Bool.or_self, Nat.zero_ne_one, Nat.one_ne_zero, ite_true, ite_false, ne_eq, Nat.reduceSub, Nat.succ_eq_add_one, Nat.zero_lt_succ, Nat.add_one_ne_zero, false_or, or_false, or_self, mX6_init_c, mX6_init_n, mX6_init_r, mX6_init_l, mX6_init_o, mX6_init_k, mX6_init_s, dX6_init_0, dX6_init_1, dX6_init_4, dX6_init_5, dX6_init_8, dX6_init_9, dX6_init_12, fl_6_10_6, dX6_init_15, dX6_init_16, dX6_init_19, dX6_init_20, dX6_init_23, fl_6_16_6, dX6_init_26, dX6_init_27, dX6_init_30, dX6_init_31, dX6_init_34, fl_6_22_6, dX6_init_37, dX6_init_38, dX6_init_41, dX6_init_42, dX6_init_45, fl_6_26_6, dX6_init_48, dX6_init_49, dX6_init_52, dX6_init_53, dX6_init_56, fl_6_29_6, dX6_init_59, dX6_init_60, ic_0, dX6_init_61, fl_6_32_6, dX6_init_64, dX6_init_65, dX6_init_68, dX6_init_69, dX6_init_72, fl_6_39_6, dX6_init_75, dX6_init_76, dX6_init_79, dX6_init_80, dX6_init_83, fl_6_46_6, dX6_init_86, dX6_init_87, ic_4, dX6_init_88, dX6_init_91, dX6_init_92, dX6_init_93, dX6_init_96, dX6_init_97, dX6_init_100, dX6_init_101, dX6_init_102, ic_1, dX6_init_103, dX6_init_106, dX6_init_107, dX6_init_110, dX6_init_111, dX6_init_112, ic_2, dX6_init_113, dX6_init_116, dX6_init_117, dX6_init_120, dX6_init_121, dX6_init_122, ic_3, dX6_init_123, dX6_init_126, dX6_init_127, dX6_init_130, dX6_init_131, fl_6_53_6, dX6_init_134, fin_6_6_0, fin_6_6_1, fin_6_6_2, fin_6_6_3, fin_6_6_4, fin_6_6_6, fin_6_6_7, fin_6_6_8, sn_aastore, sn_aload_n, sn_dup, sn_iconst, sn_putfield, sn_return]
  simp only [hput] at hσn
  rw [← hσn]
  clear hσn
  have E0 := E0'
  have m0 := m1
  have e0 := e1
  have ms := ms1
  have es := es1
  clear E1 E0' m1 e1 ms1 es1 mo eo
  refine mkShe (lab := laba) 10 dX6_init_113 dX6_init_116 dX6_init_117 (Nat.le_of_ble_eq_true rfl) (by decide) (by decide) ?_
  intro σa laba o10 w10 Ea P10
  have E0 := E0.tr Ea.ext
  have e0 := (Ea b m0).2.2.trans e0
  have l0 := (Ea b m0).2.1.trans l0
  have m0 := (Ea b m0).1
  have es := (Ea sh ms).2.2.trans es
  have lsh := (Ea sh ms).2.1.trans lsh
  have ms := (Ea sh ms).1
  have P1 := Ea.loc loc_col P1
  have P2 := Ea.loc loc_col P2
  have P3 := Ea.loc loc_pas P3
  have P4 := Ea.loc loc_col P4
  have P5 := Ea.loc loc_pas P5
  have P6 := Ea.loc loc_tap P6
  have P7 := Ea.loc loc_pla P7
  have P8 := Ea.loc loc_she P8
  have P9 := Ea.loc loc_she P9
  have mo := P10.1.1.1
  have eo := P10.1.2.1
  obtain ⟨σn, hσn⟩ : ∃ x, x = hput σa sh (shA Γ (va_up (va_up (va_up (fun _ => none) 0 (some o8)) 1 (some o9)) 2 (some o10))) := ⟨_, rfl⟩
  have E1 : Ext laba laba sh σa σn := by rw [hσn]; exact Ext.put
  have E0' : Ext lab laba b σ σn := by rw [hσn]; exact E0.putQ nsh
  have m1 : b ∈ σn.1 := by rw [hσn]; exact m0
  have ms1 : sh ∈ σn.1 := by rw [hσn]; exact ms
  have e1 := (E1 b m0).2.2 hbs
  rw [e0] at e1
  have es1 : σn.2 sh = shA Γ (va_up (va_up (va_up (fun _ => none) 0 (some o8)) 1 (some o9)) 2 (some o10)) := by rw [hσn]; exact va_up_self _ _ _
  have P1 := E1.loc loc_col (by rw [lsh]; decide) P1
  have P2 := E1.loc loc_col (by rw [lsh]; decide) P2
  have P3 := E1.loc loc_pas (by rw [lsh]; decide) P3
  have P4 := E1.loc loc_col (by rw [lsh]; decide) P4
  have P5 := E1.loc loc_pas (by rw [lsh]; decide) P5
  have P6 := E1.loc loc_tap (by rw [lsh]; decide) P6
  have P7 := E1.loc loc_pla (by rw [lsh]; decide) P7
  have P8 := E1.loc loc_she (by rw [lsh]; decide) P8
  have P9 := E1.loc loc_she (by rw [lsh]; decide) P9
  have P10 := E1.loc loc_she (by rw [lsh]; decide) P10
  simp only [shA] at es hσn
  simp only [ShE] at mo eo
  refine nvc_ok (uX6_init Γ) (S := [123]) 5 _ _ _ _ ?_
  simp only [m0, e0, ms, es, mo, eo, l4_0, l4_1, l4_2, l4_3, nvc_s, s1i, s2i, s1l, s2l, sil, s1r, sir, siir, slir, srir, svr, sd1, sd2, lg, lput, ldel, isL_i, isL_r, isL_l, jmp, obj, obj1, fI, fR, arI, arL, arR, hput, f4_0, f4_1, f4_2, f4_3, lc_0, lc_1, rok_i, rok_b, rok_y, strF, fput_1, fput_2, csum_nil, csum_i, csum_l, csum_r, va_up_self, bx_uu, Int.reduceAdd, List.elem_nil, List.elem_cons, List.take_succ_cons, List.take_zero, List.drop_succ_cons, List.drop_zero, List.take_nil, List.drop_nil, List.reverse_cons, List.reverse_nil, List.nil_append, List.cons_append, List.append_nil, Option.toList_some, Option.toList_none, List.getElem?_cons_zero, List.getElem?_cons_succ, List.set_cons_zero, List.set_cons_succ, List.length_cons, List.length_nil, reduceIte, reduceCtorEq, and_true, true_and, and_self, or_true, true_or, false_and, and_false, not_true_eq_false, not_false_eq_true, true_implies, false_implies, implies_true, Nat.reduceAdd, Nat.reduceLT, Nat.reduceEqDiff, Nat.reduceLeDiff, Nat.reduceBEq, Nat.zero_add, Nat.lt_add_one, Bool.false_eq_true, Bool.or_false, Bool.or_true, Bool.or_self, Nat.zero_ne_one, Nat.one_ne_zero, ite_true, ite_false, ne_eq, Nat.reduceSub, Nat.succ_eq_add_one, Nat.zero_lt_succ, Nat.add_one_ne_zero, false_or, or_false, or_self, mX6_init_c, mX6_init_n, mX6_init_r, mX6_init_l, mX6_init_o, mX6_init_k, mX6_init_s, dX6_init_0, dX6_init_1, dX6_init_4, dX6_init_5, dX6_init_8, dX6_init_9, dX6_init_12, fl_6_10_6, dX6_init_15, dX6_init_16, dX6_init_19, dX6_init_20, dX6_init_23, fl_6_16_6, dX6_init_26, dX6_init_27, dX6_init_30, dX6_init_31, dX6_init_34, fl_6_22_6, dX6_init_37, dX6_init_38, dX6_init_41, dX6_init_42, dX6_init_45, fl_6_26_6, dX6_init_48, dX6_init_49, dX6_init_52, dX6_init_53, dX6_init_56, fl_6_29_6, dX6_init_59, dX6_init_60, ic_0, dX6_init_61, fl_6_32_6, dX6_init_64, dX6_init_65, dX6_init_68, dX6_init_69, dX6_init_72, fl_6_39_6, dX6_init_75, dX6_init_76, dX6_init_79, dX6_init_80, dX6_init_83, fl_6_46_6, dX6_init_86, dX6_init_87, ic_4, dX6_init_88, dX6_init_91, dX6_init_92, dX6_init_93, dX6_init_96, dX6_init_97, dX6_init_100, dX6_init_101, dX6_init_102, ic_1, dX6_init_103, dX6_init_106, dX6_init_107, dX6_init_110, dX6_init_111, dX6_init_112, ic_2, dX6_init_113, dX6_init_116, dX6_init_117, dX6_init_120, dX6_init_121, dX6_init_122, ic_3, dX6_init_123, dX6_init_126, dX6_init_127, dX6_init_130, dX6_init_131, fl_6_53_6, dX6_init_134, fin_6_6_0, fin_6_6_1, fin_6_6_2, fin_6_6_3, fin_6_6_4, fin_6_6_6, fin_6_6_7, fin_6_6_8, sn_aastore, sn_aload_n, sn_dup, sn_iconst, sn_putfield, sn_return]
  simp only [hput] at hσn
  rw [← hσn]
  clear hσn
  have E0 := E0'
  have m0 := m1
  have e0 := e1
  have ms := ms1
  have es := es1
  clear E1 E0' m1 e1 ms1 es1 mo eo
  refine mkShe (lab := laba) 11 dX6_init_123 dX6_init_126 dX6_init_127 (Nat.le_of_ble_eq_true rfl) (by decide) (by decide) ?_
  intro σa laba o11 w11 Ea P11
  have E0 := E0.tr Ea.ext
  have e0 := (Ea b m0).2.2.trans e0
  have l0 := (Ea b m0).2.1.trans l0
  have m0 := (Ea b m0).1
  have es := (Ea sh ms).2.2.trans es
  have lsh := (Ea sh ms).2.1.trans lsh
  have ms := (Ea sh ms).1
  have P1 := Ea.loc loc_col P1
  have P2 := Ea.loc loc_col P2
  have P3 := Ea.loc loc_pas P3
  have P4 := Ea.loc loc_col P4
  have P5 := Ea.loc loc_pas P5
  have P6 := Ea.loc loc_tap P6
  have P7 := Ea.loc loc_pla P7
  have P8 := Ea.loc loc_she P8
  have P9 := Ea.loc loc_she P9
  have P10 := Ea.loc loc_she P10
  have mo := P11.1.1.1
  have eo := P11.1.2.1
  obtain ⟨σn, hσn⟩ : ∃ x, x = hput σa sh (shA Γ (va_up (va_up (va_up (va_up (fun _ => none) 0 (some o8)) 1 (some o9)) 2 (some o10)) 3 (some o11))) := ⟨_, rfl⟩
  have E1 : Ext laba laba sh σa σn := by rw [hσn]; exact Ext.put
  have E0' : Ext lab laba b σ σn := by rw [hσn]; exact E0.putQ nsh
  have m1 : b ∈ σn.1 := by rw [hσn]; exact m0
  have ms1 : sh ∈ σn.1 := by rw [hσn]; exact ms
  have e1 := (E1 b m0).2.2 hbs
  rw [e0] at e1
  have es1 : σn.2 sh = shA Γ (va_up (va_up (va_up (va_up (fun _ => none) 0 (some o8)) 1 (some o9)) 2 (some o10)) 3 (some o11)) := by rw [hσn]; exact va_up_self _ _ _
  have P1 := E1.loc loc_col (by rw [lsh]; decide) P1
  have P2 := E1.loc loc_col (by rw [lsh]; decide) P2
  have P3 := E1.loc loc_pas (by rw [lsh]; decide) P3
  have P4 := E1.loc loc_col (by rw [lsh]; decide) P4
  have P5 := E1.loc loc_pas (by rw [lsh]; decide) P5
  have P6 := E1.loc loc_tap (by rw [lsh]; decide) P6
  have P7 := E1.loc loc_pla (by rw [lsh]; decide) P7
  have P8 := E1.loc loc_she (by rw [lsh]; decide) P8
  have P9 := E1.loc loc_she (by rw [lsh]; decide) P9
  have P10 := E1.loc loc_she (by rw [lsh]; decide) P10
  have P11 := E1.loc loc_she (by rw [lsh]; decide) P11
  simp only [shA] at es hσn
  simp only [ShE] at mo eo
  have E2 : Ext laba laba b σn (hput σn b (.inr (6, [.ref A1.1, .ref A2.1, .ref o3, .ref A4.1, .ref o5, .int 0, .ref o6, .ref o7, .ref sh]))) := Ext.put
  have P1 := E2.loc loc_col (by rw [l0]; decide) P1
  have P2 := E2.loc loc_col (by rw [l0]; decide) P2
  have P3 := E2.loc loc_pas (by rw [l0]; decide) P3
  have P4 := E2.loc loc_col (by rw [l0]; decide) P4
  have P5 := E2.loc loc_pas (by rw [l0]; decide) P5
  have P6 := E2.loc loc_tap (by rw [l0]; decide) P6
  have P7 := E2.loc loc_pla (by rw [l0]; decide) P7
  have P8 := E2.loc loc_she (by rw [l0]; decide) P8
  have P9 := E2.loc loc_she (by rw [l0]; decide) P9
  have P10 := E2.loc loc_she (by rw [l0]; decide) P10
  have P11 := E2.loc loc_she (by rw [l0]; decide) P11
  have hk := h (hput σn b (.inr (6, [.ref A1.1, .ref A2.1, .ref o3, .ref A4.1, .ref o5, .int 0, .ref o6, .ref o7, .ref sh]))) laba (b, sh, A1, A2, o3, A4, o5, (o6, w6), (o7, w7), fun j => if j = 0 then (o8, w8) else if j = 1 then (o9, w9) else if j = 2 then (o10, w10) else (o11, w11)) f1 f4 c3 c5 rfl (E0'.tr Ext.put) (by
    refine ⟨⟨m1, ms1, l0, lsh⟩, va_up_self _ _ _, ⟨_, (va_up_ne _ _ hbs.symm).trans es1, fun j hj => ?_⟩, P1, ⟨⟨_, P2.1⟩, P2.2⟩, P3, P4, P5, ⟨⟨_, P6.1⟩, P6.2, Nat.zero_le _⟩, ⟨⟨_, P7.1⟩, P7.2⟩, fun j hj => ?_⟩
    · rcases (show j = 0 ∨ j = 1 ∨ j = 2 ∨ j = 3 by omega) with rfl | rfl | rfl | rfl <;> rfl
    · rcases (show j = 0 ∨ j = 1 ∨ j = 2 ∨ j = 3 by omega) with rfl | rfl | rfl | rfl
      · exact P8
      · exact P9
      · exact P10
      · exact P11) hf1
  rw [hσn] at hk
  simp only [hput] at hk
  refine nvc_ok (uX6_init Γ) (S := []) 8 _ _ _ _ ?_
  simp only [m0, e0, ms, es, mo, eo, l4_0, l4_1, l4_2, l4_3, va_up_ne, ne_eq, hbs, hbs.symm, nvc_s, s1i, s2i, s1l, s2l, sil, s1r, sir, siir, slir, srir, svr, sd1, sd2, lg, lput, ldel, isL_i, isL_r, isL_l, jmp, obj, obj1, fI, fR, arI, arL, arR, hput, f4_0, f4_1, f4_2, f4_3, lc_0, lc_1, rok_i, rok_b, rok_y, strF, fput_1, fput_2, csum_nil, csum_i, csum_l, csum_r, va_up_self, bx_uu, Int.reduceAdd, List.elem_nil, List.elem_cons, List.take_succ_cons, List.take_zero, List.drop_succ_cons, List.drop_zero, List.take_nil, List.drop_nil, List.reverse_cons, List.reverse_nil, List.nil_append, List.cons_append, List.append_nil, Option.toList_some, Option.toList_none, List.getElem?_cons_zero, List.getElem?_cons_succ, List.set_cons_zero, List.set_cons_succ, List.length_cons, List.length_nil, reduceIte, reduceCtorEq, and_true, true_and, and_self, or_true, true_or, false_and, and_false, not_true_eq_false, not_false_eq_true, true_implies, false_implies, implies_true, Nat.reduceAdd, Nat.reduceLT, Nat.reduceEqDiff, Nat.reduceLeDiff, Nat.reduceBEq, Nat.zero_add, Nat.lt_add_one, Bool.false_eq_true, Bool.or_false, Bool.or_true, Bool.or_self, Nat.zero_ne_one, Nat.one_ne_zero, ite_true, ite_false, ne_eq, Nat.reduceSub, Nat.succ_eq_add_one, Nat.zero_lt_succ, Nat.add_one_ne_zero, false_or, or_false, or_self, mX6_init_c, mX6_init_n, mX6_init_r, mX6_init_l, mX6_init_o, mX6_init_k, mX6_init_s, dX6_init_0, dX6_init_1, dX6_init_4, dX6_init_5, dX6_init_8, dX6_init_9, dX6_init_12, fl_6_10_6, dX6_init_15, dX6_init_16, dX6_init_19, dX6_init_20, dX6_init_23, fl_6_16_6, dX6_init_26, dX6_init_27, dX6_init_30, dX6_init_31, dX6_init_34, fl_6_22_6, dX6_init_37, dX6_init_38, dX6_init_41, dX6_init_42, dX6_init_45, fl_6_26_6, dX6_init_48, dX6_init_49, dX6_init_52, dX6_init_53, dX6_init_56, fl_6_29_6, dX6_init_59, dX6_init_60, ic_0, dX6_init_61, fl_6_32_6, dX6_init_64, dX6_init_65, dX6_init_68, dX6_init_69, dX6_init_72, fl_6_39_6, dX6_init_75, dX6_init_76, dX6_init_79, dX6_init_80, dX6_init_83, fl_6_46_6, dX6_init_86, dX6_init_87, ic_4, dX6_init_88, dX6_init_91, dX6_init_92, dX6_init_93, dX6_init_96, dX6_init_97, dX6_init_100, dX6_init_101, dX6_init_102, ic_1, dX6_init_103, dX6_init_106, dX6_init_107, dX6_init_110, dX6_init_111, dX6_init_112, ic_2, dX6_init_113, dX6_init_116, dX6_init_117, dX6_init_120, dX6_init_121, dX6_init_122, ic_3, dX6_init_123, dX6_init_126, dX6_init_127, dX6_init_130, dX6_init_131, fl_6_53_6, dX6_init_134, fin_6_6_0, fin_6_6_1, fin_6_6_2, fin_6_6_3, fin_6_6_4, fin_6_6_6, fin_6_6_7, fin_6_6_8, sn_aastore, sn_aload_n, sn_dup, sn_iconst, sn_putfield, sn_return]
  exact hk
