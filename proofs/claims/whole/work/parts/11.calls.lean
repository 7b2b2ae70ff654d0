/-! ===== CONTRACTS AND CALLS over the frame ===== -/
def Bp (Γ : Cx) (σ : Hp) (U : State) : Prop := Bq Γ σ U.heap ∧ EV Γ U U.heap ∧ ∀ q, U.heap.size ≤ q → Γ.2.2.1 q
def wsm (y : MethodName) (μ : Mt) : List Cond := .code y μ.2.2.1 μ.2.2.2.1 μ.2.2.2.2.1 :: BW
/-- the contract of method y, described by μ, with spec sp; it makes no cell -/
def Ok (Γ : Cx) (y : MethodName) (μ : Mt) (sp : YSp) : Prop := ∀ (av : List Value) (σ : Hp) (K : Option Value → Hp → Prop), sp av σ K → Met Γ.1 y (wsm y μ) μ.1 (va_Pc av (Bp Γ σ)) (Qk Γ K) 0 0 Γ.2.2.1
theorem ok_intro {Γ : Cx} {y : MethodName} {μ : Mt} {sp : YSp} (hy : plainName y.cls = true) (ho : y.cls = μ.2.1) (h0 : μ.2.2.2.2.2.1 = (0, 0))
    (h : ∀ (av : List Value) (σ : Hp) (K : Option Value → Hp → Prop), sp av σ K → (lg_sl av).length ≤ μ.2.2.2.1 ∧ YG Γ μ K 0 (lv_args 0 av) [] σ) : Ok Γ y μ sp := by
  intro av σ K hs
  obtain ⟨hn, hG⟩ := h av σ K hs
  refine Met.ofW (cc := μ.2.2.1) (maxL := μ.2.2.2.1) (ret := μ.2.2.2.2.1) hy rfl ?_
  intro p e s m args below meth c s₁ B hml hv
  obtain ⟨rfl, hB, hE, hA⟩ := hv
  have hts := atoms_spec (ws := wsm y μ) B.pre
  have hown : s.vm.findClass y.cls = some m.cls := findClass_of_methodNamed B.named
  have hl := lv_entry av (n := μ.2.2.2.1) hn
  rw [lg_entry_eq]
  have F : Fx Γ μ p s m av.toArray meth c := ⟨B.exec, B.bytes, hml, by rw [← ho]; exact hown, fun w hw => hts w (List.mem_cons_of_mem _ hw), B.returns, B.notSynchronized, hE, hA⟩
  have := hG p e s m av.toArray below meth c s.heap [] _ F hB va_S.rf hl
  rw [h0] at this
  exact this
theorem pc_blind {Γ : Cx} {av : List Value} {σ : Hp} : FrameBlind (va_Pc av (Bp Γ σ)) := fun a U g mk q => ⟨q.1, q.2.1, EV.same (s := U) (U := U.calling g mk a) (H := U.heap) rfl q.2.2.1, q.2.2.2⟩
section CALLK
variable {Γ : Cx} {p : Program} {l : Launch} {e : Env} {R : Room} {s : State} {m : MethodId} {args : Array Value} {below : List Frame} {meth : Method} {c : Code} {H : Heap} {locs : List Loc} {cells slots : Nat} {Q : State → Prop} {pc : Nat} {ls : Array Slot} {rest st0 : List Value} {a : Array Value} {K' : Option Value → Hp → Prop}
theorem va_callk (hr : va_Run p l e R s m args below meth c H locs cells slots 0 0 (F0 m pc ls st0) rest (Qk Γ K' a) Γ.2.2.1) (hS : va_S Γ.2.2.1 s.heap H locs)
    (kk : ∀ (v : Option Value) (σ : Hp) (H1 : Heap) (locs1 : List Loc), K' v σ → Bq Γ σ H1 → va_S Γ.2.2.1 s.heap H1 locs1 → W p l e R s m args below meth c H1 locs1 cells slots Q (F0 m (pc + 3) ls (v.toList ++ rest))) : W p l e R s m args below meth c H locs cells slots Q (F0 m pc ls st0) := by
  intro T hT X
  obtain ⟨v, st₀, t, T', L, h0, X', hL, e1, e2, ⟨⟨v', σ', hv, hp, hb⟩, hz, hk⟩, st⟩ := hr T hT X
  cases hv
  rw [h0] at hz hk
  obtain ⟨t2, a1, b1⟩ := kk v σ' T'.heap (locs ++ L) hp (by rw [e1]; exact hb)
    ⟨Nat.le_trans hS.1 (by rw [e1]; exact hz), fun q h1 h2 => by rw [e1, hk q (Nat.lt_of_lt_of_le h1 hS.1) h2]; exact hS.2.1 q h1 h2, fun q hq => by
      rcases List.mem_append.mp hq with h | h
      · exact hS.2.2 q h
      · exact hL q h⟩ T' rfl X'
  exact ⟨t2, st t2 a1, b1⟩
end CALLK
/-- what a call's arguments must be: a receiver of class number ci in our cells, and n more -/
def Recv (sp : YSp) (n ci : Nat) : Prop := ∀ (av : List Value) (σ : Hp) (K : Option Value → Hp → Prop), sp av σ K → ∃ (b : Nat) (As : List Value) (fs : List Value), av = .ref b :: As ∧ As.length = n ∧ b ∈ σ.1 ∧ σ.2 b = .inr (ci, fs)
def Args (sp : YSp) (n : Nat) : Prop := ∀ (av : List Value) (σ : Hp) (K : Option Value → Hp → Prop), sp av σ K → av.length = n
theorem take_rev {st av : List Value} {n : Nat} (h : (st.take n).reverse = av) : st = av.reverse ++ st.drop n := by
  rw [← h, List.reverse_reverse, List.take_append_drop]
theorem csum_room {m : MethodId} {pc : Nat} {ls : Array Slot} {rest st : List Value} (h : csum st ≤ 8) : 2 * (F0 m pc ls rest).monitorRoom + (st.map fun v => v.category).sum ≤ 8 := lv_room (by rw [csum_cat]; exact h)
theorem wsm_good {y : MethodName} {μ : Mt} (hc : Cond.code y μ.2.2.1 μ.2.2.2.1 μ.2.2.2.2.1 ∈ BW) : GoodIn BW (wsm y μ) := fun w h => (List.mem_cons.mp h).elim (fun z => by rw [z]; exact bw_good _ hc) (fun h => bw_good w h)
theorem good_app {a b : List Cond} (ha : ∀ w ∈ a, w ∈ BW) (hb : GoodIn BW b) : GoodIn BW (a ++ b) := fun w h => (List.mem_append.mp h).elim (fun h => bw_good w (ha w h)) (hb w)
def RoomOK (μ μ' : Mt) : Prop := (μ'.1.cells = 0 ∧ μ'.1.slots = 0) ∧ (μ'.1.frames + 1 ≤ μ.1.frames ∧ 8 + (μ'.2.2.2.1 + 11) + μ'.1.locals ≤ μ.1.locals) ∧ (μ.2.2.2.2.2.1.1 + 0 ≤ μ.1.cells ∧ μ.2.2.2.2.2.1.2 + 0 ≤ μ.1.slots)
def NameOK (y : MethodName) (n : Nat) : Prop := y.cls ≠ "java/lang/invoke/MethodHandle" ∧ y.cls ≠ "java/lang/invoke/VarHandle" ∧ (parseMethodDescriptor y.desc).map (fun d => d.parameters.length) = some n
theorem call_V {Γ : Cx} {μ μ' : Mt} {y : MethodName} {sp : YSp} {i n ci N : Nat} {T : u_T} (hOk : Ok Γ y μ' sp) (hrv : Recv sp n ci) (hci : kcl[ci]? = some (y.cls, T, N)) (hc : Cond.code y μ'.2.2.1 μ'.2.2.2.1 μ'.2.2.2.2.1 ∈ BW)
    (h1 : Cond.methodLink μ.2.1 i y ∈ BW) (h2 : Cond.instanceMethod y ∈ BW) (h3 : Cond.selects y.cls y y ∈ BW) (h4 : Cond.initialized y.cls ∈ BW) (hN : NameOK y n) (hR : RoomOK μ μ') : CallOK Γ μ 0 i (n + 1) sp := by
  intro K pc lv st σ hd hcs hsp
  obtain ⟨b, As, fs, hav, hn, hb, hfs⟩ := hrv _ _ _ hsp
  have hst := take_rev hav
  rw [hav] at hsp
  generalize st.drop (n + 1) = rest at hst hcs hsp
  intro p e s m args below meth c H locs ls F B S hl
  obtain ⟨q0, hq⟩ := va_pl_get (X := []) (f := σ.2) hb
  rw [hfs] at hq
  have hwG : GoodIn BW (wsV μ.2.1 i y.cls y (wsm y μ')) := good_app (by
    intro w hw
    simp only [List.mem_cons, List.not_mem_nil, or_false] at hw
    rcases hw with rfl | rfl | rfl | rfl
    · exact h1
    · exact h2
    · exact h3
    · exact h4) (wsm_good hc)
  refine va_callk (va_runV (As := As) (rest := rest) (b := b) ⟨F.1, F.2.1, F.2.2.1, F.2.2.2.1, F.2.2.2.2.1⟩ (hOk _ σ _ hsp) (cwV n F.2.2.2.2.1 hwG rfl hR.1.1 hR.1.2 ⟨rfl, hN⟩ hR.2.1)
    ⟨pc_blind, va_recv F.2.2.2.2.2.2.2.1.1 B.1 hci hq, fun U hU hW => ⟨rfl, by rw [hU]; exact B, (by rw [hU]; exact (F.2.2.2.2.2.2.2.1.kept S.2.1).warm hW), fun q hq => F.2.2.2.2.2.2.2.2 q (Nat.le_trans S.1 (by rw [← hU]; exact hq))⟩⟩
    rfl hn hl.1 (by rw [hst]; simp) (csum_room hcs) hd hR.2.2) S (fun v σ' H1 locs1 hk hB hS' => ?_)
  exact hk p e s m args below meth c H1 locs1 ls F hB hS' hl
theorem call_S {Γ : Cx} {μ μ' : Mt} {y : MethodName} {sp : YSp} {i n : Nat} (hOk : Ok Γ y μ' sp) (hrv : Args sp n) (hc : Cond.code y μ'.2.2.1 μ'.2.2.2.1 μ'.2.2.2.2.1 ∈ BW)
    (h1 : Cond.methodLink μ.2.1 i y ∈ BW) (h2 : Cond.static y ∈ BW) (h4 : Cond.initialized y.cls ∈ BW) (hN : NameOK y n) (hR : RoomOK μ μ') : CallOK Γ μ 1 i n sp := by
  intro K pc lv st σ hd hcs hsp
  have hn := hrv _ _ _ hsp
  have hst := take_rev (st := st) (n := n) rfl
  generalize (st.take n).reverse = As at hst hsp hn
  generalize st.drop n = rest at hst hcs hsp
  intro p e s m args below meth c H locs ls F B S hl
  have hwG : GoodIn BW (va_wsS μ.2.1 i y (wsm y μ')) := good_app (by
    intro w hw
    simp only [List.mem_cons, List.not_mem_nil, or_false] at hw
    rcases hw with rfl | rfl | rfl
    · exact h1
    · exact h2
    · exact h4) (wsm_good hc)
  refine va_callk (va_runS (As := As) (rest := rest) ⟨F.1, F.2.1, F.2.2.1, F.2.2.2.1, F.2.2.2.2.1⟩ (hOk _ σ _ hsp) (va_cwS n F.2.2.2.2.1 hwG rfl hR.1.1 hR.1.2 hN hR.2.1)
    ⟨pc_blind, fun U hU hW => ⟨rfl, by rw [hU]; exact B, (by rw [hU]; exact (F.2.2.2.2.2.2.2.1.kept S.2.1).warm hW), fun q hq => F.2.2.2.2.2.2.2.2 q (Nat.le_trans S.1 (by rw [← hU]; exact hq))⟩⟩
    rfl hn hl.1 hst (csum_room hcs) hd hR.2.2) S (fun v σ' H1 locs1 hk hB hS' => ?_)
  exact hk p e s m args below meth c H1 locs1 ls F hB hS' hl
/-- a private static method of a nest mate -/
theorem call_SN {Γ : Cx} {μ μ' : Mt} {y : MethodName} {sp : YSp} {i n : Nat} {host : String} (hOk : Ok Γ y μ' sp) (hrv : Args sp n) (hc : Cond.code y μ'.2.2.1 μ'.2.2.2.1 μ'.2.2.2.2.1 ∈ BW)
    (h1 : Cond.methodLinkNest μ.2.1 i y host ∈ nestW) (h2 : Cond.static y ∈ BW) (h4 : Cond.initialized y.cls ∈ BW) (hN : NameOK y n) (hR : RoomOK μ μ') : CallOK Γ μ 1 i n sp := by
  intro K pc lv st σ hd hcs hsp
  have hn := hrv _ _ _ hsp
  have hst := take_rev (st := st) (n := n) rfl
  generalize (st.take n).reverse = As at hst hsp hn
  generalize st.drop n = rest at hst hcs hsp
  intro p e s m args below meth c H locs ls F B S hl
  refine va_callk (va_runSN (As := As) (rest := rest) ⟨F.1, F.2.1, F.2.2.1, F.2.2.2.1, F.2.2.2.2.1⟩ (hOk _ σ _ hsp) ⟨va_cnB n F.2.2.2.2.1 (wsm_good hc) rfl hR.1.1 hR.1.2 (F.2.2.2.2.2.2.2.1.2.1 _ h1) (F.2.2.2.2.1 _ h4) hN hR.2.1, F.2.2.2.2.1 _ h2, trivial⟩
    ⟨pc_blind, fun U hU hW => ⟨rfl, by rw [hU]; exact B, (by rw [hU]; exact (F.2.2.2.2.2.2.2.1.kept S.2.1).warm hW), fun q hq => F.2.2.2.2.2.2.2.2 q (Nat.le_trans S.1 (by rw [← hU]; exact hq))⟩⟩
    rfl hn hl.1 hst (csum_room hcs) hd hR.2.2) S (fun v σ' H1 locs1 hk hB hS' => ?_)
  exact hk p e s m args below meth c H1 locs1 ls F hB hS' hl
/-- a method that the receiver's class (number ci) has from the class of y -/
theorem call_U {Γ : Cx} {μ μ' : Mt} {x y : MethodName} {sp : YSp} {i n : Nat} (cis : List (Nat × String × u_T × Nat)) (hOk : Ok Γ y μ' sp) (hrv : ∀ (av : List Value) (σ : Hp) (K : Option Value → Hp → Prop), sp av σ K → ∃ (b : Nat) (As : List Value) (fs : List Value) (ci : Nat × String × u_T × Nat), ci ∈ cis ∧ av = .ref b :: As ∧ As.length = n ∧ b ∈ σ.1 ∧ σ.2 b = .inr (ci.1, fs)) (hci : ∀ ci ∈ cis, kcl[ci.1]? = some (ci.2.1, ci.2.2.1, ci.2.2.2) ∧ Cond.selects ci.2.1 x y ∈ BW) (hc : Cond.code y μ'.2.2.1 μ'.2.2.2.1 μ'.2.2.2.2.1 ∈ BW)
    (h1 : Cond.methodLink μ.2.1 i x ∈ BW) (h0 : Cond.sameMethod x.cls y.cls x.name x.desc ∈ BW) (h2 : Cond.instanceMethod y ∈ BW) (h4 : Cond.initialized y.cls ∈ BW) (hyx : y = ⟨y.cls, x.name, x.desc⟩) (hN : y.cls ≠ "java/lang/invoke/MethodHandle" ∧ y.cls ≠ "java/lang/invoke/VarHandle" ∧ (parseMethodDescriptor x.desc).map (fun d => d.parameters.length) = some n) (hR : RoomOK μ μ') : CallOK Γ μ 0 i (n + 1) sp := by
  intro K pc lv st σ hd hcs hsp
  obtain ⟨b, As, fs, ci, hin, hav, hn, hb, hfs⟩ := hrv _ _ _ hsp
  obtain ⟨hk0, h3⟩ := hci ci hin
  have hst := take_rev hav
  rw [hav] at hsp
  generalize st.drop (n + 1) = rest at hst hcs hsp
  intro p e s m args below meth c H locs ls F B S hl
  obtain ⟨q0, hq⟩ := va_pl_get (X := []) (f := σ.2) hb
  rw [hfs] at hq
  have hwG : GoodIn BW (va_wsU μ.2.1 i ci.2.1 y.cls x y (wsm y μ')) := good_app (by
    intro w hw
    simp only [List.mem_cons, List.not_mem_nil, or_false] at hw
    rcases hw with rfl | rfl | rfl | rfl | rfl
    · exact h1
    · exact h0
    · exact h3
    · exact h2
    · exact h4) (wsm_good hc)
  refine va_callk (va_runU (As := As) (rest := rest) (b := b) ⟨F.1, F.2.1, F.2.2.1, F.2.2.2.1, F.2.2.2.2.1⟩ (hOk _ σ _ hsp) (va_cwU n F.2.2.2.2.1 hwG rfl hR.1.1 hR.1.2 hyx hN hR.2.1)
    ⟨pc_blind, va_recv F.2.2.2.2.2.2.2.1.1 B.1 hk0 hq, fun U hU hW => ⟨rfl, by rw [hU]; exact B, (by rw [hU]; exact (F.2.2.2.2.2.2.2.1.kept S.2.1).warm hW), fun q hq => F.2.2.2.2.2.2.2.2 q (Nat.le_trans S.1 (by rw [← hU]; exact hq))⟩⟩
    rfl hn hl.1 (by rw [hst]; simp) (csum_room hcs) hd hR.2.2) S (fun v σ' H1 locs1 hk hB hS' => ?_)
  exact hk p e s m args below meth c H1 locs1 ls F hB hS' hl
/-- Math.min -/
def sp_min : YSp := fun av σ K => match av with | [.int x, .int y] => K (some (.int (if y < x then y else x))) σ | _ => False
theorem mono_min : Mono sp_min := by
  intro av σ K K' hk h
  unfold sp_min at h ⊢
  split at h
  · exact hk _ _ h
  · exact h.elim
theorem call_min {Γ : Cx} {μ : Mt} {i : Nat} (h1 : Cond.methodLink μ.2.1 i Lib.Math.min.name ∈ BW) (h2 : Cond.static Lib.Math.min.name ∈ BW) (h3 : Cond.initialized "java/lang/Math" ∈ BW) (h4 : Cond.code Lib.Math.min.name Lib.Math.min.code 2 (some .int) ∈ BW)
    (hR : 1 ≤ μ.1.frames ∧ 21 ≤ μ.1.locals ∧ μ.2.2.2.2.2.1.1 ≤ μ.1.cells ∧ μ.2.2.2.2.2.1.2 ≤ μ.1.slots) : CallOK Γ μ 1 i 2 sp_min := by
  intro K pc lv st σ hd hcs hsp
  have hst := take_rev (st := st) (n := 2) rfl
  generalize (st.take 2).reverse = As at hst hsp
  generalize st.drop 2 = rest at hst hcs hsp
  unfold sp_min at hsp
  split at hsp
  · next x y =>
    subst hst
    intro p e s m args below meth c H locs ls F B S hl
    exact va_mmin F.1 F.2.1 (F.2.2.1.trans hl.1.symm) F.2.2.2.1 (F.2.2.2.2.1 _ h1) (F.2.2.2.2.1 _ h2) (F.2.2.2.2.1 _ h3) (F.2.2.2.2.1 _ h4) hR.1 (by rw [csum_cat]; show csum rest + 13 ≤ _; omega) hR.2.2.1 hR.2.2.2 hd (hsp p e s m args below meth c H locs ls F B S hl)
  · exact hsp.elim
/-- System.arraycopy of ints, of longs -/
def sp_cpyI (Γ : Cx) : YSp := fun av σ K => match av with
  | [.ref a, .int i, .ref b, .int j, .int n] => arI Γ σ a fun n0 f => arI Γ σ b fun n1 g => (¬ i < 0 ∧ ¬ j < 0 ∧ ¬ n < 0 ∧ i.toNatClampNeg + n.toNatClampNeg ≤ n0 ∧ j.toNatClampNeg + n.toNatClampNeg ≤ n1) ∧ K none (hput σ b (.inl (Γ.2.2.2.1 0, n1, .inl (va_cpy f g i.toNatClampNeg j.toNatClampNeg n.toNatClampNeg))))
  | _ => False
def sp_cpyL (Γ : Cx) : YSp := fun av σ K => match av with
  | [.ref a, .int i, .ref b, .int j, .int n] => arL Γ σ a fun n0 f => arL Γ σ b fun n1 g => (¬ i < 0 ∧ ¬ j < 0 ∧ ¬ n < 0 ∧ i.toNatClampNeg + n.toNatClampNeg ≤ n0 ∧ j.toNatClampNeg + n.toNatClampNeg ≤ n1) ∧ K none (hput σ b (.inl (Γ.2.2.2.1 1, n1, .inr (.inl (va_cpy f g i.toNatClampNeg j.toNatClampNeg n.toNatClampNeg)))))
  | _ => False
theorem arI_mono {Γ : Cx} {σ : Hp} {a : Nat} {k k' : Nat → (Nat → Int32) → Prop} (hk : ∀ n f, k n f → k' n f) (h : arI Γ σ a k) : arI Γ σ a k' := by
  obtain ⟨h1, h2⟩ := h
  refine ⟨h1, ?_⟩
  split at h2
  · next e0 => exact ⟨h2.1, hk _ _ h2.2⟩
  · exact h2.elim
theorem arL_mono {Γ : Cx} {σ : Hp} {a : Nat} {k k' : Nat → (Nat → Int64) → Prop} (hk : ∀ n f, k n f → k' n f) (h : arL Γ σ a k) : arL Γ σ a k' := by
  obtain ⟨h1, h2⟩ := h
  refine ⟨h1, ?_⟩
  split at h2
  · next e0 => exact ⟨h2.1, hk _ _ h2.2⟩
  · exact h2.elim
theorem mono_cpyI {Γ : Cx} : Mono (sp_cpyI Γ) := by
  intro av σ K K' hk h
  unfold sp_cpyI at h ⊢
  split at h
  · exact arI_mono (fun _ _ h => arI_mono (fun _ _ h => ⟨h.1, hk _ _ h.2⟩) h) h
  · exact h.elim
theorem mono_cpyL {Γ : Cx} : Mono (sp_cpyL Γ) := by
  intro av σ K K' hk h
  unfold sp_cpyL at h ⊢
  split at h
  · exact arL_mono (fun _ _ h => arL_mono (fun _ _ h => ⟨h.1, hk _ _ h.2⟩) h) h
  · exact h.elim
theorem call_cpyI {Γ : Cx} {μ : Mt} {i : Nat} (h1 : Cond.methodLink μ.2.1 i arraycopyName ∈ BW) (h2 : Cond.native arraycopyName ∈ BW) (h3 : Cond.static arraycopyName ∈ BW) (h4 : Cond.initialized "java/lang/System" ∈ BW)
    (hR : 1 ≤ μ.1.frames ∧ 8 + (nativeFrameWords "java/lang/System" "arraycopy" 5 + 11) ≤ μ.1.locals) : CallOK Γ μ 1 i 5 (sp_cpyI Γ) := by
  intro K pc lv st σ hd hcs hsp
  have hst := take_rev (st := st) (n := 5) rfl
  generalize (st.take 5).reverse = As at hst hsp
  generalize st.drop 5 = rest at hst hcs hsp
  unfold sp_cpyI at hsp
  split at hsp
  · next a sp b dp n =>
    subst hst
    obtain ⟨ha, hsp⟩ := hsp
    split at hsp
    · next cA n0 f e0 =>
      obtain ⟨rfl, hb, hsp⟩ := hsp
      split at hsp
      · next cB n1 g e1 =>
        obtain ⟨rfl, ⟨g1, g2, g3, g4, g5⟩, hsp⟩ := hsp
        intro p e s m args below meth c H locs ls F B S hl
        obtain ⟨q0, hq0⟩ := va_pl_get (X := []) (f := σ.2) ha
        obtain ⟨q1, hq1⟩ := va_pl_get (X := []) (f := σ.2) hb
        have hset := va_pl_set (X := []) (e := .inl (Γ.2.2.2.1 0, n1, .inl (va_cpy f g sp.toNatClampNeg dp.toNatClampNeg n.toNatClampNeg))) B.2 hb hq1
        rw [e0] at hq0
        rw [e1] at hq1
        refine va_copyi F.1 F.2.1 (F.2.2.1.trans hl.1.symm) F.2.2.2.1 (F.2.2.2.2.1 _ h1) (F.2.2.2.2.1 _ h2) (F.2.2.2.2.1 _ h3) (F.2.2.2.2.1 _ h4) F.2.2.2.2.2.2.2.1.1 B.1 B.2 S q0 q1 0 0 hq0 hq1 rfl rfl rfl g1 g2 g3 g4 g5 (fun _ _ => rfl) hR.1 (by rw [csum_cat]; show csum rest + _ ≤ _; omega) hd (fun H1 locs1 hP1 hD1 hS1 => ?_)
        simp only [List.nil_append] at hset
        rw [hset] at hP1 hD1
        exact hsp p e s m args below meth c H1 locs1 ls F ⟨hP1, hD1⟩ hS1 hl
      · exact hsp.elim
    · exact hsp.elim
  · exact hsp.elim
theorem call_cpyL {Γ : Cx} {μ : Mt} {i : Nat} (h1 : Cond.methodLink μ.2.1 i arraycopyName ∈ BW) (h2 : Cond.native arraycopyName ∈ BW) (h3 : Cond.static arraycopyName ∈ BW) (h4 : Cond.initialized "java/lang/System" ∈ BW)
    (hR : 1 ≤ μ.1.frames ∧ 8 + (nativeFrameWords "java/lang/System" "arraycopy" 5 + 11) ≤ μ.1.locals) : CallOK Γ μ 1 i 5 (sp_cpyL Γ) := by
  intro K pc lv st σ hd hcs hsp
  have hst := take_rev (st := st) (n := 5) rfl
  generalize (st.take 5).reverse = As at hst hsp
  generalize st.drop 5 = rest at hst hcs hsp
  unfold sp_cpyL at hsp
  split at hsp
  · next a sp b dp n =>
    subst hst
    obtain ⟨ha, hsp⟩ := hsp
    split at hsp
    · next cA n0 f e0 =>
      obtain ⟨rfl, hb, hsp⟩ := hsp
      split at hsp
      · next cB n1 g e1 =>
        obtain ⟨rfl, ⟨g1, g2, g3, g4, g5⟩, hsp⟩ := hsp
        intro p e s m args below meth c H locs ls F B S hl
        obtain ⟨q0, hq0⟩ := va_pl_get (X := []) (f := σ.2) ha
        obtain ⟨q1, hq1⟩ := va_pl_get (X := []) (f := σ.2) hb
        have hset := va_pl_set (X := []) (e := .inl (Γ.2.2.2.1 1, n1, .inr (.inl (va_cpy f g sp.toNatClampNeg dp.toNatClampNeg n.toNatClampNeg)))) B.2 hb hq1
        rw [e0] at hq0
        rw [e1] at hq1
        refine va_copyl F.1 F.2.1 (F.2.2.1.trans hl.1.symm) F.2.2.2.1 (F.2.2.2.2.1 _ h1) (F.2.2.2.2.1 _ h2) (F.2.2.2.2.1 _ h3) (F.2.2.2.2.1 _ h4) F.2.2.2.2.2.2.2.1.1 B.1 B.2 S q0 q1 1 1 hq0 hq1 rfl rfl rfl g1 g2 g3 g4 g5 (fun _ _ => rfl) hR.1 (by rw [csum_cat]; show csum rest + _ ≤ _; omega) hd (fun H1 locs1 hP1 hD1 hS1 => ?_)
        simp only [List.nil_append] at hset
        rw [hset] at hP1 hD1
        exact hsp p e s m args below meth c H1 locs1 ls F ⟨hP1, hD1⟩ hS1 hl
      · exact hsp.elim
    · exact hsp.elim
  · exact hsp.elim
/-! tables as lists -/
def fT (t : List ((Nat × Nat) × Nat × Nat)) (i ci : Nat) : Option (Nat × Nat) := (t.find? (fun q => q.1.1 == i && q.1.2 == ci)).map (fun q => q.2)
theorem fT_ok {own : String} {t : List ((Nat × Nat) × Nat × Nat)} (h : ∀ q ∈ t, FieldOK own q.1.1 q.1.2 q.2.1 q.2.2) : ∀ i ci k b : Nat, fT t i ci = some (k, b) → FieldOK own i ci k b := by
  intro i ci k b he
  unfold fT at he
  cases hf : t.find? (fun q => q.1.1 == i && q.1.2 == ci) with
  | none => rw [hf] at he; cases he
  | some q =>
    rw [hf] at he
    have h1 := List.find?_some hf
    have h2 := h q (List.mem_of_find?_eq_some hf)
    simp only [Bool.and_eq_true, beq_iff_eq] at h1
    have h3 : q.2 = (k, b) := Option.some.inj he
    rw [h1.1, h1.2, h3] at h2
    exact h2
def cT (t : List (Nat × (Int32 ⊕ Int64))) (i : Nat) : Option (Int32 ⊕ Int64) := (t.find? (fun q => q.1 == i)).map (fun q => q.2)
def conOK (own : String) (q : Nat × (Int32 ⊕ Int64)) : Prop := match q.2 with | .inl v => Cond.constant own q.1 v ∈ BW | .inr v => Cond.constantLong own q.1 v ∈ BW
theorem cT_ok {own : String} {t : List (Nat × (Int32 ⊕ Int64))} (h : ∀ q ∈ t, conOK own q) {i : Nat} {v : Int32 ⊕ Int64} (he : cT t i = some v) : conOK own (i, v) := by
  unfold cT at he
  cases hf : t.find? (fun q => q.1 == i) with
  | none => rw [hf] at he; cases he
  | some q =>
    rw [hf] at he
    have h1 := List.find?_some hf
    have h2 := h q (List.mem_of_find?_eq_some hf)
    simp only [beq_iff_eq] at h1
    have h3 : q.2 = v := Option.some.inj he
    rw [← h1, ← h3]
    exact h2
def kT (t : List ((Nat × Nat) × Nat × Bool × YSp)) (kd i : Nat) : Option (Nat × Bool × YSp) := (t.find? (fun q => q.1.1 == kd && q.1.2 == i)).map (fun q => q.2)
theorem kT_ok {Γ : Cx} {μ : Mt} {t : List ((Nat × Nat) × Nat × Bool × YSp)} (h : ∀ q ∈ t, CallOK Γ μ q.1.1 q.1.2 q.2.1 q.2.2.2 ∧ (q.2.2.1 = true → Mono q.2.2.2)) : ∀ (kd i n : Nat) (o : Bool) (sp : YSp), kT t kd i = some (n, o, sp) → CallOK Γ μ kd i n sp ∧ (o = true → Mono sp) := by
  intro kd i n o sp he
  unfold kT at he
  cases hf : t.find? (fun q => q.1.1 == kd && q.1.2 == i) with
  | none => rw [hf] at he; cases he
  | some q =>
    rw [hf] at he
    have h1 := List.find?_some hf
    have h2 := h q (List.mem_of_find?_eq_some hf)
    simp only [Bool.and_eq_true, beq_iff_eq] at h1
    have h3 : q.2 = (n, o, sp) := Option.some.inj he
    rw [h1.1, h1.2, h3] at h2
    exact h2
theorem tb_ok {Γ : Cx} {μ : Mt} {f : List ((Nat × Nat) × Nat × Nat)} {k : List (Nat × (Int32 ⊕ Int64))} {t : List ((Nat × Nat) × Nat × Bool × YSp)} (hf : ∀ q ∈ f, FieldOK μ.2.1 q.1.1 q.1.2 q.2.1 q.2.2) (hk : ∀ q ∈ k, conOK μ.2.1 q) (ht : ∀ q ∈ t, CallOK Γ μ q.1.1 q.1.2 q.2.1 q.2.2.2 ∧ (q.2.2.1 = true → Mono q.2.2.2)) : TbOK Γ μ (fT f, cT k, kT t) :=
  ⟨trivial, fun i v h => cT_ok hk h, fun i v h => cT_ok hk h, fT_ok hf, kT_ok ht⟩
theorem all_nil {α : Type} {P : α → Prop} : ∀ q ∈ ([] : List α), P q := fun _ h => absurd h List.not_mem_nil
theorem all_cons {α : Type} {P : α → Prop} {a : α} {l : List α} (h : P a) (t : ∀ q ∈ l, P q) : ∀ q ∈ a :: l, P q := List.forall_mem_cons.mpr ⟨h, t⟩
/-- Math.max -/
def sp_max : YSp := fun av σ K => match av with | [.int x, .int y] => K (some (.int (if x < y then y else x))) σ | _ => False
theorem mono_max : Mono sp_max := by
  intro av σ K K' hk h
  unfold sp_max at h ⊢
  split at h
  · exact hk _ _ h
  · exact h.elim
theorem call_max {Γ : Cx} {μ : Mt} {i : Nat} (h1 : Cond.methodLink μ.2.1 i Lib.Math.max.name ∈ BW) (h2 : Cond.static Lib.Math.max.name ∈ BW) (h3 : Cond.initialized "java/lang/Math" ∈ BW) (h4 : Cond.code Lib.Math.max.name Lib.Math.max.code 2 (some .int) ∈ BW)
    (hR : 1 ≤ μ.1.frames ∧ 21 ≤ μ.1.locals ∧ μ.2.2.2.2.2.1.1 ≤ μ.1.cells ∧ μ.2.2.2.2.2.1.2 ≤ μ.1.slots) : CallOK Γ μ 1 i 2 sp_max := by
  intro K pc lv st σ hd hcs hsp
  have hst := take_rev (st := st) (n := 2) rfl
  generalize (st.take 2).reverse = As at hst hsp
  generalize st.drop 2 = rest at hst hcs hsp
  unfold sp_max at hsp
  split at hsp
  · next x y =>
    subst hst
    intro p e s m args below meth c H locs ls F B S hl
    exact va_mmax F.1 F.2.1 (F.2.2.1.trans hl.1.symm) F.2.2.2.1 (F.2.2.2.2.1 _ h1) (F.2.2.2.2.1 _ h2) (F.2.2.2.2.1 _ h3) (F.2.2.2.2.1 _ h4) hR.1 (by rw [csum_cat]; show csum rest + 13 ≤ _; omega) hR.2.2.1 hR.2.2.2 hd (hsp p e s m args below meth c H locs ls F B S hl)
  · exact hsp.elim
/-- a call on the String constant -/
def RecvS (Γ : Cx) (sp : YSp) (n : Nat) : Prop := ∀ (av : List Value) (σ : Hp) (K : Option Value → Hp → Prop), sp av σ K → ∃ As : List Value, av = .ref Γ.2.2.2.2.1 :: As ∧ As.length = n
theorem call_VS {Γ : Cx} {μ μ' : Mt} {y : MethodName} {sp : YSp} {i n : Nat} (hyc : y.cls = RJ0) (hOk : Ok Γ y μ' sp) (hrv : RecvS Γ sp n) (hc : Cond.code y μ'.2.2.1 μ'.2.2.2.1 μ'.2.2.2.2.1 ∈ BW)
    (h1 : Cond.methodLink μ.2.1 i y ∈ BW) (h2 : Cond.instanceMethod y ∈ BW) (h3 : Cond.selects RJ0 y y ∈ BW) (h4 : Cond.initialized RJ0 ∈ BW) (hN : NameOK y n) (hR : RoomOK μ μ') : CallOK Γ μ 0 i (n + 1) sp := by
  intro K pc lv st σ hd hcs hsp
  obtain ⟨As, hav, hn⟩ := hrv _ _ _ hsp
  have hst := take_rev hav
  rw [hav] at hsp
  generalize st.drop (n + 1) = rest at hst hcs hsp
  intro p e s m args below meth c H locs ls F B S hl
  have hwG : GoodIn BW (wsV μ.2.1 i RJ0 y (wsm y μ')) := good_app (by
    intro w hw
    simp only [List.mem_cons, List.not_mem_nil, or_false] at hw
    rcases hw with rfl | rfl | rfl | rfl
    · exact h1
    · exact h2
    · exact h3
    · exact h4) (wsm_good hc)
  refine va_callk (va_runV (As := As) (rest := rest) (b := Γ.2.2.2.2.1) ⟨F.1, F.2.1, F.2.2.1, F.2.2.2.1, F.2.2.2.2.1⟩ (hOk _ σ _ hsp) (cwV n F.2.2.2.2.1 hwG rfl hR.1.1 hR.1.2 ⟨hyc, hN⟩ hR.2.1)
    ⟨pc_blind, vk_recv (i := 0) F.2.2.2.2.2.2.2.1.2.2.2.1 (by decide) S, fun U hU hW => ⟨rfl, by rw [hU]; exact B, (by rw [hU]; exact (F.2.2.2.2.2.2.2.1.kept S.2.1).warm hW), fun q hq => F.2.2.2.2.2.2.2.2 q (Nat.le_trans S.1 (by rw [← hU]; exact hq))⟩⟩
    rfl hn hl.1 (by rw [hst]; simp) (csum_room hcs) hd hR.2.2) S (fun v σ' H1 locs1 hk hB hS' => ?_)
  exact hk p e s m args below meth c H1 locs1 ls F hB hS' hl
