/-! ===== THE FRAME: one judgement G for a point of a method, 'ystep' for an instruction, 'yvc' for a run of instructions ===== -/
abbrev kcl : List vw_C := [(RX0, TX0, 9), (RX1, TX1, 5), (RX2, TX2, 2), (RX3, TX3, 3), (RX4, TX4, 3), (RX5, TX5, 3), (RX6, TX6, 9), (RX7, TX7, 26)]
/-- the words that hold all along -/
def BW : List Cond := lw_tbl.filter goodWord
theorem bw_good : GoodIn BW BW := fun w h => ⟨h, good_of_word (List.mem_filter.mp h).2⟩
theorem bw_i {w : Cond} (i : Nat) (h : lw_tbl[i]? = some w) (hg : goodWord w = true) : w ∈ BW := List.mem_filter.mpr ⟨List.mem_of_getElem? h, hg⟩
theorem bw_1070 : Cond.fieldLink RJ0 15 "java/lang/String" "coder" "B" ∈ BW := bw_i 1070 (by decide +kernel) (by decide +kernel)
theorem bw_1071 : Cond.fieldLink RJ0 9 "java/lang/String" "value" "[B" ∈ BW := bw_i 1071 (by decide +kernel) (by decide +kernel)
theorem bw_367 : Cond.fieldLink RJ0 38 "java/lang/String" "COMPACT_STRINGS" "Z" ∈ BW := bw_i 367 (by decide +kernel) (by decide +kernel)
/-- launch, numbers of classes and slots, own cells, array classes (0 int, 1 long, 2 Moment, 3 Sheet), the String constant and its bytes, the script: its cell, length, contents -/
abbrev Cx : Type := Launch × va_G × (Nat → Prop) × (Nat → ClassId) × Nat × Nat × Nat × Nat × (Nat → Int32)
def tysC (ca : Nat → ClassId) : List (ClassId × FieldType) := [(ca 0, .int), (ca 1, .long), (ca 2, .object RX1), (ca 3, .object RX4)]
def nestW : List Cond := lw_tbl.filter (fun w => match w with | .methodLinkNest _ _ _ _ => true | _ => false)
/-- what holds of the tables and of the cells that are not ours -/
def EV (Γ : Cx) (U : State) (H : Heap) : Prop :=
  va_K Γ.2.1 kcl (tysC Γ.2.2.2.1) U ∧ (∀ w ∈ nestW, va_Nw w U) ∧ vk_R RX5 58 "dcolb" Γ.2.2.2.2.1 U ∧ vk_S 1 [5] [[100, 99, 111, 108, 98]] (fun _ => Γ.2.2.2.2.1) (fun _ => Γ.2.2.2.2.2.1) Γ.2.2.1 U H ∧ va_Z "java/lang/String" "COMPACT_STRINGS" "Z" (.int 1) Γ.2.2.1 U H ∧ va_X Γ.2.2.2.2.2.2.1 Γ.2.2.2.2.2.2.2.1 Γ.2.2.2.2.2.2.2.2 U H ∧ ¬ Γ.2.2.1 Γ.2.2.2.2.2.2.1
theorem nest_warm {w : Cond} (hw : w ∈ nestW) {s U : State} (hW : s.WarmedH U.vm) (h : va_Nw w s) : va_Nw w U := by
  have h1 := (List.mem_filter.mp hw).2
  cases w <;> first | exact va_Nw.warmM hW h | exact absurd h1 (by simp)
theorem nest_same {w : Cond} (hw : w ∈ nestW) {s U : State} (hv : s.vm = U.vm) (h : va_Nw w s) : va_Nw w U := by
  have h1 := (List.mem_filter.mp hw).2
  cases w <;> first | exact va_Nw.same rfl hv h | exact absurd h1 (by simp)
theorem EV.warm {Γ : Cx} {s U : State} {H : Heap} (hW : s.WarmedH U.vm) (h : EV Γ s H) : EV Γ U H :=
  ⟨va_K.moved hW.alike h.1, fun w hw => nest_warm hw hW (h.2.1 w hw), h.2.2.1.warm hW, h.2.2.2.1.moved hW.alike, h.2.2.2.2.1.moved hW.alike, h.2.2.2.2.2.1.moved hW.alike, h.2.2.2.2.2.2⟩
theorem EV.same {Γ : Cx} {s U : State} {H : Heap} (hv : s.vm = U.vm) (h : EV Γ s H) : EV Γ U H := by
  have hal : s.vm.Alike U.vm := by rw [hv]; exact Vm.Alike.refl _
  exact ⟨va_K.moved hal h.1, fun w hw => nest_same hw hv (h.2.1 w hw), h.2.2.1.same hv.symm, h.2.2.2.1.moved hal, h.2.2.2.2.1.moved hal, h.2.2.2.2.2.1.moved hal, h.2.2.2.2.2.2⟩
theorem EV.kept {Γ : Cx} {U : State} {H H1 : Heap} (h : EV Γ U H) (hq : ∀ q : Nat, q < H.size → ¬ Γ.2.2.1 q → H1[q]? = H[q]?) : EV Γ U H1 := by
  refine ⟨h.1, h.2.1, h.2.2.1, h.2.2.2.1.kept hq, h.2.2.2.2.1.kept hq, h.2.2.2.2.2.1.kept ?_, h.2.2.2.2.2.2⟩
  obtain ⟨scr, hb, -⟩ := h.2.2.2.2.2.1
  exact hq _ (Array.getElem?_eq_some_iff.mp hb).1 h.2.2.2.2.2.2
/-- our cells: their addresses, and what stands at each -/
abbrev Hp : Type := List Nat × (Nat → va_E)
abbrev YSp : Type := List Value → Hp → (Option Value → Hp → Prop) → Prop
/-- a method: room, class, bytes, locals, kind of answer, cells and slots made, none: an own method, some true: the law, some false: one of the String constant's -/
abbrev Mt : Type := Room × String × ByteArray × Nat × Option FieldType × (Nat × Nat) × Option Bool
/-- its tables: fields by entry and class (place; 0 read only, 1 int, 2 boolean), constants, calls (how many arguments, gone on at once, spec) -/
abbrev Tb : Type := (Nat → Nat → Option (Nat × Nat)) × (Nat → Option (Int32 ⊕ Int64)) × (Nat → Nat → Option (Nat × Bool × YSp))
abbrev Lv : Type := List (Nat × Value)
def Bq (Γ : Cx) (σ : Hp) (H : Heap) : Prop := va_P Γ.2.1 kcl (va_pl σ.1 σ.2) H ∧ va_D Γ.2.2.1 (va_pl σ.1 σ.2)
def Qk (Γ : Cx) (K : Option Value → Hp → Prop) : Array Value → State → Outcome → State → Prop := fun _ st oc t => (∃ (v : Option Value) (σ : Hp), oc = .returned v ∧ K v σ ∧ Bq Γ σ t.heap) ∧ va_F Γ.2.2.1 st t
def Fx (Γ : Cx) (μ : Mt) (p : Program) (s : State) (m : MethodId) (args : Array Value) (meth : Method) (c : Code) : Prop :=
  p.tables.exec = Jvm.exec ∧ c.code = μ.2.2.1 ∧ c.maxLocals = μ.2.2.2.1 ∧ s.vm.findClass μ.2.1 = some m.cls ∧ (∀ w ∈ BW, w.before args s = true) ∧ meth.sig.returnType = μ.2.2.2.2.1 ∧ meth.locks = false ∧ EV Γ s s.heap ∧ (∀ q, s.heap.size ≤ q → Γ.2.2.1 q)
def YG (Γ : Cx) (μ : Mt) (K : Option Value → Hp → Prop) (pc : Nat) (lv : Lv) (st : List Value) (σ : Hp) : Prop :=
  ∀ (p : Program) (e : Env) (s : State) (m : MethodId) (args : Array Value) (below : List Frame) (meth : Method) (c : Code) (H : Heap) (locs : List Loc) (ls : Array Slot),
    Fx Γ μ p s m args meth c → Bq Γ σ H → va_S Γ.2.2.1 s.heap H locs → lv_has ls μ.2.2.2.1 lv →
    W p Γ.1 e μ.1 s m args below meth c H locs μ.2.2.2.2.2.1.1 μ.2.2.2.2.2.1.2 (MQ below (Qk Γ K) args s μ.2.2.2.2.2.1.1 μ.2.2.2.2.2.1.2 Γ.2.2.1) (F0 m pc ls st)
/-! locals -/
def isL : Value → Bool
  | .long _ => true
  | .double _ => true
  | _ => false
def lg : Lv → Nat → Option Value
  | [], _ => none
  | (j, v) :: r, i => if j = i then some v else lg r i
def ldel : Lv → Nat → Lv
  | [], _ => []
  | (j, w) :: r, i => if j = i ∨ (j + 1 = i ∧ isL w = true) then ldel r i else (j, w) :: ldel r i
def lput : Lv → Nat → Value → Lv
  | [], i, v => [(i, v)]
  | (j, w) :: r, i, v => if j = i then (i, v) :: ldel r i else if j + 1 = i ∧ isL w = true then lput r i v else (j, w) :: lput r i v
theorem lg_mem : ∀ {lv : Lv} {i : Nat} {v : Value}, lg lv i = some v → (i, v) ∈ lv
  | [], i, v, h => by simp [lg] at h
  | (j, w) :: r, i, v, h => by
    unfold lg at h
    split at h
    · next e => cases h; subst e; exact List.mem_cons_self
    · exact List.mem_cons_of_mem _ (lg_mem h)
theorem lg_at {ls : Array Slot} {nL : Nat} {lv : Lv} {i : Nat} {v : Value} (hl : lv_has ls nL lv) (h : lg lv i = some v) : ls[i]? = some (.val v) := hl.2.2 (i, v) (lg_mem h)
theorem lg_ix {lv : Lv} {i : Nat} {v : Value} (h : lg lv i = some v) : ∃ k : Nat, lv[k]? = some (i, v) := List.getElem?_of_mem (lg_mem h)
theorem isL_cat {v : Value} (h : isL v = false) : v.category = 1 := by cases v <;> first | rfl | simp [isL] at h
theorem isL_cat2 {v : Value} (h : v.category = 2) : isL v = true := by cases v <;> first | rfl | simp [Value.category] at h
theorem ldel_mem : ∀ {lv : Lv} {i : Nat} {q : Nat × Value}, q ∈ ldel lv i → q ∈ lv ∧ ¬ q.1 = i ∧ ¬ (q.1 + 1 = i ∧ isL q.2 = true)
  | [], i, q, h => by simp [ldel] at h
  | (j, w) :: r, i, q, h => by
    unfold ldel at h
    split at h
    · obtain ⟨a, b⟩ := ldel_mem h
      exact ⟨List.mem_cons_of_mem _ a, b⟩
    · next e =>
      rcases List.mem_cons.mp h with rfl | h
      · exact ⟨List.mem_cons_self, fun z => e (Or.inl z), fun z => e (Or.inr z)⟩
      · obtain ⟨a, b⟩ := ldel_mem h
        exact ⟨List.mem_cons_of_mem _ a, b⟩
theorem lput_mem : ∀ {lv : Lv} {i : Nat} {v : Value} {q : Nat × Value}, q ∈ lput lv i v → q = (i, v) ∨ (q ∈ lv ∧ ¬ q.1 = i ∧ ¬ (q.1 + 1 = i ∧ isL q.2 = true))
  | [], i, v, q, h => by simp [lput] at h; exact Or.inl h
  | (j, w) :: r, i, v, q, h => by
    unfold lput at h
    split at h
    · rcases List.mem_cons.mp h with rfl | h
      · exact Or.inl rfl
      · obtain ⟨a, b⟩ := ldel_mem h
        exact Or.inr ⟨List.mem_cons_of_mem _ a, b⟩
    · next e =>
      split at h
      · rcases lput_mem h with a | ⟨a, b⟩
        · exact Or.inl a
        · exact Or.inr ⟨List.mem_cons_of_mem _ a, b⟩
      · next e2 =>
        rcases List.mem_cons.mp h with rfl | h
        · exact Or.inr ⟨List.mem_cons_self, e, e2⟩
        · rcases lput_mem h with a | ⟨a, b⟩
          · exact Or.inl a
          · exact Or.inr ⟨List.mem_cons_of_mem _ a, b⟩
theorem lv_mono {ls : Array Slot} {nL : Nat} {l l' : Lv} (h : lv_has ls nL l) (hs : ∀ q ∈ l', q ∈ l) : lv_has ls nL l' := ⟨h.1, h.2.1, fun q hq => h.2.2 q (hs q hq)⟩
theorem lput_has {ls : Array Slot} {nL : Nat} {lv : Lv} {i : Nat} {v : Value} (h : lv_has ls nL ((i, v) :: lv.filter (fun q => !(q.1 == i) && !(q.1 + 1 == i && q.2.category == 2)))) : lv_has ls nL (lput lv i v) := by
  refine lv_mono h (fun q hq => ?_)
  rcases lput_mem hq with rfl | ⟨a, b, d⟩
  · exact List.mem_cons_self
  · refine List.mem_cons_of_mem _ (List.mem_filter.mpr ⟨a, ?_⟩)
    have h2 : ¬ (q.1 + 1 = i ∧ q.2.category = 2) := fun z => d ⟨z.1, isL_cat2 z.2⟩
    simp only [Bool.and_eq_true, Bool.not_eq_true', beq_eq_false_iff_ne, ne_eq, Bool.and_eq_false_iff]
    refine ⟨b, ?_⟩
    by_cases e1 : q.1 + 1 = i
    · exact Or.inr fun z => h2 ⟨e1, z⟩
    · exact Or.inl e1
theorem YG.sub {Γ : Cx} {μ : Mt} {K : Option Value → Hp → Prop} {pc : Nat} {lv lv' : Lv} {st : List Value} {σ : Hp} (h : YG Γ μ K pc lv' st σ) (hs : ∀ q ∈ lv', q ∈ lv) : YG Γ μ K pc lv st σ :=
  fun p e s m args below meth c H locs ls F B S hl => h p e s m args below meth c H locs ls F B S (lv_mono hl hs)
/-! the stack -/
def s1i (st : List Value) (k : Int32 → List Value → Prop) : Prop := match st with | .int x :: r => k x r | _ => False
def s2i (st : List Value) (k : Int32 → Int32 → List Value → Prop) : Prop := match st with | .int y :: .int x :: r => k x y r | _ => False
def s1l (st : List Value) (k : Int64 → List Value → Prop) : Prop := match st with | .long x :: r => k x r | _ => False
def s2l (st : List Value) (k : Int64 → Int64 → List Value → Prop) : Prop := match st with | .long y :: .long x :: r => k x y r | _ => False
def sil (st : List Value) (k : Int64 → Int32 → List Value → Prop) : Prop := match st with | .int y :: .long x :: r => k x y r | _ => False
def s1r (st : List Value) (k : Nat → List Value → Prop) : Prop := match st with | .ref a :: r => k a r | _ => False
def sir (st : List Value) (k : Nat → Int32 → List Value → Prop) : Prop := match st with | .int i :: .ref a :: r => k a i r | _ => False
def siir (st : List Value) (k : Nat → Int32 → Int32 → List Value → Prop) : Prop := match st with | .int x :: .int i :: .ref a :: r => k a i x r | _ => False
def slir (st : List Value) (k : Nat → Int32 → Int64 → List Value → Prop) : Prop := match st with | .long x :: .int i :: .ref a :: r => k a i x r | _ => False
def srir (st : List Value) (k : Nat → Int32 → Nat → List Value → Prop) : Prop := match st with | .ref v :: .int i :: .ref a :: r => k a i v r | _ => False
def svr (st : List Value) (k : Nat → Int32 → List Value → Prop) : Prop := match st with | .int x :: .ref a :: r => k a x r | _ => False
def sd1 (st : List Value) (k : Value → List Value → Prop) : Prop := match st with | v :: r => isL v = false ∧ k v r | _ => False
def sd2 (st : List Value) (k : Value → Value → List Value → Prop) : Prop := match st with | v :: w :: r => isL v = false ∧ isL w = false ∧ k v w r | _ => False
def csum : List Value → Nat
  | [] => 0
  | .long _ :: r => 2 + csum r
  | .double _ :: r => 2 + csum r
  | .int _ :: r => 1 + csum r
  | .ref _ :: r => 1 + csum r
  | _ :: r => 1 + csum r
theorem csum_cat : ∀ st : List Value, (st.map fun v => v.category).sum = csum st
  | [] => rfl
  | v :: r => by
    have h := csum_cat r
    cases v <;> simp only [List.map_cons, List.sum_cons, csum, h] <;> rfl
def tgo (pc : Nat) (off : Int) : Option Nat := if 0 ≤ (pc : Int) + off then some ((pc : Int) + off).toNat else none
theorem tgo_spec {pc t : Nat} {off : Int} (h : tgo pc off = some t) : (pc : Int) + off = (t : Int) := by
  unfold tgo at h
  split at h
  · cases h; omega
  · cases h
def jmp (pc : Nat) (off : Int) (k : Nat → Prop) : Prop := match tgo pc off with | some t => k t | none => False
theorem jmp_spec {pc : Nat} {off : Int} {k : Nat → Prop} (h : jmp pc off k) : ∃ t : Nat, (pc : Int) + off = (t : Int) ∧ k t := by
  unfold jmp at h
  split at h
  · next t e => exact ⟨t, tgo_spec e, h⟩
  · exact h.elim
/-! the heap's cells -/
def obj (σ : Hp) (a : Nat) (k : Nat → List Value → Prop) : Prop := a ∈ σ.1 ∧ (match σ.2 a with | .inr (ci, fs) => k ci fs | _ => False)
def arI (Γ : Cx) (σ : Hp) (a : Nat) (k : Nat → (Nat → Int32) → Prop) : Prop := a ∈ σ.1 ∧ (match σ.2 a with | .inl (cA, n, .inl f) => cA = Γ.2.2.2.1 0 ∧ k n f | _ => False)
def arL (Γ : Cx) (σ : Hp) (a : Nat) (k : Nat → (Nat → Int64) → Prop) : Prop := a ∈ σ.1 ∧ (match σ.2 a with | .inl (cA, n, .inr (.inl f)) => cA = Γ.2.2.2.1 1 ∧ k n f | _ => False)
def arR (Γ : Cx) (σ : Hp) (a : Nat) (k : Nat → ClassId → (Nat → Option Nat) → Prop) : Prop := a ∈ σ.1 ∧ (match σ.2 a with | .inl (cA, n, .inr (.inr (.inr (.inr f)))) => (cA = Γ.2.2.2.1 2 ∨ cA = Γ.2.2.2.1 3) ∧ k n cA f | _ => False)
def hput (σ : Hp) (a : Nat) (e : va_E) : Hp := (σ.1, va_up σ.2 a e)
def rok (ret : Option FieldType) (v : Int32) : Prop := match ret with | some .int => True | some .boolean => v = 0 ∨ v = 1 | some .byte => v = 0 | _ => False
/-- a field of the String constant -/
def strF (Γ : Cx) (μ : Mt) (i a : Nat) (k : Value → Prop) : Prop := a = Γ.2.2.2.2.1 ∧ μ.2.1 = RJ0 ∧ (match i with | 15 => k (.int 0) | 9 => k (.ref Γ.2.2.2.2.2.1) | _ => False)
def swl (x : Int32) (k : Int → Prop) : List Int → Int → Prop
  | [], _ => True
  | o :: r, i => (x = Int32.ofInt i → k o) ∧ swl x k r (i + 1)
def fput (t : Nat) (x : Int32) : Prop := match t with | 1 => True | 2 => x = 0 ∨ x = 1 | _ => False

def cnd1 (cn : ClassFile.Cond) (x : Int32) : Prop := match cn with | .eq => x = 0 | .ne => ¬ x = 0 | .lt => x < 0 | .ge => 0 ≤ x | .gt => 0 < x | .le => x ≤ 0
def cnd2 (cn : ClassFile.Cond) (x y : Int32) : Prop := match cn with | .eq => x = y | .ne => ¬ x = y | .lt => x < y | .ge => y ≤ x | .gt => y < x | .le => x ≤ y
theorem cnd1_eq {x : Int32} : cnd1 .eq x ↔ x = 0 := Iff.rfl
theorem cnd2_eq {x y : Int32} : cnd2 .eq x y ↔ x = y := Iff.rfl
theorem cnd1_ne {x : Int32} : cnd1 .ne x ↔ ¬ x = 0 := Iff.rfl
theorem cnd2_ne {x y : Int32} : cnd2 .ne x y ↔ ¬ x = y := Iff.rfl
theorem cnd1_lt {x : Int32} : cnd1 .lt x ↔ x < 0 := Iff.rfl
theorem cnd2_lt {x y : Int32} : cnd2 .lt x y ↔ x < y := Iff.rfl
theorem cnd1_ge {x : Int32} : cnd1 .ge x ↔ 0 ≤ x := Iff.rfl
theorem cnd2_ge {x y : Int32} : cnd2 .ge x y ↔ y ≤ x := Iff.rfl
theorem cnd1_gt {x : Int32} : cnd1 .gt x ↔ 0 < x := Iff.rfl
theorem cnd2_gt {x y : Int32} : cnd2 .gt x y ↔ y < x := Iff.rfl
theorem cnd1_le {x : Int32} : cnd1 .le x ↔ x ≤ 0 := Iff.rfl
theorem cnd2_le {x y : Int32} : cnd2 .le x y ↔ x ≤ y := Iff.rfl
def lkl (x : Int32) (k : Int → Prop) : List (Int × Int) → Int → Prop
  | [], d => k d
  | (b, o) :: r, d => (x.toInt = b → k o) ∧ (¬ x.toInt = b → lkl x k r d)
theorem lkl_at {x : Int32} {k : Int → Prop} : ∀ {l : List (Int × Int)} {d : Int}, lkl x k l d → k (Op.lookupswitch.offset l d x.toInt)
  | [], d, h => h
  | (b, o) :: r, d, h => by
    rw [Op.lookupswitch.offset_cons]
    split
    · next e => exact h.1 e.symm
    · next e => exact lkl_at (h.2 (fun z => e z.symm))
theorem swl_at {x : Int32} {k : Int → Prop} : ∀ {l : List Int} {i : Int}, swl x k l i → ∀ (j : Nat) (hj : j < l.length), x = Int32.ofInt (i + j) → k l[j]
  | [], i, h, j, hj, e => absurd hj (Nat.not_lt_zero _)
  | o :: r, i, h, 0, hj, e => h.1 (by simpa using e)
  | o :: r, i, h, j + 1, hj, e => swl_at h.2 j (by simpa using hj) (by rw [e]; congr 1; push_cast; omega)
def FieldOK (own : String) (i ci k b : Nat) : Prop := ∃ (C : String) (T : u_T) (N : Nat) (ref : String), kcl[ci]? = some (C, T, N) ∧ k < N ∧ Cond.fieldLink own i ref (T k).2.1 (T k).2.2.1 ∈ BW ∧
  ((∀ w ∈ u_ws C T N, w ∈ BW) ∧ (ref = (T k).1 ∨ Cond.sameField ref (T k).1 (T k).2.1 (T k).2.2.1 ∈ BW)) ∧
  (∀ x : Int32, fput b x → ∃ ty : FieldType, (T k).2.2.2 = false ∧ parseFieldDescriptor (T k).2.2.1 = some ty ∧ narrow ty (.int x) = .int x ∧ fits ty (.int x) = true) ∧
  ∃ ty0 : Nat → FieldType, (∀ k, k < N → parseFieldDescriptor (T k).2.2.1 = some (ty0 k)) ∧ (∀ a, a < N → ∀ b, b < N → a ≠ b → (T a).2.1 ≠ (T b).2.1)
def Mono (sp : YSp) : Prop := ∀ (av : List Value) (σ : Hp) (K K' : Option Value → Hp → Prop), (∀ v σ', K v σ' → K' v σ') → sp av σ K → sp av σ K'
/-- a call of this method: from its spec, with what comes behind as the spec's end, the walk goes on -/
def kdI (kd i : Nat) : Instr := match kd with | 0 => .invokevirtual i | 1 => .invokestatic i | _ => .invokespecial i
def CallOK (Γ : Cx) (μ : Mt) (kd i n : Nat) (sp : YSp) : Prop := ∀ (K : Option Value → Hp → Prop) (pc : Nat) (lv : Lv) (st : List Value) (σ : Hp), decode μ.2.2.1 pc = .ok (kdI kd i, 3) → csum (st.drop n) ≤ 8 → sp (st.take n).reverse σ (fun v σ' => YG Γ μ K (pc + 3) lv (v.toList ++ st.drop n) σ') → YG Γ μ K pc lv st σ
def TbOK (Γ : Cx) (μ : Mt) (τ : Tb) : Prop := True ∧ (∀ (i : Nat) (v : Int32), τ.2.1 i = some (.inl v) → Cond.constant μ.2.1 i v ∈ BW) ∧ (∀ (i : Nat) (v : Int64), τ.2.1 i = some (.inr v) → Cond.constantLong μ.2.1 i v ∈ BW) ∧ (∀ i ci k b : Nat, τ.1 i ci = some (k, b) → FieldOK μ.2.1 i ci k b) ∧ (∀ (kd i n : Nat) (o : Bool) (sp : YSp), τ.2.2 kd i = some (n, o, sp) → CallOK Γ μ kd i n sp ∧ (o = true → Mono sp))
def ystep (Γ : Cx) (μ : Mt) (τ : Tb) (K : Option Value → Hp → Prop) (J : Nat → Lv → List Value → Hp → Prop) (ins : Instr) (len pc : Nat) (lv : Lv) (st : List Value) (σ : Hp) : Prop := match ins with
  | .iadd => len = 1 ∧ s2i st fun x y r => J (pc + 1) lv (.int (x + y) :: r) σ
  | .isub => len = 1 ∧ s2i st fun x y r => J (pc + 1) lv (.int (x - y) :: r) σ
  | .imul => len = 1 ∧ s2i st fun x y r => J (pc + 1) lv (.int (x * y) :: r) σ
  | .iand => len = 1 ∧ s2i st fun x y r => J (pc + 1) lv (.int (x &&& y) :: r) σ
  | .ior => len = 1 ∧ s2i st fun x y r => J (pc + 1) lv (.int (x ||| y) :: r) σ
  | .idiv => len = 1 ∧ s2i st fun x y r => ¬ y = 0 ∧ J (pc + 1) lv (.int (x / y) :: r) σ
  | .irem => len = 1 ∧ s2i st fun x y r => ¬ y = 0 ∧ J (pc + 1) lv (.int (x - x / y * y) :: r) σ
  | .ishl => len = 1 ∧ s2i st fun x y r => J (pc + 1) lv (.int (x <<< (y &&& 31)) :: r) σ
  | .ishr => len = 1 ∧ s2i st fun x y r => J (pc + 1) lv (.int (x >>> (y &&& 31)) :: r) σ
  | .iushr => len = 1 ∧ s2i st fun x y r => J (pc + 1) lv (.int (x.toUInt32 >>> (y.toUInt32 &&& Int32.toUInt32 31)).toInt32 :: r) σ
  | .ladd => len = 1 ∧ s2l st fun x y r => J (pc + 1) lv (.long (x + y) :: r) σ
  | .lmul => len = 1 ∧ s2l st fun x y r => J (pc + 1) lv (.long (x * y) :: r) σ
  | .land => len = 1 ∧ s2l st fun x y r => J (pc + 1) lv (.long (x &&& y) :: r) σ
  | .lor => len = 1 ∧ s2l st fun x y r => J (pc + 1) lv (.long (x ||| y) :: r) σ
  | .lshl => len = 1 ∧ sil st fun x y r => J (pc + 1) lv (.long (x <<< (y.toInt64 &&& 63)) :: r) σ
  | .lshr => len = 1 ∧ sil st fun x y r => J (pc + 1) lv (.long (x >>> (y.toInt64 &&& 63)) :: r) σ
  | .i2l => len = 1 ∧ s1i st fun x r => J (pc + 1) lv (.long x.toInt64 :: r) σ
  | .l2i => len = 1 ∧ s1l st fun x r => J (pc + 1) lv (.int x.toInt32 :: r) σ
  | .i2b => len = 1 ∧ s1i st fun x r => J (pc + 1) lv (.int x.toInt8.toInt32 :: r) σ
  | .i2s => len = 1 ∧ s1i st fun x r => J (pc + 1) lv (.int x.toInt16.toInt32 :: r) σ
  | .i2c => len = 1 ∧ s1i st fun x r => J (pc + 1) lv (.int (x.toUInt32 % 65536).toInt32 :: r) σ
  | .iconst n => len = 1 ∧ J (pc + 1) lv (.int (Int32.ofInt n) :: st) σ
  | .bipush n => len = 2 ∧ J (pc + 2) lv (.int (Int8.ofInt n).toInt32 :: st) σ
  | .sipush n => len = 3 ∧ J (pc + 3) lv (.int (Int16.ofInt n).toInt32 :: st) σ
  | .lconst n => len = 1 ∧ J (pc + 1) lv (.long (Int64.ofNat n.val) :: st) σ
  | .iload_n k => len = 1 ∧ (match lg lv k.val with | some (.int x) => J (pc + 1) lv (.int x :: st) σ | _ => False)
  | .iload k => len = 2 ∧ (match lg lv k with | some (.int x) => J (pc + 2) lv (.int x :: st) σ | _ => False)
  | .aload_n k => len = 1 ∧ (match lg lv k.val with | some (.ref x) => J (pc + 1) lv (.ref x :: st) σ | _ => False)
  | .aload k => len = 2 ∧ (match lg lv k with | some (.ref x) => J (pc + 2) lv (.ref x :: st) σ | _ => False)
  | .lload_n k => len = 1 ∧ (match lg lv k.val with | some (.long x) => J (pc + 1) lv (.long x :: st) σ | _ => False)
  | .lload k => len = 2 ∧ (match lg lv k with | some (.long x) => J (pc + 2) lv (.long x :: st) σ | _ => False)
  | .istore_n k => len = 1 ∧ s1i st fun x r => k.val < μ.2.2.2.1 ∧ J (pc + 1) (lput lv k.val (.int x)) r σ
  | .istore k => len = 2 ∧ s1i st fun x r => k < μ.2.2.2.1 ∧ J (pc + 2) (lput lv k (.int x)) r σ
  | .astore_n k => len = 1 ∧ s1r st fun x r => k.val < μ.2.2.2.1 ∧ J (pc + 1) (lput lv k.val (.ref x)) r σ
  | .astore k => len = 2 ∧ s1r st fun x r => k < μ.2.2.2.1 ∧ J (pc + 2) (lput lv k (.ref x)) r σ
  | .iinc k n => len = 3 ∧ k < μ.2.2.2.1 ∧ (match lg lv k with | some (.int x) => J (pc + 3) (lput lv k (.int (x + Int32.ofInt n))) st σ | _ => False)
  | .dup => len = 1 ∧ sd1 st fun v r => J (pc + 1) lv (v :: v :: r) σ
  | .pop => len = 1 ∧ sd1 st fun v r => J (pc + 1) lv r σ
  | .dup2 => len = 1 ∧ sd2 st fun v w r => J (pc + 1) lv (v :: w :: v :: w :: r) σ
  | .goto off => len = 3 ∧ jmp pc off fun t => J t lv st σ
  | .ifCond cn off => len = 3 ∧ s1i st fun x r => jmp pc off fun t => (cnd1 cn x → J t lv r σ) ∧ (¬ cnd1 cn x → J (pc + 3) lv r σ)
  | .if_icmp cn off => len = 3 ∧ s2i st fun x y r => jmp pc off fun t => (cnd2 cn x y → J t lv r σ) ∧ (¬ cnd2 cn x y → J (pc + 3) lv r σ)
  | .lcmp => len = 1 ∧ s2l st fun x y r => J (pc + 1) lv (.int (lg_cmp x y) :: r) σ
  | .ldc i => len = 2 ∧ (match τ.2.1 i with | some (.inl v) => J (pc + 2) lv (.int v :: st) σ | some (.inr _) => False | none => μ.2.1 = RX5 ∧ i = 58 ∧ J (pc + 2) lv (.ref Γ.2.2.2.2.1 :: st) σ)
  | .ldc_w i => len = 3 ∧ (match τ.2.1 i with | some (.inl v) => J (pc + 3) lv (.int v :: st) σ | _ => False)
  | .ldc2_w i => len = 3 ∧ (match τ.2.1 i with | some (.inr v) => J (pc + 3) lv (.long v :: st) σ | _ => False)
  | .getfield i => len = 3 ∧ s1r st fun a r => (match μ.2.2.2.2.2.2 with | some false => strF Γ μ i a (fun v => J (pc + 3) lv (v :: r) σ) | _ => obj σ a fun ci fs => (match τ.1 i ci with | some (k, _) => (match fs[k]? with | some v => J (pc + 3) lv (v :: r) σ | none => False) | none => False))
  | .putfield i => len = 3 ∧ svr st fun a x r => obj σ a fun ci fs => (match τ.1 i ci with | some (k, b) => fput b x ∧ k < fs.length ∧ J (pc + 3) lv r (hput σ a (.inr (ci, fs.set k (.int x)))) | none => False)
  | .iaload => len = 1 ∧ sir st fun a i r => (match μ.2.2.2.2.2.2 with | some true => a = Γ.2.2.2.2.2.2.1 ∧ vp_in i Γ.2.2.2.2.2.2.2.1 ∧ J (pc + 1) lv (.int (Γ.2.2.2.2.2.2.2.2 i.toNatClampNeg) :: r) σ | some false => False | none => arI Γ σ a fun n f => vp_in i n ∧ J (pc + 1) lv (.int (f i.toNatClampNeg) :: r) σ)
  | .arraylength => len = 1 ∧ s1r st fun a r => (match μ.2.2.2.2.2.2 with | some true => a = Γ.2.2.2.2.2.2.1 ∧ J (pc + 1) lv (.int (Int32.ofNat Γ.2.2.2.2.2.2.2.1) :: r) σ | some false => a = Γ.2.2.2.2.2.1 ∧ J (pc + 1) lv (.int 5 :: r) σ | none => arI Γ σ a fun n f => J (pc + 1) lv (.int (Int32.ofNat n) :: r) σ)
  | .baload => len = 1 ∧ sir st fun a i r => (match μ.2.2.2.2.2.2 with | some false => a = Γ.2.2.2.2.2.1 ∧ vp_in i 5 ∧ J (pc + 1) lv (.int (([100, 99, 111, 108, 98] : List Int32).getD i.toNatClampNeg 0) :: r) σ | _ => False)
  | .getstatic i => len = 3 ∧ (match μ.2.2.2.2.2.2 with | some false => μ.2.1 = RJ0 ∧ i = 38 ∧ J (pc + 3) lv (.int 1 :: st) σ | _ => False)
  | .laload => len = 1 ∧ sir st fun a i r => arL Γ σ a fun n f => vp_in i n ∧ J (pc + 1) lv (.long (f i.toNatClampNeg) :: r) σ
  | .aaload => len = 1 ∧ sir st fun a i r => arR Γ σ a fun n cA f => vp_in i n ∧ (match f i.toNatClampNeg with | some q => J (pc + 1) lv (.ref q :: r) σ | none => False)
  | .iastore => len = 1 ∧ siir st fun a i x r => arI Γ σ a fun n f => vp_in i n ∧ J (pc + 1) lv r (hput σ a (.inl (Γ.2.2.2.1 0, n, .inl (upd f i.toNatClampNeg x))))
  | .lastore => len = 1 ∧ slir st fun a i x r => arL Γ σ a fun n f => vp_in i n ∧ J (pc + 1) lv r (hput σ a (.inl (Γ.2.2.2.1 1, n, .inr (.inl (vp_updL f i.toNatClampNeg x)))))
  | .aastore => len = 1 ∧ srir st fun a i v r => arR Γ σ a fun n cA f => vp_in i n ∧ cA = Γ.2.2.2.1 2 ∧ (obj σ v fun ci fs => ci = 1) ∧ J (pc + 1) lv r (hput σ a (.inl (cA, n, .inr (.inr (.inr (.inr (va_up f i.toNatClampNeg (some v))))))))
  | .ireturn => len = 1 ∧ (match st with | [.int v] => rok μ.2.2.2.2.1 v ∧ K (some (.int v)) σ | _ => False)
  | .return_ => len = 1 ∧ (match st with | [] => μ.2.2.2.2.1 = none ∧ K none σ | _ => False)
  | .tableswitch dflt lo hi offs => s1i st fun x r => hi = lo + offs.toList.length - 1 ∧ swl x (fun o => jmp pc o fun t => J t lv r σ) offs.toList lo ∧ ((x.toInt < lo ∨ hi < x.toInt) → jmp pc dflt fun t => J t lv r σ)
  | .lookupswitch dflt ps => s1i st fun x r => (ps.toList.zip (ps.toList.drop 1)).all (fun (a, next) => a.1 < next.1) = true ∧ lkl x (fun o => jmp pc o fun t => J t lv r σ) ps.toList dflt
  | .invokevirtual i => len = 3 ∧ (match τ.2.2 0 i with | some (n, true, sp) => csum (st.drop n) ≤ 8 ∧ sp (st.take n).reverse σ (fun v σ' => J (pc + 3) lv (v.toList ++ st.drop n) σ') | some (n, false, sp) => csum (st.drop n) ≤ 8 ∧ sp (st.take n).reverse σ (fun v σ' => YG Γ μ K (pc + 3) lv (v.toList ++ st.drop n) σ') | none => False)
  | .invokestatic i => len = 3 ∧ (match τ.2.2 1 i with | some (n, true, sp) => csum (st.drop n) ≤ 8 ∧ sp (st.take n).reverse σ (fun v σ' => J (pc + 3) lv (v.toList ++ st.drop n) σ') | some (n, false, sp) => csum (st.drop n) ≤ 8 ∧ sp (st.take n).reverse σ (fun v σ' => YG Γ μ K (pc + 3) lv (v.toList ++ st.drop n) σ') | none => False)
  | .invokespecial i => len = 3 ∧ (match τ.2.2 2 i with | some (n, true, sp) => csum (st.drop n) ≤ 8 ∧ sp (st.take n).reverse σ (fun v σ' => J (pc + 3) lv (v.toList ++ st.drop n) σ') | some (n, false, sp) => csum (st.drop n) ≤ 8 ∧ sp (st.take n).reverse σ (fun v σ' => YG Γ μ K (pc + 3) lv (v.toList ++ st.drop n) σ') | none => False)
  | _ => False
theorem st_iadd {Γ : Cx} {μ : Mt} {τ : Tb} {K : Option Value → Hp → Prop} {J : Nat → Lv → List Value → Hp → Prop} {len pc : Nat} {lv : Lv} {st : List Value} {σ : Hp} : ystep Γ μ τ K J .iadd len pc lv st σ = (len = 1 ∧ s2i st fun x y r => J (pc + 1) lv (.int (x + y) :: r) σ) := rfl
theorem ok_iadd {Γ : Cx} {μ : Mt} {τ : Tb} {K : Option Value → Hp → Prop} {J : Nat → Lv → List Value → Hp → Prop} {len pc : Nat} {lv : Lv} {st : List Value} {σ : Hp} (hτ : TbOK Γ μ τ) (hJ : ∀ pc lv st σ, J pc lv st σ → YG Γ μ K pc lv st σ) (hd : decode μ.2.2.1 pc = .ok (.iadd, len)) (h : len = 1 ∧ s2i st fun x y r => J (pc + 1) lv (.int (x + y) :: r) σ) : YG Γ μ K pc lv st σ := by
  obtain ⟨rfl, h⟩ := h
  match st, h with
  | .int y :: .int x :: r, h =>
    intro p e s m args below meth c H locs ls F B S hl
    exact lv_iadd F.1 F.2.1 hd (hJ _ _ _ _ h p e s m args below meth c H locs ls F B S hl)
theorem st_isub {Γ : Cx} {μ : Mt} {τ : Tb} {K : Option Value → Hp → Prop} {J : Nat → Lv → List Value → Hp → Prop} {len pc : Nat} {lv : Lv} {st : List Value} {σ : Hp} : ystep Γ μ τ K J .isub len pc lv st σ = (len = 1 ∧ s2i st fun x y r => J (pc + 1) lv (.int (x - y) :: r) σ) := rfl
theorem ok_isub {Γ : Cx} {μ : Mt} {τ : Tb} {K : Option Value → Hp → Prop} {J : Nat → Lv → List Value → Hp → Prop} {len pc : Nat} {lv : Lv} {st : List Value} {σ : Hp} (hτ : TbOK Γ μ τ) (hJ : ∀ pc lv st σ, J pc lv st σ → YG Γ μ K pc lv st σ) (hd : decode μ.2.2.1 pc = .ok (.isub, len)) (h : len = 1 ∧ s2i st fun x y r => J (pc + 1) lv (.int (x - y) :: r) σ) : YG Γ μ K pc lv st σ := by
  obtain ⟨rfl, h⟩ := h
  match st, h with
  | .int y :: .int x :: r, h =>
    intro p e s m args below meth c H locs ls F B S hl
    exact lv_isub F.1 F.2.1 hd (hJ _ _ _ _ h p e s m args below meth c H locs ls F B S hl)
theorem st_imul {Γ : Cx} {μ : Mt} {τ : Tb} {K : Option Value → Hp → Prop} {J : Nat → Lv → List Value → Hp → Prop} {len pc : Nat} {lv : Lv} {st : List Value} {σ : Hp} : ystep Γ μ τ K J .imul len pc lv st σ = (len = 1 ∧ s2i st fun x y r => J (pc + 1) lv (.int (x * y) :: r) σ) := rfl
theorem ok_imul {Γ : Cx} {μ : Mt} {τ : Tb} {K : Option Value → Hp → Prop} {J : Nat → Lv → List Value → Hp → Prop} {len pc : Nat} {lv : Lv} {st : List Value} {σ : Hp} (hτ : TbOK Γ μ τ) (hJ : ∀ pc lv st σ, J pc lv st σ → YG Γ μ K pc lv st σ) (hd : decode μ.2.2.1 pc = .ok (.imul, len)) (h : len = 1 ∧ s2i st fun x y r => J (pc + 1) lv (.int (x * y) :: r) σ) : YG Γ μ K pc lv st σ := by
  obtain ⟨rfl, h⟩ := h
  match st, h with
  | .int y :: .int x :: r, h =>
    intro p e s m args below meth c H locs ls F B S hl
    exact lv_imul F.1 F.2.1 hd (hJ _ _ _ _ h p e s m args below meth c H locs ls F B S hl)
theorem st_iand {Γ : Cx} {μ : Mt} {τ : Tb} {K : Option Value → Hp → Prop} {J : Nat → Lv → List Value → Hp → Prop} {len pc : Nat} {lv : Lv} {st : List Value} {σ : Hp} : ystep Γ μ τ K J .iand len pc lv st σ = (len = 1 ∧ s2i st fun x y r => J (pc + 1) lv (.int (x &&& y) :: r) σ) := rfl
theorem ok_iand {Γ : Cx} {μ : Mt} {τ : Tb} {K : Option Value → Hp → Prop} {J : Nat → Lv → List Value → Hp → Prop} {len pc : Nat} {lv : Lv} {st : List Value} {σ : Hp} (hτ : TbOK Γ μ τ) (hJ : ∀ pc lv st σ, J pc lv st σ → YG Γ μ K pc lv st σ) (hd : decode μ.2.2.1 pc = .ok (.iand, len)) (h : len = 1 ∧ s2i st fun x y r => J (pc + 1) lv (.int (x &&& y) :: r) σ) : YG Γ μ K pc lv st σ := by
  obtain ⟨rfl, h⟩ := h
  match st, h with
  | .int y :: .int x :: r, h =>
    intro p e s m args below meth c H locs ls F B S hl
    exact lv_iand F.1 F.2.1 hd (hJ _ _ _ _ h p e s m args below meth c H locs ls F B S hl)
theorem st_ior {Γ : Cx} {μ : Mt} {τ : Tb} {K : Option Value → Hp → Prop} {J : Nat → Lv → List Value → Hp → Prop} {len pc : Nat} {lv : Lv} {st : List Value} {σ : Hp} : ystep Γ μ τ K J .ior len pc lv st σ = (len = 1 ∧ s2i st fun x y r => J (pc + 1) lv (.int (x ||| y) :: r) σ) := rfl
theorem ok_ior {Γ : Cx} {μ : Mt} {τ : Tb} {K : Option Value → Hp → Prop} {J : Nat → Lv → List Value → Hp → Prop} {len pc : Nat} {lv : Lv} {st : List Value} {σ : Hp} (hτ : TbOK Γ μ τ) (hJ : ∀ pc lv st σ, J pc lv st σ → YG Γ μ K pc lv st σ) (hd : decode μ.2.2.1 pc = .ok (.ior, len)) (h : len = 1 ∧ s2i st fun x y r => J (pc + 1) lv (.int (x ||| y) :: r) σ) : YG Γ μ K pc lv st σ := by
  obtain ⟨rfl, h⟩ := h
  match st, h with
  | .int y :: .int x :: r, h =>
    intro p e s m args below meth c H locs ls F B S hl
    exact lv_ior F.1 F.2.1 hd (hJ _ _ _ _ h p e s m args below meth c H locs ls F B S hl)
theorem st_idiv {Γ : Cx} {μ : Mt} {τ : Tb} {K : Option Value → Hp → Prop} {J : Nat → Lv → List Value → Hp → Prop} {len pc : Nat} {lv : Lv} {st : List Value} {σ : Hp} : ystep Γ μ τ K J .idiv len pc lv st σ = (len = 1 ∧ s2i st fun x y r => ¬ y = 0 ∧ J (pc + 1) lv (.int (x / y) :: r) σ) := rfl
theorem ok_idiv {Γ : Cx} {μ : Mt} {τ : Tb} {K : Option Value → Hp → Prop} {J : Nat → Lv → List Value → Hp → Prop} {len pc : Nat} {lv : Lv} {st : List Value} {σ : Hp} (hτ : TbOK Γ μ τ) (hJ : ∀ pc lv st σ, J pc lv st σ → YG Γ μ K pc lv st σ) (hd : decode μ.2.2.1 pc = .ok (.idiv, len)) (h : len = 1 ∧ s2i st fun x y r => ¬ y = 0 ∧ J (pc + 1) lv (.int (x / y) :: r) σ) : YG Γ μ K pc lv st σ := by
  obtain ⟨rfl, h⟩ := h
  match st, h with
  | .int y :: .int x :: r, h =>
    intro p e s m args below meth c H locs ls F B S hl
    exact lv_idiv F.1 F.2.1 hd h.1 (hJ _ _ _ _ h.2 p e s m args below meth c H locs ls F B S hl)
theorem st_irem {Γ : Cx} {μ : Mt} {τ : Tb} {K : Option Value → Hp → Prop} {J : Nat → Lv → List Value → Hp → Prop} {len pc : Nat} {lv : Lv} {st : List Value} {σ : Hp} : ystep Γ μ τ K J .irem len pc lv st σ = (len = 1 ∧ s2i st fun x y r => ¬ y = 0 ∧ J (pc + 1) lv (.int (x - x / y * y) :: r) σ) := rfl
theorem ok_irem {Γ : Cx} {μ : Mt} {τ : Tb} {K : Option Value → Hp → Prop} {J : Nat → Lv → List Value → Hp → Prop} {len pc : Nat} {lv : Lv} {st : List Value} {σ : Hp} (hτ : TbOK Γ μ τ) (hJ : ∀ pc lv st σ, J pc lv st σ → YG Γ μ K pc lv st σ) (hd : decode μ.2.2.1 pc = .ok (.irem, len)) (h : len = 1 ∧ s2i st fun x y r => ¬ y = 0 ∧ J (pc + 1) lv (.int (x - x / y * y) :: r) σ) : YG Γ μ K pc lv st σ := by
  obtain ⟨rfl, h⟩ := h
  match st, h with
  | .int y :: .int x :: r, h =>
    intro p e s m args below meth c H locs ls F B S hl
    exact lv_irem F.1 F.2.1 hd h.1 (hJ _ _ _ _ h.2 p e s m args below meth c H locs ls F B S hl)
theorem st_ishl {Γ : Cx} {μ : Mt} {τ : Tb} {K : Option Value → Hp → Prop} {J : Nat → Lv → List Value → Hp → Prop} {len pc : Nat} {lv : Lv} {st : List Value} {σ : Hp} : ystep Γ μ τ K J .ishl len pc lv st σ = (len = 1 ∧ s2i st fun x y r => J (pc + 1) lv (.int (x <<< (y &&& 31)) :: r) σ) := rfl
theorem ok_ishl {Γ : Cx} {μ : Mt} {τ : Tb} {K : Option Value → Hp → Prop} {J : Nat → Lv → List Value → Hp → Prop} {len pc : Nat} {lv : Lv} {st : List Value} {σ : Hp} (hτ : TbOK Γ μ τ) (hJ : ∀ pc lv st σ, J pc lv st σ → YG Γ μ K pc lv st σ) (hd : decode μ.2.2.1 pc = .ok (.ishl, len)) (h : len = 1 ∧ s2i st fun x y r => J (pc + 1) lv (.int (x <<< (y &&& 31)) :: r) σ) : YG Γ μ K pc lv st σ := by
  obtain ⟨rfl, h⟩ := h
  match st, h with
  | .int y :: .int x :: r, h =>
    intro p e s m args below meth c H locs ls F B S hl
    exact lv_ishl F.1 F.2.1 hd (hJ _ _ _ _ h p e s m args below meth c H locs ls F B S hl)
theorem st_ishr {Γ : Cx} {μ : Mt} {τ : Tb} {K : Option Value → Hp → Prop} {J : Nat → Lv → List Value → Hp → Prop} {len pc : Nat} {lv : Lv} {st : List Value} {σ : Hp} : ystep Γ μ τ K J .ishr len pc lv st σ = (len = 1 ∧ s2i st fun x y r => J (pc + 1) lv (.int (x >>> (y &&& 31)) :: r) σ) := rfl
theorem ok_ishr {Γ : Cx} {μ : Mt} {τ : Tb} {K : Option Value → Hp → Prop} {J : Nat → Lv → List Value → Hp → Prop} {len pc : Nat} {lv : Lv} {st : List Value} {σ : Hp} (hτ : TbOK Γ μ τ) (hJ : ∀ pc lv st σ, J pc lv st σ → YG Γ μ K pc lv st σ) (hd : decode μ.2.2.1 pc = .ok (.ishr, len)) (h : len = 1 ∧ s2i st fun x y r => J (pc + 1) lv (.int (x >>> (y &&& 31)) :: r) σ) : YG Γ μ K pc lv st σ := by
  obtain ⟨rfl, h⟩ := h
  match st, h with
  | .int y :: .int x :: r, h =>
    intro p e s m args below meth c H locs ls F B S hl
    exact lv_ishr F.1 F.2.1 hd (hJ _ _ _ _ h p e s m args below meth c H locs ls F B S hl)
theorem st_iushr {Γ : Cx} {μ : Mt} {τ : Tb} {K : Option Value → Hp → Prop} {J : Nat → Lv → List Value → Hp → Prop} {len pc : Nat} {lv : Lv} {st : List Value} {σ : Hp} : ystep Γ μ τ K J .iushr len pc lv st σ = (len = 1 ∧ s2i st fun x y r => J (pc + 1) lv (.int (x.toUInt32 >>> (y.toUInt32 &&& Int32.toUInt32 31)).toInt32 :: r) σ) := rfl
theorem ok_iushr {Γ : Cx} {μ : Mt} {τ : Tb} {K : Option Value → Hp → Prop} {J : Nat → Lv → List Value → Hp → Prop} {len pc : Nat} {lv : Lv} {st : List Value} {σ : Hp} (hτ : TbOK Γ μ τ) (hJ : ∀ pc lv st σ, J pc lv st σ → YG Γ μ K pc lv st σ) (hd : decode μ.2.2.1 pc = .ok (.iushr, len)) (h : len = 1 ∧ s2i st fun x y r => J (pc + 1) lv (.int (x.toUInt32 >>> (y.toUInt32 &&& Int32.toUInt32 31)).toInt32 :: r) σ) : YG Γ μ K pc lv st σ := by
  obtain ⟨rfl, h⟩ := h
  match st, h with
  | .int y :: .int x :: r, h =>
    intro p e s m args below meth c H locs ls F B S hl
    exact lv_iushr F.1 F.2.1 hd rfl (hJ _ _ _ _ h p e s m args below meth c H locs ls F B S hl)
theorem st_ladd {Γ : Cx} {μ : Mt} {τ : Tb} {K : Option Value → Hp → Prop} {J : Nat → Lv → List Value → Hp → Prop} {len pc : Nat} {lv : Lv} {st : List Value} {σ : Hp} : ystep Γ μ τ K J .ladd len pc lv st σ = (len = 1 ∧ s2l st fun x y r => J (pc + 1) lv (.long (x + y) :: r) σ) := rfl
theorem ok_ladd {Γ : Cx} {μ : Mt} {τ : Tb} {K : Option Value → Hp → Prop} {J : Nat → Lv → List Value → Hp → Prop} {len pc : Nat} {lv : Lv} {st : List Value} {σ : Hp} (hτ : TbOK Γ μ τ) (hJ : ∀ pc lv st σ, J pc lv st σ → YG Γ μ K pc lv st σ) (hd : decode μ.2.2.1 pc = .ok (.ladd, len)) (h : len = 1 ∧ s2l st fun x y r => J (pc + 1) lv (.long (x + y) :: r) σ) : YG Γ μ K pc lv st σ := by
  obtain ⟨rfl, h⟩ := h
  match st, h with
  | .long y :: .long x :: r, h =>
    intro p e s m args below meth c H locs ls F B S hl
    exact lv_ladd F.1 F.2.1 hd (hJ _ _ _ _ h p e s m args below meth c H locs ls F B S hl)
theorem st_lmul {Γ : Cx} {μ : Mt} {τ : Tb} {K : Option Value → Hp → Prop} {J : Nat → Lv → List Value → Hp → Prop} {len pc : Nat} {lv : Lv} {st : List Value} {σ : Hp} : ystep Γ μ τ K J .lmul len pc lv st σ = (len = 1 ∧ s2l st fun x y r => J (pc + 1) lv (.long (x * y) :: r) σ) := rfl
theorem ok_lmul {Γ : Cx} {μ : Mt} {τ : Tb} {K : Option Value → Hp → Prop} {J : Nat → Lv → List Value → Hp → Prop} {len pc : Nat} {lv : Lv} {st : List Value} {σ : Hp} (hτ : TbOK Γ μ τ) (hJ : ∀ pc lv st σ, J pc lv st σ → YG Γ μ K pc lv st σ) (hd : decode μ.2.2.1 pc = .ok (.lmul, len)) (h : len = 1 ∧ s2l st fun x y r => J (pc + 1) lv (.long (x * y) :: r) σ) : YG Γ μ K pc lv st σ := by
  obtain ⟨rfl, h⟩ := h
  match st, h with
  | .long y :: .long x :: r, h =>
    intro p e s m args below meth c H locs ls F B S hl
    exact lv_lmul F.1 F.2.1 hd (hJ _ _ _ _ h p e s m args below meth c H locs ls F B S hl)
theorem st_land {Γ : Cx} {μ : Mt} {τ : Tb} {K : Option Value → Hp → Prop} {J : Nat → Lv → List Value → Hp → Prop} {len pc : Nat} {lv : Lv} {st : List Value} {σ : Hp} : ystep Γ μ τ K J .land len pc lv st σ = (len = 1 ∧ s2l st fun x y r => J (pc + 1) lv (.long (x &&& y) :: r) σ) := rfl
theorem ok_land {Γ : Cx} {μ : Mt} {τ : Tb} {K : Option Value → Hp → Prop} {J : Nat → Lv → List Value → Hp → Prop} {len pc : Nat} {lv : Lv} {st : List Value} {σ : Hp} (hτ : TbOK Γ μ τ) (hJ : ∀ pc lv st σ, J pc lv st σ → YG Γ μ K pc lv st σ) (hd : decode μ.2.2.1 pc = .ok (.land, len)) (h : len = 1 ∧ s2l st fun x y r => J (pc + 1) lv (.long (x &&& y) :: r) σ) : YG Γ μ K pc lv st σ := by
  obtain ⟨rfl, h⟩ := h
  match st, h with
  | .long y :: .long x :: r, h =>
    intro p e s m args below meth c H locs ls F B S hl
    exact lv_land F.1 F.2.1 hd (hJ _ _ _ _ h p e s m args below meth c H locs ls F B S hl)
theorem st_lor {Γ : Cx} {μ : Mt} {τ : Tb} {K : Option Value → Hp → Prop} {J : Nat → Lv → List Value → Hp → Prop} {len pc : Nat} {lv : Lv} {st : List Value} {σ : Hp} : ystep Γ μ τ K J .lor len pc lv st σ = (len = 1 ∧ s2l st fun x y r => J (pc + 1) lv (.long (x ||| y) :: r) σ) := rfl
theorem ok_lor {Γ : Cx} {μ : Mt} {τ : Tb} {K : Option Value → Hp → Prop} {J : Nat → Lv → List Value → Hp → Prop} {len pc : Nat} {lv : Lv} {st : List Value} {σ : Hp} (hτ : TbOK Γ μ τ) (hJ : ∀ pc lv st σ, J pc lv st σ → YG Γ μ K pc lv st σ) (hd : decode μ.2.2.1 pc = .ok (.lor, len)) (h : len = 1 ∧ s2l st fun x y r => J (pc + 1) lv (.long (x ||| y) :: r) σ) : YG Γ μ K pc lv st σ := by
  obtain ⟨rfl, h⟩ := h
  match st, h with
  | .long y :: .long x :: r, h =>
    intro p e s m args below meth c H locs ls F B S hl
    exact lv_lor F.1 F.2.1 hd (hJ _ _ _ _ h p e s m args below meth c H locs ls F B S hl)
theorem st_lshl {Γ : Cx} {μ : Mt} {τ : Tb} {K : Option Value → Hp → Prop} {J : Nat → Lv → List Value → Hp → Prop} {len pc : Nat} {lv : Lv} {st : List Value} {σ : Hp} : ystep Γ μ τ K J .lshl len pc lv st σ = (len = 1 ∧ sil st fun x y r => J (pc + 1) lv (.long (x <<< (y.toInt64 &&& 63)) :: r) σ) := rfl
theorem ok_lshl {Γ : Cx} {μ : Mt} {τ : Tb} {K : Option Value → Hp → Prop} {J : Nat → Lv → List Value → Hp → Prop} {len pc : Nat} {lv : Lv} {st : List Value} {σ : Hp} (hτ : TbOK Γ μ τ) (hJ : ∀ pc lv st σ, J pc lv st σ → YG Γ μ K pc lv st σ) (hd : decode μ.2.2.1 pc = .ok (.lshl, len)) (h : len = 1 ∧ sil st fun x y r => J (pc + 1) lv (.long (x <<< (y.toInt64 &&& 63)) :: r) σ) : YG Γ μ K pc lv st σ := by
  obtain ⟨rfl, h⟩ := h
  match st, h with
  | .int y :: .long x :: r, h =>
    intro p e s m args below meth c H locs ls F B S hl
    exact lv_lshl F.1 F.2.1 hd rfl (hJ _ _ _ _ h p e s m args below meth c H locs ls F B S hl)
theorem st_lshr {Γ : Cx} {μ : Mt} {τ : Tb} {K : Option Value → Hp → Prop} {J : Nat → Lv → List Value → Hp → Prop} {len pc : Nat} {lv : Lv} {st : List Value} {σ : Hp} : ystep Γ μ τ K J .lshr len pc lv st σ = (len = 1 ∧ sil st fun x y r => J (pc + 1) lv (.long (x >>> (y.toInt64 &&& 63)) :: r) σ) := rfl
theorem ok_lshr {Γ : Cx} {μ : Mt} {τ : Tb} {K : Option Value → Hp → Prop} {J : Nat → Lv → List Value → Hp → Prop} {len pc : Nat} {lv : Lv} {st : List Value} {σ : Hp} (hτ : TbOK Γ μ τ) (hJ : ∀ pc lv st σ, J pc lv st σ → YG Γ μ K pc lv st σ) (hd : decode μ.2.2.1 pc = .ok (.lshr, len)) (h : len = 1 ∧ sil st fun x y r => J (pc + 1) lv (.long (x >>> (y.toInt64 &&& 63)) :: r) σ) : YG Γ μ K pc lv st σ := by
  obtain ⟨rfl, h⟩ := h
  match st, h with
  | .int y :: .long x :: r, h =>
    intro p e s m args below meth c H locs ls F B S hl
    exact lv_lshr F.1 F.2.1 hd rfl (hJ _ _ _ _ h p e s m args below meth c H locs ls F B S hl)
theorem st_i2l {Γ : Cx} {μ : Mt} {τ : Tb} {K : Option Value → Hp → Prop} {J : Nat → Lv → List Value → Hp → Prop} {len pc : Nat} {lv : Lv} {st : List Value} {σ : Hp} : ystep Γ μ τ K J .i2l len pc lv st σ = (len = 1 ∧ s1i st fun x r => J (pc + 1) lv (.long x.toInt64 :: r) σ) := rfl
theorem ok_i2l {Γ : Cx} {μ : Mt} {τ : Tb} {K : Option Value → Hp → Prop} {J : Nat → Lv → List Value → Hp → Prop} {len pc : Nat} {lv : Lv} {st : List Value} {σ : Hp} (hτ : TbOK Γ μ τ) (hJ : ∀ pc lv st σ, J pc lv st σ → YG Γ μ K pc lv st σ) (hd : decode μ.2.2.1 pc = .ok (.i2l, len)) (h : len = 1 ∧ s1i st fun x r => J (pc + 1) lv (.long x.toInt64 :: r) σ) : YG Γ μ K pc lv st σ := by
  obtain ⟨rfl, h⟩ := h
  match st, h with
  | .int x :: r, h =>
    intro p e s m args below meth c H locs ls F B S hl
    exact lv_i2l F.1 F.2.1 hd rfl (hJ _ _ _ _ h p e s m args below meth c H locs ls F B S hl)
theorem st_l2i {Γ : Cx} {μ : Mt} {τ : Tb} {K : Option Value → Hp → Prop} {J : Nat → Lv → List Value → Hp → Prop} {len pc : Nat} {lv : Lv} {st : List Value} {σ : Hp} : ystep Γ μ τ K J .l2i len pc lv st σ = (len = 1 ∧ s1l st fun x r => J (pc + 1) lv (.int x.toInt32 :: r) σ) := rfl
theorem ok_l2i {Γ : Cx} {μ : Mt} {τ : Tb} {K : Option Value → Hp → Prop} {J : Nat → Lv → List Value → Hp → Prop} {len pc : Nat} {lv : Lv} {st : List Value} {σ : Hp} (hτ : TbOK Γ μ τ) (hJ : ∀ pc lv st σ, J pc lv st σ → YG Γ μ K pc lv st σ) (hd : decode μ.2.2.1 pc = .ok (.l2i, len)) (h : len = 1 ∧ s1l st fun x r => J (pc + 1) lv (.int x.toInt32 :: r) σ) : YG Γ μ K pc lv st σ := by
  obtain ⟨rfl, h⟩ := h
  match st, h with
  | .long x :: r, h =>
    intro p e s m args below meth c H locs ls F B S hl
    exact lv_l2i F.1 F.2.1 hd rfl (hJ _ _ _ _ h p e s m args below meth c H locs ls F B S hl)
theorem st_i2b {Γ : Cx} {μ : Mt} {τ : Tb} {K : Option Value → Hp → Prop} {J : Nat → Lv → List Value → Hp → Prop} {len pc : Nat} {lv : Lv} {st : List Value} {σ : Hp} : ystep Γ μ τ K J .i2b len pc lv st σ = (len = 1 ∧ s1i st fun x r => J (pc + 1) lv (.int x.toInt8.toInt32 :: r) σ) := rfl
theorem ok_i2b {Γ : Cx} {μ : Mt} {τ : Tb} {K : Option Value → Hp → Prop} {J : Nat → Lv → List Value → Hp → Prop} {len pc : Nat} {lv : Lv} {st : List Value} {σ : Hp} (hτ : TbOK Γ μ τ) (hJ : ∀ pc lv st σ, J pc lv st σ → YG Γ μ K pc lv st σ) (hd : decode μ.2.2.1 pc = .ok (.i2b, len)) (h : len = 1 ∧ s1i st fun x r => J (pc + 1) lv (.int x.toInt8.toInt32 :: r) σ) : YG Γ μ K pc lv st σ := by
  obtain ⟨rfl, h⟩ := h
  match st, h with
  | .int x :: r, h =>
    intro p e s m args below meth c H locs ls F B S hl
    exact lv_i2b F.1 F.2.1 hd rfl (hJ _ _ _ _ h p e s m args below meth c H locs ls F B S hl)
theorem st_i2s {Γ : Cx} {μ : Mt} {τ : Tb} {K : Option Value → Hp → Prop} {J : Nat → Lv → List Value → Hp → Prop} {len pc : Nat} {lv : Lv} {st : List Value} {σ : Hp} : ystep Γ μ τ K J .i2s len pc lv st σ = (len = 1 ∧ s1i st fun x r => J (pc + 1) lv (.int x.toInt16.toInt32 :: r) σ) := rfl
theorem ok_i2s {Γ : Cx} {μ : Mt} {τ : Tb} {K : Option Value → Hp → Prop} {J : Nat → Lv → List Value → Hp → Prop} {len pc : Nat} {lv : Lv} {st : List Value} {σ : Hp} (hτ : TbOK Γ μ τ) (hJ : ∀ pc lv st σ, J pc lv st σ → YG Γ μ K pc lv st σ) (hd : decode μ.2.2.1 pc = .ok (.i2s, len)) (h : len = 1 ∧ s1i st fun x r => J (pc + 1) lv (.int x.toInt16.toInt32 :: r) σ) : YG Γ μ K pc lv st σ := by
  obtain ⟨rfl, h⟩ := h
  match st, h with
  | .int x :: r, h =>
    intro p e s m args below meth c H locs ls F B S hl
    exact lv_i2s F.1 F.2.1 hd rfl (hJ _ _ _ _ h p e s m args below meth c H locs ls F B S hl)
theorem st_i2c {Γ : Cx} {μ : Mt} {τ : Tb} {K : Option Value → Hp → Prop} {J : Nat → Lv → List Value → Hp → Prop} {len pc : Nat} {lv : Lv} {st : List Value} {σ : Hp} : ystep Γ μ τ K J .i2c len pc lv st σ = (len = 1 ∧ s1i st fun x r => J (pc + 1) lv (.int (x.toUInt32 % 65536).toInt32 :: r) σ) := rfl
theorem ok_i2c {Γ : Cx} {μ : Mt} {τ : Tb} {K : Option Value → Hp → Prop} {J : Nat → Lv → List Value → Hp → Prop} {len pc : Nat} {lv : Lv} {st : List Value} {σ : Hp} (hτ : TbOK Γ μ τ) (hJ : ∀ pc lv st σ, J pc lv st σ → YG Γ μ K pc lv st σ) (hd : decode μ.2.2.1 pc = .ok (.i2c, len)) (h : len = 1 ∧ s1i st fun x r => J (pc + 1) lv (.int (x.toUInt32 % 65536).toInt32 :: r) σ) : YG Γ μ K pc lv st σ := by
  obtain ⟨rfl, h⟩ := h
  match st, h with
  | .int x :: r, h =>
    intro p e s m args below meth c H locs ls F B S hl
    exact lv_i2c F.1 F.2.1 hd rfl (hJ _ _ _ _ h p e s m args below meth c H locs ls F B S hl)
theorem st_iconst {Γ : Cx} {μ : Mt} {τ : Tb} {K : Option Value → Hp → Prop} {J : Nat → Lv → List Value → Hp → Prop} {len pc : Nat} {lv : Lv} {st : List Value} {σ : Hp} {n : Int} : ystep Γ μ τ K J (.iconst n) len pc lv st σ = (len = 1 ∧ J (pc + 1) lv (.int (Int32.ofInt n) :: st) σ) := rfl
theorem ok_iconst {Γ : Cx} {μ : Mt} {τ : Tb} {K : Option Value → Hp → Prop} {J : Nat → Lv → List Value → Hp → Prop} {len pc : Nat} {lv : Lv} {st : List Value} {σ : Hp} {n : Int} (hτ : TbOK Γ μ τ) (hJ : ∀ pc lv st σ, J pc lv st σ → YG Γ μ K pc lv st σ) (hd : decode μ.2.2.1 pc = .ok ((.iconst n), len)) (h : len = 1 ∧ J (pc + 1) lv (.int (Int32.ofInt n) :: st) σ) : YG Γ μ K pc lv st σ := by
  obtain ⟨rfl, h⟩ := h
  intro p e s m args below meth c H locs ls F B S hl
  exact lv_iconst F.1 F.2.1 hd rfl (hJ _ _ _ _ h p e s m args below meth c H locs ls F B S hl)
theorem st_bipush {Γ : Cx} {μ : Mt} {τ : Tb} {K : Option Value → Hp → Prop} {J : Nat → Lv → List Value → Hp → Prop} {len pc : Nat} {lv : Lv} {st : List Value} {σ : Hp} {n : Int} : ystep Γ μ τ K J (.bipush n) len pc lv st σ = (len = 2 ∧ J (pc + 2) lv (.int (Int8.ofInt n).toInt32 :: st) σ) := rfl
theorem ok_bipush {Γ : Cx} {μ : Mt} {τ : Tb} {K : Option Value → Hp → Prop} {J : Nat → Lv → List Value → Hp → Prop} {len pc : Nat} {lv : Lv} {st : List Value} {σ : Hp} {n : Int} (hτ : TbOK Γ μ τ) (hJ : ∀ pc lv st σ, J pc lv st σ → YG Γ μ K pc lv st σ) (hd : decode μ.2.2.1 pc = .ok ((.bipush n), len)) (h : len = 2 ∧ J (pc + 2) lv (.int (Int8.ofInt n).toInt32 :: st) σ) : YG Γ μ K pc lv st σ := by
  obtain ⟨rfl, h⟩ := h
  intro p e s m args below meth c H locs ls F B S hl
  exact lv_bipush F.1 F.2.1 hd rfl (hJ _ _ _ _ h p e s m args below meth c H locs ls F B S hl)
theorem st_sipush {Γ : Cx} {μ : Mt} {τ : Tb} {K : Option Value → Hp → Prop} {J : Nat → Lv → List Value → Hp → Prop} {len pc : Nat} {lv : Lv} {st : List Value} {σ : Hp} {n : Int} : ystep Γ μ τ K J (.sipush n) len pc lv st σ = (len = 3 ∧ J (pc + 3) lv (.int (Int16.ofInt n).toInt32 :: st) σ) := rfl
theorem ok_sipush {Γ : Cx} {μ : Mt} {τ : Tb} {K : Option Value → Hp → Prop} {J : Nat → Lv → List Value → Hp → Prop} {len pc : Nat} {lv : Lv} {st : List Value} {σ : Hp} {n : Int} (hτ : TbOK Γ μ τ) (hJ : ∀ pc lv st σ, J pc lv st σ → YG Γ μ K pc lv st σ) (hd : decode μ.2.2.1 pc = .ok ((.sipush n), len)) (h : len = 3 ∧ J (pc + 3) lv (.int (Int16.ofInt n).toInt32 :: st) σ) : YG Γ μ K pc lv st σ := by
  obtain ⟨rfl, h⟩ := h
  intro p e s m args below meth c H locs ls F B S hl
  exact lv_sipush F.1 F.2.1 hd rfl (hJ _ _ _ _ h p e s m args below meth c H locs ls F B S hl)
theorem st_lconst {Γ : Cx} {μ : Mt} {τ : Tb} {K : Option Value → Hp → Prop} {J : Nat → Lv → List Value → Hp → Prop} {len pc : Nat} {lv : Lv} {st : List Value} {σ : Hp} {n : Fin 2} : ystep Γ μ τ K J (.lconst n) len pc lv st σ = (len = 1 ∧ J (pc + 1) lv (.long (Int64.ofNat n.val) :: st) σ) := rfl
theorem ok_lconst {Γ : Cx} {μ : Mt} {τ : Tb} {K : Option Value → Hp → Prop} {J : Nat → Lv → List Value → Hp → Prop} {len pc : Nat} {lv : Lv} {st : List Value} {σ : Hp} {n : Fin 2} (hτ : TbOK Γ μ τ) (hJ : ∀ pc lv st σ, J pc lv st σ → YG Γ μ K pc lv st σ) (hd : decode μ.2.2.1 pc = .ok ((.lconst n), len)) (h : len = 1 ∧ J (pc + 1) lv (.long (Int64.ofNat n.val) :: st) σ) : YG Γ μ K pc lv st σ := by
  obtain ⟨rfl, h⟩ := h
  intro p e s m args below meth c H locs ls F B S hl
  exact lv_lconst F.1 F.2.1 hd rfl (hJ _ _ _ _ h p e s m args below meth c H locs ls F B S hl)
theorem st_iload_n {Γ : Cx} {μ : Mt} {τ : Tb} {K : Option Value → Hp → Prop} {J : Nat → Lv → List Value → Hp → Prop} {len pc : Nat} {lv : Lv} {st : List Value} {σ : Hp} {k : Fin 4} : ystep Γ μ τ K J (.iload_n k) len pc lv st σ = (len = 1 ∧ (match lg lv k.val with | some (.int x) => J (pc + 1) lv (.int x :: st) σ | _ => False)) := rfl
theorem ok_iload_n {Γ : Cx} {μ : Mt} {τ : Tb} {K : Option Value → Hp → Prop} {J : Nat → Lv → List Value → Hp → Prop} {len pc : Nat} {lv : Lv} {st : List Value} {σ : Hp} {k : Fin 4} (hτ : TbOK Γ μ τ) (hJ : ∀ pc lv st σ, J pc lv st σ → YG Γ μ K pc lv st σ) (hd : decode μ.2.2.1 pc = .ok ((.iload_n k), len)) (h : len = 1 ∧ (match lg lv k.val with | some (.int x) => J (pc + 1) lv (.int x :: st) σ | _ => False)) : YG Γ μ K pc lv st σ := by
  obtain ⟨rfl, h⟩ := h
  split at h
  · next x e0 =>
    intro p e s m args below meth c H locs ls F B S hl
    exact lv_iload_n F.1 F.2.1 hd rfl (lg_at hl e0) (hJ _ _ _ _ h p e s m args below meth c H locs ls F B S hl)
  · exact h.elim
theorem st_iload {Γ : Cx} {μ : Mt} {τ : Tb} {K : Option Value → Hp → Prop} {J : Nat → Lv → List Value → Hp → Prop} {len pc : Nat} {lv : Lv} {st : List Value} {σ : Hp} {k : Nat} : ystep Γ μ τ K J (.iload k) len pc lv st σ = (len = 2 ∧ (match lg lv k with | some (.int x) => J (pc + 2) lv (.int x :: st) σ | _ => False)) := rfl
theorem ok_iload {Γ : Cx} {μ : Mt} {τ : Tb} {K : Option Value → Hp → Prop} {J : Nat → Lv → List Value → Hp → Prop} {len pc : Nat} {lv : Lv} {st : List Value} {σ : Hp} {k : Nat} (hτ : TbOK Γ μ τ) (hJ : ∀ pc lv st σ, J pc lv st σ → YG Γ μ K pc lv st σ) (hd : decode μ.2.2.1 pc = .ok ((.iload k), len)) (h : len = 2 ∧ (match lg lv k with | some (.int x) => J (pc + 2) lv (.int x :: st) σ | _ => False)) : YG Γ μ K pc lv st σ := by
  obtain ⟨rfl, h⟩ := h
  split at h
  · next x e0 =>
    intro p e s m args below meth c H locs ls F B S hl
    exact lv_iload F.1 F.2.1 hd (lg_at hl e0) (hJ _ _ _ _ h p e s m args below meth c H locs ls F B S hl)
  · exact h.elim
theorem st_aload_n {Γ : Cx} {μ : Mt} {τ : Tb} {K : Option Value → Hp → Prop} {J : Nat → Lv → List Value → Hp → Prop} {len pc : Nat} {lv : Lv} {st : List Value} {σ : Hp} {k : Fin 4} : ystep Γ μ τ K J (.aload_n k) len pc lv st σ = (len = 1 ∧ (match lg lv k.val with | some (.ref x) => J (pc + 1) lv (.ref x :: st) σ | _ => False)) := rfl
theorem ok_aload_n {Γ : Cx} {μ : Mt} {τ : Tb} {K : Option Value → Hp → Prop} {J : Nat → Lv → List Value → Hp → Prop} {len pc : Nat} {lv : Lv} {st : List Value} {σ : Hp} {k : Fin 4} (hτ : TbOK Γ μ τ) (hJ : ∀ pc lv st σ, J pc lv st σ → YG Γ μ K pc lv st σ) (hd : decode μ.2.2.1 pc = .ok ((.aload_n k), len)) (h : len = 1 ∧ (match lg lv k.val with | some (.ref x) => J (pc + 1) lv (.ref x :: st) σ | _ => False)) : YG Γ μ K pc lv st σ := by
  obtain ⟨rfl, h⟩ := h
  split at h
  · next x e0 =>
    intro p e s m args below meth c H locs ls F B S hl
    exact lv_aload_n F.1 F.2.1 hd rfl (lg_at hl e0) (hJ _ _ _ _ h p e s m args below meth c H locs ls F B S hl)
  · exact h.elim
theorem st_aload {Γ : Cx} {μ : Mt} {τ : Tb} {K : Option Value → Hp → Prop} {J : Nat → Lv → List Value → Hp → Prop} {len pc : Nat} {lv : Lv} {st : List Value} {σ : Hp} {k : Nat} : ystep Γ μ τ K J (.aload k) len pc lv st σ = (len = 2 ∧ (match lg lv k with | some (.ref x) => J (pc + 2) lv (.ref x :: st) σ | _ => False)) := rfl
theorem ok_aload {Γ : Cx} {μ : Mt} {τ : Tb} {K : Option Value → Hp → Prop} {J : Nat → Lv → List Value → Hp → Prop} {len pc : Nat} {lv : Lv} {st : List Value} {σ : Hp} {k : Nat} (hτ : TbOK Γ μ τ) (hJ : ∀ pc lv st σ, J pc lv st σ → YG Γ μ K pc lv st σ) (hd : decode μ.2.2.1 pc = .ok ((.aload k), len)) (h : len = 2 ∧ (match lg lv k with | some (.ref x) => J (pc + 2) lv (.ref x :: st) σ | _ => False)) : YG Γ μ K pc lv st σ := by
  obtain ⟨rfl, h⟩ := h
  split at h
  · next x e0 =>
    intro p e s m args below meth c H locs ls F B S hl
    exact lv_aload F.1 F.2.1 hd (lg_at hl e0) (hJ _ _ _ _ h p e s m args below meth c H locs ls F B S hl)
  · exact h.elim
theorem st_lload_n {Γ : Cx} {μ : Mt} {τ : Tb} {K : Option Value → Hp → Prop} {J : Nat → Lv → List Value → Hp → Prop} {len pc : Nat} {lv : Lv} {st : List Value} {σ : Hp} {k : Fin 4} : ystep Γ μ τ K J (.lload_n k) len pc lv st σ = (len = 1 ∧ (match lg lv k.val with | some (.long x) => J (pc + 1) lv (.long x :: st) σ | _ => False)) := rfl
theorem ok_lload_n {Γ : Cx} {μ : Mt} {τ : Tb} {K : Option Value → Hp → Prop} {J : Nat → Lv → List Value → Hp → Prop} {len pc : Nat} {lv : Lv} {st : List Value} {σ : Hp} {k : Fin 4} (hτ : TbOK Γ μ τ) (hJ : ∀ pc lv st σ, J pc lv st σ → YG Γ μ K pc lv st σ) (hd : decode μ.2.2.1 pc = .ok ((.lload_n k), len)) (h : len = 1 ∧ (match lg lv k.val with | some (.long x) => J (pc + 1) lv (.long x :: st) σ | _ => False)) : YG Γ μ K pc lv st σ := by
  obtain ⟨rfl, h⟩ := h
  split at h
  · next x e0 =>
    intro p e s m args below meth c H locs ls F B S hl
    exact lv_lload_n F.1 F.2.1 hd rfl (lg_at hl e0) (hJ _ _ _ _ h p e s m args below meth c H locs ls F B S hl)
  · exact h.elim
theorem st_lload {Γ : Cx} {μ : Mt} {τ : Tb} {K : Option Value → Hp → Prop} {J : Nat → Lv → List Value → Hp → Prop} {len pc : Nat} {lv : Lv} {st : List Value} {σ : Hp} {k : Nat} : ystep Γ μ τ K J (.lload k) len pc lv st σ = (len = 2 ∧ (match lg lv k with | some (.long x) => J (pc + 2) lv (.long x :: st) σ | _ => False)) := rfl
theorem ok_lload {Γ : Cx} {μ : Mt} {τ : Tb} {K : Option Value → Hp → Prop} {J : Nat → Lv → List Value → Hp → Prop} {len pc : Nat} {lv : Lv} {st : List Value} {σ : Hp} {k : Nat} (hτ : TbOK Γ μ τ) (hJ : ∀ pc lv st σ, J pc lv st σ → YG Γ μ K pc lv st σ) (hd : decode μ.2.2.1 pc = .ok ((.lload k), len)) (h : len = 2 ∧ (match lg lv k with | some (.long x) => J (pc + 2) lv (.long x :: st) σ | _ => False)) : YG Γ μ K pc lv st σ := by
  obtain ⟨rfl, h⟩ := h
  split at h
  · next x e0 =>
    intro p e s m args below meth c H locs ls F B S hl
    exact lv_lload F.1 F.2.1 hd (lg_at hl e0) (hJ _ _ _ _ h p e s m args below meth c H locs ls F B S hl)
  · exact h.elim
theorem st_istore_n {Γ : Cx} {μ : Mt} {τ : Tb} {K : Option Value → Hp → Prop} {J : Nat → Lv → List Value → Hp → Prop} {len pc : Nat} {lv : Lv} {st : List Value} {σ : Hp} {k : Fin 4} : ystep Γ μ τ K J (.istore_n k) len pc lv st σ = (len = 1 ∧ s1i st fun x r => k.val < μ.2.2.2.1 ∧ J (pc + 1) (lput lv k.val (.int x)) r σ) := rfl
theorem ok_istore_n {Γ : Cx} {μ : Mt} {τ : Tb} {K : Option Value → Hp → Prop} {J : Nat → Lv → List Value → Hp → Prop} {len pc : Nat} {lv : Lv} {st : List Value} {σ : Hp} {k : Fin 4} (hτ : TbOK Γ μ τ) (hJ : ∀ pc lv st σ, J pc lv st σ → YG Γ μ K pc lv st σ) (hd : decode μ.2.2.1 pc = .ok ((.istore_n k), len)) (h : len = 1 ∧ s1i st fun x r => k.val < μ.2.2.2.1 ∧ J (pc + 1) (lput lv k.val (.int x)) r σ) : YG Γ μ K pc lv st σ := by
  obtain ⟨rfl, h⟩ := h
  match st, h with
  | .int x :: r, h =>
    intro p e s m args below meth c H locs ls F B S hl
    exact lv_istore_n F.1 F.2.1 hd rfl hl h.1 rfl (fun ls' hl' => hJ _ _ _ _ h.2 p e s m args below meth c H locs ls' F B S (lput_has hl'))
theorem st_istore {Γ : Cx} {μ : Mt} {τ : Tb} {K : Option Value → Hp → Prop} {J : Nat → Lv → List Value → Hp → Prop} {len pc : Nat} {lv : Lv} {st : List Value} {σ : Hp} {k : Nat} : ystep Γ μ τ K J (.istore k) len pc lv st σ = (len = 2 ∧ s1i st fun x r => k < μ.2.2.2.1 ∧ J (pc + 2) (lput lv k (.int x)) r σ) := rfl
theorem ok_istore {Γ : Cx} {μ : Mt} {τ : Tb} {K : Option Value → Hp → Prop} {J : Nat → Lv → List Value → Hp → Prop} {len pc : Nat} {lv : Lv} {st : List Value} {σ : Hp} {k : Nat} (hτ : TbOK Γ μ τ) (hJ : ∀ pc lv st σ, J pc lv st σ → YG Γ μ K pc lv st σ) (hd : decode μ.2.2.1 pc = .ok ((.istore k), len)) (h : len = 2 ∧ s1i st fun x r => k < μ.2.2.2.1 ∧ J (pc + 2) (lput lv k (.int x)) r σ) : YG Γ μ K pc lv st σ := by
  obtain ⟨rfl, h⟩ := h
  match st, h with
  | .int x :: r, h =>
    intro p e s m args below meth c H locs ls F B S hl
    exact lv_istore F.1 F.2.1 hd hl h.1 rfl (fun ls' hl' => hJ _ _ _ _ h.2 p e s m args below meth c H locs ls' F B S (lput_has hl'))
theorem st_astore_n {Γ : Cx} {μ : Mt} {τ : Tb} {K : Option Value → Hp → Prop} {J : Nat → Lv → List Value → Hp → Prop} {len pc : Nat} {lv : Lv} {st : List Value} {σ : Hp} {k : Fin 4} : ystep Γ μ τ K J (.astore_n k) len pc lv st σ = (len = 1 ∧ s1r st fun x r => k.val < μ.2.2.2.1 ∧ J (pc + 1) (lput lv k.val (.ref x)) r σ) := rfl
theorem ok_astore_n {Γ : Cx} {μ : Mt} {τ : Tb} {K : Option Value → Hp → Prop} {J : Nat → Lv → List Value → Hp → Prop} {len pc : Nat} {lv : Lv} {st : List Value} {σ : Hp} {k : Fin 4} (hτ : TbOK Γ μ τ) (hJ : ∀ pc lv st σ, J pc lv st σ → YG Γ μ K pc lv st σ) (hd : decode μ.2.2.1 pc = .ok ((.astore_n k), len)) (h : len = 1 ∧ s1r st fun x r => k.val < μ.2.2.2.1 ∧ J (pc + 1) (lput lv k.val (.ref x)) r σ) : YG Γ μ K pc lv st σ := by
  obtain ⟨rfl, h⟩ := h
  match st, h with
  | .ref x :: r, h =>
    intro p e s m args below meth c H locs ls F B S hl
    exact lv_astore_n F.1 F.2.1 hd rfl hl h.1 rfl (fun ls' hl' => hJ _ _ _ _ h.2 p e s m args below meth c H locs ls' F B S (lput_has hl'))
theorem st_astore {Γ : Cx} {μ : Mt} {τ : Tb} {K : Option Value → Hp → Prop} {J : Nat → Lv → List Value → Hp → Prop} {len pc : Nat} {lv : Lv} {st : List Value} {σ : Hp} {k : Nat} : ystep Γ μ τ K J (.astore k) len pc lv st σ = (len = 2 ∧ s1r st fun x r => k < μ.2.2.2.1 ∧ J (pc + 2) (lput lv k (.ref x)) r σ) := rfl
theorem ok_astore {Γ : Cx} {μ : Mt} {τ : Tb} {K : Option Value → Hp → Prop} {J : Nat → Lv → List Value → Hp → Prop} {len pc : Nat} {lv : Lv} {st : List Value} {σ : Hp} {k : Nat} (hτ : TbOK Γ μ τ) (hJ : ∀ pc lv st σ, J pc lv st σ → YG Γ μ K pc lv st σ) (hd : decode μ.2.2.1 pc = .ok ((.astore k), len)) (h : len = 2 ∧ s1r st fun x r => k < μ.2.2.2.1 ∧ J (pc + 2) (lput lv k (.ref x)) r σ) : YG Γ μ K pc lv st σ := by
  obtain ⟨rfl, h⟩ := h
  match st, h with
  | .ref x :: r, h =>
    intro p e s m args below meth c H locs ls F B S hl
    exact lv_astore F.1 F.2.1 hd hl h.1 rfl (fun ls' hl' => hJ _ _ _ _ h.2 p e s m args below meth c H locs ls' F B S (lput_has hl'))
theorem st_iinc {Γ : Cx} {μ : Mt} {τ : Tb} {K : Option Value → Hp → Prop} {J : Nat → Lv → List Value → Hp → Prop} {len pc : Nat} {lv : Lv} {st : List Value} {σ : Hp} {k : Nat} {n : Int} : ystep Γ μ τ K J (.iinc k n) len pc lv st σ = (len = 3 ∧ k < μ.2.2.2.1 ∧ (match lg lv k with | some (.int x) => J (pc + 3) (lput lv k (.int (x + Int32.ofInt n))) st σ | _ => False)) := rfl
theorem ok_iinc {Γ : Cx} {μ : Mt} {τ : Tb} {K : Option Value → Hp → Prop} {J : Nat → Lv → List Value → Hp → Prop} {len pc : Nat} {lv : Lv} {st : List Value} {σ : Hp} {k : Nat} {n : Int} (hτ : TbOK Γ μ τ) (hJ : ∀ pc lv st σ, J pc lv st σ → YG Γ μ K pc lv st σ) (hd : decode μ.2.2.1 pc = .ok ((.iinc k n), len)) (h : len = 3 ∧ k < μ.2.2.2.1 ∧ (match lg lv k with | some (.int x) => J (pc + 3) (lput lv k (.int (x + Int32.ofInt n))) st σ | _ => False)) : YG Γ μ K pc lv st σ := by
  obtain ⟨rfl, h0, h⟩ := h
  split at h
  · next x e0 =>
    intro p e s m args below meth c H locs ls F B S hl
    obtain ⟨j, hj⟩ := lg_ix e0
    exact lv_iinc F.1 F.2.1 hd hl hj rfl h0 rfl (fun ls' hl' => hJ _ _ _ _ h p e s m args below meth c H locs ls' F B S (lput_has hl'))
  · exact h.elim
theorem st_dup {Γ : Cx} {μ : Mt} {τ : Tb} {K : Option Value → Hp → Prop} {J : Nat → Lv → List Value → Hp → Prop} {len pc : Nat} {lv : Lv} {st : List Value} {σ : Hp} : ystep Γ μ τ K J .dup len pc lv st σ = (len = 1 ∧ sd1 st fun v r => J (pc + 1) lv (v :: v :: r) σ) := rfl
theorem ok_dup {Γ : Cx} {μ : Mt} {τ : Tb} {K : Option Value → Hp → Prop} {J : Nat → Lv → List Value → Hp → Prop} {len pc : Nat} {lv : Lv} {st : List Value} {σ : Hp} (hτ : TbOK Γ μ τ) (hJ : ∀ pc lv st σ, J pc lv st σ → YG Γ μ K pc lv st σ) (hd : decode μ.2.2.1 pc = .ok (.dup, len)) (h : len = 1 ∧ sd1 st fun v r => J (pc + 1) lv (v :: v :: r) σ) : YG Γ μ K pc lv st σ := by
  obtain ⟨rfl, h⟩ := h
  match st, h with
  | v :: r, h =>
    intro p e s m args below meth c H locs ls F B S hl
    exact lv_dup F.1 F.2.1 hd (isL_cat h.1) (hJ _ _ _ _ h.2 p e s m args below meth c H locs ls F B S hl)
theorem st_pop {Γ : Cx} {μ : Mt} {τ : Tb} {K : Option Value → Hp → Prop} {J : Nat → Lv → List Value → Hp → Prop} {len pc : Nat} {lv : Lv} {st : List Value} {σ : Hp} : ystep Γ μ τ K J .pop len pc lv st σ = (len = 1 ∧ sd1 st fun v r => J (pc + 1) lv r σ) := rfl
theorem ok_pop {Γ : Cx} {μ : Mt} {τ : Tb} {K : Option Value → Hp → Prop} {J : Nat → Lv → List Value → Hp → Prop} {len pc : Nat} {lv : Lv} {st : List Value} {σ : Hp} (hτ : TbOK Γ μ τ) (hJ : ∀ pc lv st σ, J pc lv st σ → YG Γ μ K pc lv st σ) (hd : decode μ.2.2.1 pc = .ok (.pop, len)) (h : len = 1 ∧ sd1 st fun v r => J (pc + 1) lv r σ) : YG Γ μ K pc lv st σ := by
  obtain ⟨rfl, h⟩ := h
  match st, h with
  | v :: r, h =>
    intro p e s m args below meth c H locs ls F B S hl
    exact lv_pop F.1 F.2.1 hd (isL_cat h.1) (hJ _ _ _ _ h.2 p e s m args below meth c H locs ls F B S hl)
theorem st_dup2 {Γ : Cx} {μ : Mt} {τ : Tb} {K : Option Value → Hp → Prop} {J : Nat → Lv → List Value → Hp → Prop} {len pc : Nat} {lv : Lv} {st : List Value} {σ : Hp} : ystep Γ μ τ K J .dup2 len pc lv st σ = (len = 1 ∧ sd2 st fun v w r => J (pc + 1) lv (v :: w :: v :: w :: r) σ) := rfl
theorem ok_dup2 {Γ : Cx} {μ : Mt} {τ : Tb} {K : Option Value → Hp → Prop} {J : Nat → Lv → List Value → Hp → Prop} {len pc : Nat} {lv : Lv} {st : List Value} {σ : Hp} (hτ : TbOK Γ μ τ) (hJ : ∀ pc lv st σ, J pc lv st σ → YG Γ μ K pc lv st σ) (hd : decode μ.2.2.1 pc = .ok (.dup2, len)) (h : len = 1 ∧ sd2 st fun v w r => J (pc + 1) lv (v :: w :: v :: w :: r) σ) : YG Γ μ K pc lv st σ := by
  obtain ⟨rfl, h⟩ := h
  match st, h with
  | v :: w :: r, h =>
    intro p e s m args below meth c H locs ls F B S hl
    exact lv_dup2_11 F.1 F.2.1 hd (isL_cat h.1) (isL_cat h.2.1) (hJ _ _ _ _ h.2.2 p e s m args below meth c H locs ls F B S hl)
theorem st_goto {Γ : Cx} {μ : Mt} {τ : Tb} {K : Option Value → Hp → Prop} {J : Nat → Lv → List Value → Hp → Prop} {len pc : Nat} {lv : Lv} {st : List Value} {σ : Hp} {off : Int} : ystep Γ μ τ K J (.goto off) len pc lv st σ = (len = 3 ∧ jmp pc off fun t => J t lv st σ) := rfl
theorem ok_goto {Γ : Cx} {μ : Mt} {τ : Tb} {K : Option Value → Hp → Prop} {J : Nat → Lv → List Value → Hp → Prop} {len pc : Nat} {lv : Lv} {st : List Value} {σ : Hp} {off : Int} (hτ : TbOK Γ μ τ) (hJ : ∀ pc lv st σ, J pc lv st σ → YG Γ μ K pc lv st σ) (hd : decode μ.2.2.1 pc = .ok ((.goto off), len)) (h : len = 3 ∧ jmp pc off fun t => J t lv st σ) : YG Γ μ K pc lv st σ := by
  obtain ⟨rfl, h⟩ := h
  obtain ⟨t, ht, h⟩ := jmp_spec h
  intro p e s m args below meth c H locs ls F B S hl
  exact lv_goto F.1 F.2.1 hd ht (hJ _ _ _ _ h p e s m args below meth c H locs ls F B S hl)
theorem st_ifCond {Γ : Cx} {μ : Mt} {τ : Tb} {K : Option Value → Hp → Prop} {J : Nat → Lv → List Value → Hp → Prop} {len pc : Nat} {lv : Lv} {st : List Value} {σ : Hp} {cn : ClassFile.Cond} {off : Int} : ystep Γ μ τ K J (.ifCond cn off) len pc lv st σ = (len = 3 ∧ s1i st fun x r => jmp pc off fun t => (cnd1 cn x → J t lv r σ) ∧ (¬ cnd1 cn x → J (pc + 3) lv r σ)) := rfl
theorem ok_ifCond {Γ : Cx} {μ : Mt} {τ : Tb} {K : Option Value → Hp → Prop} {J : Nat → Lv → List Value → Hp → Prop} {len pc : Nat} {lv : Lv} {st : List Value} {σ : Hp} {cn : ClassFile.Cond} {off : Int} (hτ : TbOK Γ μ τ) (hJ : ∀ pc lv st σ, J pc lv st σ → YG Γ μ K pc lv st σ) (hd : decode μ.2.2.1 pc = .ok ((.ifCond cn off), len)) (h : len = 3 ∧ s1i st fun x r => jmp pc off fun t => (cnd1 cn x → J t lv r σ) ∧ (¬ cnd1 cn x → J (pc + 3) lv r σ)) : YG Γ μ K pc lv st σ := by
  obtain ⟨rfl, h⟩ := h
  match st, h with
  | .int x :: r, h =>
    obtain ⟨t, ht, h1, h2⟩ := jmp_spec h
    intro p e s m args below meth c H locs ls F B S hl
    cases cn
    case eq => exact lv_if_eq F.1 F.2.1 hd ht (fun z => hJ _ _ _ _ (h1 (cnd1_eq.mpr z)) p e s m args below meth c H locs ls F B S hl) (fun z => hJ _ _ _ _ (h2 (fun q => z (cnd1_eq.mp q))) p e s m args below meth c H locs ls F B S hl)
    case ne => exact lv_if_ne F.1 F.2.1 hd ht (fun z => hJ _ _ _ _ (h1 (cnd1_ne.mpr z)) p e s m args below meth c H locs ls F B S hl) (fun z => hJ _ _ _ _ (h2 (fun q => cnd1_ne.mp q z)) p e s m args below meth c H locs ls F B S hl)
    case lt => exact lv_if_lt F.1 F.2.1 hd ht (fun z => hJ _ _ _ _ (h1 (cnd1_lt.mpr z)) p e s m args below meth c H locs ls F B S hl) (fun z => hJ _ _ _ _ (h2 (fun q => z (cnd1_lt.mp q))) p e s m args below meth c H locs ls F B S hl)
    case ge => exact lv_if_ge F.1 F.2.1 hd ht (fun z => hJ _ _ _ _ (h1 (cnd1_ge.mpr z)) p e s m args below meth c H locs ls F B S hl) (fun z => hJ _ _ _ _ (h2 (fun q => z (cnd1_ge.mp q))) p e s m args below meth c H locs ls F B S hl)
    case gt => exact lv_if_gt F.1 F.2.1 hd ht (fun z => hJ _ _ _ _ (h1 (cnd1_gt.mpr z)) p e s m args below meth c H locs ls F B S hl) (fun z => hJ _ _ _ _ (h2 (fun q => z (cnd1_gt.mp q))) p e s m args below meth c H locs ls F B S hl)
    case le => exact lv_if_le F.1 F.2.1 hd ht (fun z => hJ _ _ _ _ (h1 (cnd1_le.mpr z)) p e s m args below meth c H locs ls F B S hl) (fun z => hJ _ _ _ _ (h2 (fun q => z (cnd1_le.mp q))) p e s m args below meth c H locs ls F B S hl)
theorem st_if_icmp {Γ : Cx} {μ : Mt} {τ : Tb} {K : Option Value → Hp → Prop} {J : Nat → Lv → List Value → Hp → Prop} {len pc : Nat} {lv : Lv} {st : List Value} {σ : Hp} {cn : ClassFile.Cond} {off : Int} : ystep Γ μ τ K J (.if_icmp cn off) len pc lv st σ = (len = 3 ∧ s2i st fun x y r => jmp pc off fun t => (cnd2 cn x y → J t lv r σ) ∧ (¬ cnd2 cn x y → J (pc + 3) lv r σ)) := rfl
theorem ok_if_icmp {Γ : Cx} {μ : Mt} {τ : Tb} {K : Option Value → Hp → Prop} {J : Nat → Lv → List Value → Hp → Prop} {len pc : Nat} {lv : Lv} {st : List Value} {σ : Hp} {cn : ClassFile.Cond} {off : Int} (hτ : TbOK Γ μ τ) (hJ : ∀ pc lv st σ, J pc lv st σ → YG Γ μ K pc lv st σ) (hd : decode μ.2.2.1 pc = .ok ((.if_icmp cn off), len)) (h : len = 3 ∧ s2i st fun x y r => jmp pc off fun t => (cnd2 cn x y → J t lv r σ) ∧ (¬ cnd2 cn x y → J (pc + 3) lv r σ)) : YG Γ μ K pc lv st σ := by
  obtain ⟨rfl, h⟩ := h
  match st, h with
  | .int y :: .int x :: r, h =>
    obtain ⟨t, ht, h1, h2⟩ := jmp_spec h
    intro p e s m args below meth c H locs ls F B S hl
    cases cn
    case eq => exact lv_icmp_eq F.1 F.2.1 hd ht (fun z => hJ _ _ _ _ (h1 (cnd2_eq.mpr z)) p e s m args below meth c H locs ls F B S hl) (fun z => hJ _ _ _ _ (h2 (fun q => z (cnd2_eq.mp q))) p e s m args below meth c H locs ls F B S hl)
    case ne => exact lv_icmp_ne F.1 F.2.1 hd ht (fun z => hJ _ _ _ _ (h1 (cnd2_ne.mpr z)) p e s m args below meth c H locs ls F B S hl) (fun z => hJ _ _ _ _ (h2 (fun q => cnd2_ne.mp q z)) p e s m args below meth c H locs ls F B S hl)
    case lt => exact lv_icmp_lt F.1 F.2.1 hd ht (fun z => hJ _ _ _ _ (h1 (cnd2_lt.mpr z)) p e s m args below meth c H locs ls F B S hl) (fun z => hJ _ _ _ _ (h2 (fun q => z (cnd2_lt.mp q))) p e s m args below meth c H locs ls F B S hl)
    case ge => exact lv_icmp_ge F.1 F.2.1 hd ht (fun z => hJ _ _ _ _ (h1 (cnd2_ge.mpr z)) p e s m args below meth c H locs ls F B S hl) (fun z => hJ _ _ _ _ (h2 (fun q => z (cnd2_ge.mp q))) p e s m args below meth c H locs ls F B S hl)
    case gt => exact lv_icmp_gt F.1 F.2.1 hd ht (fun z => hJ _ _ _ _ (h1 (cnd2_gt.mpr z)) p e s m args below meth c H locs ls F B S hl) (fun z => hJ _ _ _ _ (h2 (fun q => z (cnd2_gt.mp q))) p e s m args below meth c H locs ls F B S hl)
    case le => exact lv_icmp_le F.1 F.2.1 hd ht (fun z => hJ _ _ _ _ (h1 (cnd2_le.mpr z)) p e s m args below meth c H locs ls F B S hl) (fun z => hJ _ _ _ _ (h2 (fun q => z (cnd2_le.mp q))) p e s m args below meth c H locs ls F B S hl)
theorem st_lcmp {Γ : Cx} {μ : Mt} {τ : Tb} {K : Option Value → Hp → Prop} {J : Nat → Lv → List Value → Hp → Prop} {len pc : Nat} {lv : Lv} {st : List Value} {σ : Hp} : ystep Γ μ τ K J .lcmp len pc lv st σ = (len = 1 ∧ s2l st fun x y r => J (pc + 1) lv (.int (lg_cmp x y) :: r) σ) := rfl
theorem ok_lcmp {Γ : Cx} {μ : Mt} {τ : Tb} {K : Option Value → Hp → Prop} {J : Nat → Lv → List Value → Hp → Prop} {len pc : Nat} {lv : Lv} {st : List Value} {σ : Hp} (hτ : TbOK Γ μ τ) (hJ : ∀ pc lv st σ, J pc lv st σ → YG Γ μ K pc lv st σ) (hd : decode μ.2.2.1 pc = .ok (.lcmp, len)) (h : len = 1 ∧ s2l st fun x y r => J (pc + 1) lv (.int (lg_cmp x y) :: r) σ) : YG Γ μ K pc lv st σ := by
  obtain ⟨rfl, h⟩ := h
  match st, h with
  | .long y :: .long x :: r, h =>
    intro p e s m args below meth c H locs ls F B S hl
    exact W.lcmp F.1 F.2.1 hd (hJ _ _ _ _ h p e s m args below meth c H locs ls F B S hl)
theorem st_ldc {Γ : Cx} {μ : Mt} {τ : Tb} {K : Option Value → Hp → Prop} {J : Nat → Lv → List Value → Hp → Prop} {len pc : Nat} {lv : Lv} {st : List Value} {σ : Hp} {i : Nat} : ystep Γ μ τ K J (.ldc i) len pc lv st σ = (len = 2 ∧ (match τ.2.1 i with | some (.inl v) => J (pc + 2) lv (.int v :: st) σ | some (.inr _) => False | none => μ.2.1 = RX5 ∧ i = 58 ∧ J (pc + 2) lv (.ref Γ.2.2.2.2.1 :: st) σ)) := rfl
theorem ok_ldc {Γ : Cx} {μ : Mt} {τ : Tb} {K : Option Value → Hp → Prop} {J : Nat → Lv → List Value → Hp → Prop} {len pc : Nat} {lv : Lv} {st : List Value} {σ : Hp} {i : Nat} (hτ : TbOK Γ μ τ) (hJ : ∀ pc lv st σ, J pc lv st σ → YG Γ μ K pc lv st σ) (hd : decode μ.2.2.1 pc = .ok ((.ldc i), len)) (h : len = 2 ∧ (match τ.2.1 i with | some (.inl v) => J (pc + 2) lv (.int v :: st) σ | some (.inr _) => False | none => μ.2.1 = RX5 ∧ i = 58 ∧ J (pc + 2) lv (.ref Γ.2.2.2.2.1 :: st) σ)) : YG Γ μ K pc lv st σ := by
  obtain ⟨rfl, h⟩ := h
  split at h
  · next v e0 =>
    intro p e s m args below meth c H locs ls F B S hl
    exact lv_ldc F.1 F.2.1 F.2.2.2.1 (F.2.2.2.2.1 _ (hτ.2.1 _ _ e0)) hd (hJ _ _ _ _ h p e s m args below meth c H locs ls F B S hl)
  · exact h.elim
  · obtain ⟨ho, rfl, h⟩ := h
    intro p e s m args below meth c H locs ls F B S hl
    have hown := F.2.2.2.1
    rw [ho] at hown
    exact va_ldcS F.1 F.2.1 hown F.2.2.2.2.2.2.2.1.2.2.1 hd (hJ _ _ _ _ h p e s m args below meth c H locs ls F B S hl)
theorem st_ldc_w {Γ : Cx} {μ : Mt} {τ : Tb} {K : Option Value → Hp → Prop} {J : Nat → Lv → List Value → Hp → Prop} {len pc : Nat} {lv : Lv} {st : List Value} {σ : Hp} {i : Nat} : ystep Γ μ τ K J (.ldc_w i) len pc lv st σ = (len = 3 ∧ (match τ.2.1 i with | some (.inl v) => J (pc + 3) lv (.int v :: st) σ | _ => False)) := rfl
theorem ok_ldc_w {Γ : Cx} {μ : Mt} {τ : Tb} {K : Option Value → Hp → Prop} {J : Nat → Lv → List Value → Hp → Prop} {len pc : Nat} {lv : Lv} {st : List Value} {σ : Hp} {i : Nat} (hτ : TbOK Γ μ τ) (hJ : ∀ pc lv st σ, J pc lv st σ → YG Γ μ K pc lv st σ) (hd : decode μ.2.2.1 pc = .ok ((.ldc_w i), len)) (h : len = 3 ∧ (match τ.2.1 i with | some (.inl v) => J (pc + 3) lv (.int v :: st) σ | _ => False)) : YG Γ μ K pc lv st σ := by
  obtain ⟨rfl, h⟩ := h
  split at h
  · next v e0 =>
    intro p e s m args below meth c H locs ls F B S hl
    exact lv_ldcw F.1 F.2.1 F.2.2.2.1 (F.2.2.2.2.1 _ (hτ.2.1 _ _ e0)) hd (hJ _ _ _ _ h p e s m args below meth c H locs ls F B S hl)
  · exact h.elim
theorem st_ldc2_w {Γ : Cx} {μ : Mt} {τ : Tb} {K : Option Value → Hp → Prop} {J : Nat → Lv → List Value → Hp → Prop} {len pc : Nat} {lv : Lv} {st : List Value} {σ : Hp} {i : Nat} : ystep Γ μ τ K J (.ldc2_w i) len pc lv st σ = (len = 3 ∧ (match τ.2.1 i with | some (.inr v) => J (pc + 3) lv (.long v :: st) σ | _ => False)) := rfl
theorem ok_ldc2_w {Γ : Cx} {μ : Mt} {τ : Tb} {K : Option Value → Hp → Prop} {J : Nat → Lv → List Value → Hp → Prop} {len pc : Nat} {lv : Lv} {st : List Value} {σ : Hp} {i : Nat} (hτ : TbOK Γ μ τ) (hJ : ∀ pc lv st σ, J pc lv st σ → YG Γ μ K pc lv st σ) (hd : decode μ.2.2.1 pc = .ok ((.ldc2_w i), len)) (h : len = 3 ∧ (match τ.2.1 i with | some (.inr v) => J (pc + 3) lv (.long v :: st) σ | _ => False)) : YG Γ μ K pc lv st σ := by
  obtain ⟨rfl, h⟩ := h
  split at h
  · next v e0 =>
    intro p e s m args below meth c H locs ls F B S hl
    exact lv_ldc2 F.1 F.2.1 F.2.2.2.1 (F.2.2.2.2.1 _ (hτ.2.2.1 _ _ e0)) hd (hJ _ _ _ _ h p e s m args below meth c H locs ls F B S hl)
  · exact h.elim
theorem st_getfield {Γ : Cx} {μ : Mt} {τ : Tb} {K : Option Value → Hp → Prop} {J : Nat → Lv → List Value → Hp → Prop} {len pc : Nat} {lv : Lv} {st : List Value} {σ : Hp} {i : Nat} : ystep Γ μ τ K J (.getfield i) len pc lv st σ = (len = 3 ∧ s1r st fun a r => (match μ.2.2.2.2.2.2 with | some false => strF Γ μ i a (fun v => J (pc + 3) lv (v :: r) σ) | _ => obj σ a fun ci fs => (match τ.1 i ci with | some (k, _) => (match fs[k]? with | some v => J (pc + 3) lv (v :: r) σ | none => False) | none => False))) := rfl
theorem ok_getfield {Γ : Cx} {μ : Mt} {τ : Tb} {K : Option Value → Hp → Prop} {J : Nat → Lv → List Value → Hp → Prop} {len pc : Nat} {lv : Lv} {st : List Value} {σ : Hp} {i : Nat} (hτ : TbOK Γ μ τ) (hJ : ∀ pc lv st σ, J pc lv st σ → YG Γ μ K pc lv st σ) (hd : decode μ.2.2.1 pc = .ok ((.getfield i), len)) (h : len = 3 ∧ s1r st fun a r => (match μ.2.2.2.2.2.2 with | some false => strF Γ μ i a (fun v => J (pc + 3) lv (v :: r) σ) | _ => obj σ a fun ci fs => (match τ.1 i ci with | some (k, _) => (match fs[k]? with | some v => J (pc + 3) lv (v :: r) σ | none => False) | none => False))) : YG Γ μ K pc lv st σ := by
  obtain ⟨rfl, h⟩ := h
  match st, h with
  | .ref a :: r, h =>
    simp only [s1r] at h
    split at h
    · obtain ⟨rfl, ho, h⟩ := h
      intro p e s m args below meth c H locs ls F B S hl
      have hown := F.2.2.2.1
      rw [ho] at hown
      have hE := F.2.2.2.2.2.2.2.1.2.2.2.1.1 0 (by decide)
      split at h
      · exact vk_getf F.1 F.2.1 hE.2.1 S hown (F.2.2.2.2.1 _ bw_1070) (fun x hx => hx) hd (hJ _ _ _ _ h p e s m args below meth c H locs ls F B S hl)
      · exact vk_getf F.1 F.2.1 hE.2.2.1 S hown (F.2.2.2.2.1 _ bw_1071) (fun x hx => hx) hd (hJ _ _ _ _ h p e s m args below meth c H locs ls F B S hl)
      · exact h.elim
    obtain ⟨ha, h⟩ := h
    split at h
    · next ci fs e0 =>
      split at h
      · next k b e1 =>
        split at h
        · next v e2 =>
          intro p e s m args below meth c H locs ls F B S hl
          obtain ⟨C, T, N, ref, f1, f2, f3, f4, -⟩ := hτ.2.2.2.1 _ _ _ _ e1
          obtain ⟨q0, hq⟩ := va_pl_get (X := []) (f := σ.2) ha
          rw [e0] at hq
          exact va_get F.1 F.2.1 F.2.2.2.2.1 f4.1 F.2.2.2.1 F.2.2.2.2.2.2.2.1.1 B.1 q0 hq f1 k f2 (F.2.2.2.2.1 _ f3) (f4.2.elim (fun z x hx => by rw [z]; exact hx) (fun z => u_same (F.2.2.2.2.1 _ z))) e2 hd (hJ _ _ _ _ h p e s m args below meth c H locs ls F B S hl)
        · exact h.elim
      · exact h.elim
    · exact h.elim
theorem st_putfield {Γ : Cx} {μ : Mt} {τ : Tb} {K : Option Value → Hp → Prop} {J : Nat → Lv → List Value → Hp → Prop} {len pc : Nat} {lv : Lv} {st : List Value} {σ : Hp} {i : Nat} : ystep Γ μ τ K J (.putfield i) len pc lv st σ = (len = 3 ∧ svr st fun a x r => obj σ a fun ci fs => (match τ.1 i ci with | some (k, b) => fput b x ∧ k < fs.length ∧ J (pc + 3) lv r (hput σ a (.inr (ci, fs.set k (.int x)))) | none => False)) := rfl
theorem ok_putfield {Γ : Cx} {μ : Mt} {τ : Tb} {K : Option Value → Hp → Prop} {J : Nat → Lv → List Value → Hp → Prop} {len pc : Nat} {lv : Lv} {st : List Value} {σ : Hp} {i : Nat} (hτ : TbOK Γ μ τ) (hJ : ∀ pc lv st σ, J pc lv st σ → YG Γ μ K pc lv st σ) (hd : decode μ.2.2.1 pc = .ok ((.putfield i), len)) (h : len = 3 ∧ svr st fun a x r => obj σ a fun ci fs => (match τ.1 i ci with | some (k, b) => fput b x ∧ k < fs.length ∧ J (pc + 3) lv r (hput σ a (.inr (ci, fs.set k (.int x)))) | none => False)) : YG Γ μ K pc lv st σ := by
  obtain ⟨rfl, h⟩ := h
  match st, h with
  | .int x :: .ref a :: r, h =>
    obtain ⟨ha, h⟩ := h
    split at h
    · next ci fs e0 =>
      split at h
      · next k b e1 =>
        obtain ⟨h1, h2, h⟩ := h
        intro p e s m args below meth c H locs ls F B S hl
        obtain ⟨C, T, N, ref, f1, f2, f3, f4, f5, ty0, f6, f7⟩ := hτ.2.2.2.1 _ _ _ _ e1
        obtain ⟨q0, hq⟩ := va_pl_get (X := []) (f := σ.2) ha
        have hset := va_pl_set (X := []) (e := .inr (ci, fs.set k (.int x))) B.2 ha hq
        rw [e0] at hq
        obtain ⟨ty, g1, g2, g3, g4⟩ := f5 x h1
        refine va_put F.1 F.2.1 F.2.2.2.2.1 f4.1 ty0 f6 f7 F.2.2.2.1 F.2.2.2.2.2.2.2.1.1 B.1 B.2 S q0 hq f1 k f2 (F.2.2.2.2.1 _ f3) (f4.2.elim (fun z x hx => by rw [z]; exact hx) (fun z => u_same (F.2.2.2.2.1 _ z))) g1 g2 g3 g4 h2 hd (fun H1 locs1 hP1 hD1 hS1 => ?_)
        simp only [List.nil_append] at hset
        rw [hset] at hP1 hD1
        exact hJ _ _ _ _ h p e s m args below meth c H1 locs1 ls F ⟨hP1, hD1⟩ hS1 hl
      · exact h.elim
    · exact h.elim
theorem st_iaload {Γ : Cx} {μ : Mt} {τ : Tb} {K : Option Value → Hp → Prop} {J : Nat → Lv → List Value → Hp → Prop} {len pc : Nat} {lv : Lv} {st : List Value} {σ : Hp} : ystep Γ μ τ K J .iaload len pc lv st σ = (len = 1 ∧ sir st fun a i r => (match μ.2.2.2.2.2.2 with | some true => a = Γ.2.2.2.2.2.2.1 ∧ vp_in i Γ.2.2.2.2.2.2.2.1 ∧ J (pc + 1) lv (.int (Γ.2.2.2.2.2.2.2.2 i.toNatClampNeg) :: r) σ | some false => False | none => arI Γ σ a fun n f => vp_in i n ∧ J (pc + 1) lv (.int (f i.toNatClampNeg) :: r) σ)) := rfl
theorem ok_iaload {Γ : Cx} {μ : Mt} {τ : Tb} {K : Option Value → Hp → Prop} {J : Nat → Lv → List Value → Hp → Prop} {len pc : Nat} {lv : Lv} {st : List Value} {σ : Hp} (hτ : TbOK Γ μ τ) (hJ : ∀ pc lv st σ, J pc lv st σ → YG Γ μ K pc lv st σ) (hd : decode μ.2.2.1 pc = .ok (.iaload, len)) (h : len = 1 ∧ sir st fun a i r => (match μ.2.2.2.2.2.2 with | some true => a = Γ.2.2.2.2.2.2.1 ∧ vp_in i Γ.2.2.2.2.2.2.2.1 ∧ J (pc + 1) lv (.int (Γ.2.2.2.2.2.2.2.2 i.toNatClampNeg) :: r) σ | some false => False | none => arI Γ σ a fun n f => vp_in i n ∧ J (pc + 1) lv (.int (f i.toNatClampNeg) :: r) σ)) : YG Γ μ K pc lv st σ := by
  obtain ⟨rfl, h⟩ := h
  match st, h with
  | .int i :: .ref a :: r, h =>
    simp only [sir] at h
    split at h
    · obtain ⟨rfl, h1, h⟩ := h
      intro p e s m args below meth c H locs ls F B S hl
      have hX := F.2.2.2.2.2.2.2.1.2.2.2.2.2.1
      exact va_sld F.1 F.2.1 hX (by obtain ⟨scr, hb, -⟩ := hX; exact (Array.getElem?_eq_some_iff.mp hb).1) F.2.2.2.2.2.2.2.1.2.2.2.2.2.2 S h1 hd (hJ _ _ _ _ h p e s m args below meth c H locs ls F B S hl)
    · exact h.elim
    · obtain ⟨ha, h⟩ := h
      split at h
      · next cA n f e0 =>
        obtain ⟨rfl, h1, h⟩ := h
        intro p e s m args below meth c H locs ls F B S hl
        obtain ⟨q0, hq⟩ := va_pl_get (X := []) (f := σ.2) ha
        rw [e0] at hq
        exact va_iald F.1 F.2.1 F.2.2.2.2.2.2.2.1.1 B.1 q0 0 hq rfl h1 hd (hJ _ _ _ _ h p e s m args below meth c H locs ls F B S hl)
      · exact h.elim
theorem st_arraylength {Γ : Cx} {μ : Mt} {τ : Tb} {K : Option Value → Hp → Prop} {J : Nat → Lv → List Value → Hp → Prop} {len pc : Nat} {lv : Lv} {st : List Value} {σ : Hp} : ystep Γ μ τ K J .arraylength len pc lv st σ = (len = 1 ∧ s1r st fun a r => (match μ.2.2.2.2.2.2 with | some true => a = Γ.2.2.2.2.2.2.1 ∧ J (pc + 1) lv (.int (Int32.ofNat Γ.2.2.2.2.2.2.2.1) :: r) σ | some false => a = Γ.2.2.2.2.2.1 ∧ J (pc + 1) lv (.int 5 :: r) σ | none => arI Γ σ a fun n f => J (pc + 1) lv (.int (Int32.ofNat n) :: r) σ)) := rfl
theorem ok_arraylength {Γ : Cx} {μ : Mt} {τ : Tb} {K : Option Value → Hp → Prop} {J : Nat → Lv → List Value → Hp → Prop} {len pc : Nat} {lv : Lv} {st : List Value} {σ : Hp} (hτ : TbOK Γ μ τ) (hJ : ∀ pc lv st σ, J pc lv st σ → YG Γ μ K pc lv st σ) (hd : decode μ.2.2.1 pc = .ok (.arraylength, len)) (h : len = 1 ∧ s1r st fun a r => (match μ.2.2.2.2.2.2 with | some true => a = Γ.2.2.2.2.2.2.1 ∧ J (pc + 1) lv (.int (Int32.ofNat Γ.2.2.2.2.2.2.2.1) :: r) σ | some false => a = Γ.2.2.2.2.2.1 ∧ J (pc + 1) lv (.int 5 :: r) σ | none => arI Γ σ a fun n f => J (pc + 1) lv (.int (Int32.ofNat n) :: r) σ)) : YG Γ μ K pc lv st σ := by
  obtain ⟨rfl, h⟩ := h
  match st, h with
  | .ref a :: r, h =>
    simp only [s1r] at h
    split at h
    · obtain ⟨rfl, h⟩ := h
      intro p e s m args below meth c H locs ls F B S hl
      have hX := F.2.2.2.2.2.2.2.1.2.2.2.2.2.1
      exact va_slen F.1 F.2.1 hX (by obtain ⟨scr, hb, -⟩ := hX; exact (Array.getElem?_eq_some_iff.mp hb).1) F.2.2.2.2.2.2.2.1.2.2.2.2.2.2 S hd (hJ _ _ _ _ h p e s m args below meth c H locs ls F B S hl)
    · obtain ⟨rfl, h⟩ := h
      intro p e s m args below meth c H locs ls F B S hl
      exact va_tlen F.1 F.2.1 (F.2.2.2.2.2.2.2.1.2.2.2.1.1 0 (by decide)).2.2.2 S rfl hd (hJ _ _ _ _ h p e s m args below meth c H locs ls F B S hl)
    · obtain ⟨ha, h⟩ := h
      split at h
      · next cA n f e0 =>
        obtain ⟨rfl, h⟩ := h
        intro p e s m args below meth c H locs ls F B S hl
        obtain ⟨q0, hq⟩ := va_pl_get (X := []) (f := σ.2) ha
        rw [e0] at hq
        exact va_alen F.1 F.2.1 F.2.2.2.2.2.2.2.1.1 B.1 q0 0 hq rfl rfl hd (hJ _ _ _ _ h p e s m args below meth c H locs ls F B S hl)
      · exact h.elim
theorem st_baload {Γ : Cx} {μ : Mt} {τ : Tb} {K : Option Value → Hp → Prop} {J : Nat → Lv → List Value → Hp → Prop} {len pc : Nat} {lv : Lv} {st : List Value} {σ : Hp} : ystep Γ μ τ K J .baload len pc lv st σ = (len = 1 ∧ sir st fun a i r => (match μ.2.2.2.2.2.2 with | some false => a = Γ.2.2.2.2.2.1 ∧ vp_in i 5 ∧ J (pc + 1) lv (.int (([100, 99, 111, 108, 98] : List Int32).getD i.toNatClampNeg 0) :: r) σ | _ => False)) := rfl
theorem ok_baload {Γ : Cx} {μ : Mt} {τ : Tb} {K : Option Value → Hp → Prop} {J : Nat → Lv → List Value → Hp → Prop} {len pc : Nat} {lv : Lv} {st : List Value} {σ : Hp} (hτ : TbOK Γ μ τ) (hJ : ∀ pc lv st σ, J pc lv st σ → YG Γ μ K pc lv st σ) (hd : decode μ.2.2.1 pc = .ok (.baload, len)) (h : len = 1 ∧ sir st fun a i r => (match μ.2.2.2.2.2.2 with | some false => a = Γ.2.2.2.2.2.1 ∧ vp_in i 5 ∧ J (pc + 1) lv (.int (([100, 99, 111, 108, 98] : List Int32).getD i.toNatClampNeg 0) :: r) σ | _ => False)) : YG Γ μ K pc lv st σ := by
  obtain ⟨rfl, h⟩ := h
  match st, h with
  | .int i :: .ref a :: r, h =>
    simp only [sir] at h
    split at h
    · obtain ⟨rfl, h1, h⟩ := h
      intro p e s m args below meth c H locs ls F B S hl
      exact va_tb F.1 F.2.1 (F.2.2.2.2.2.2.2.1.2.2.2.1.1 0 (by decide)).2.2.2 S h1 rfl hd (hJ _ _ _ _ h p e s m args below meth c H locs ls F B S hl)
    · exact h.elim
theorem st_getstatic {Γ : Cx} {μ : Mt} {τ : Tb} {K : Option Value → Hp → Prop} {J : Nat → Lv → List Value → Hp → Prop} {len pc : Nat} {lv : Lv} {st : List Value} {σ : Hp} {i : Nat} : ystep Γ μ τ K J (.getstatic i) len pc lv st σ = (len = 3 ∧ (match μ.2.2.2.2.2.2 with | some false => μ.2.1 = RJ0 ∧ i = 38 ∧ J (pc + 3) lv (.int 1 :: st) σ | _ => False)) := rfl
theorem ok_getstatic {Γ : Cx} {μ : Mt} {τ : Tb} {K : Option Value → Hp → Prop} {J : Nat → Lv → List Value → Hp → Prop} {len pc : Nat} {lv : Lv} {st : List Value} {σ : Hp} {i : Nat} (hτ : TbOK Γ μ τ) (hJ : ∀ pc lv st σ, J pc lv st σ → YG Γ μ K pc lv st σ) (hd : decode μ.2.2.1 pc = .ok ((.getstatic i), len)) (h : len = 3 ∧ (match μ.2.2.2.2.2.2 with | some false => μ.2.1 = RJ0 ∧ i = 38 ∧ J (pc + 3) lv (.int 1 :: st) σ | _ => False)) : YG Γ μ K pc lv st σ := by
  obtain ⟨rfl, h⟩ := h
  split at h
  · obtain ⟨ho, rfl, h⟩ := h
    intro p e s m args below meth c H locs ls F B S hl
    have hown := F.2.2.2.1
    rw [ho] at hown
    exact va_gets F.1 F.2.1 F.2.2.2.2.2.2.2.1.2.2.2.2.1 S hown (F.2.2.2.2.1 _ bw_367) (fun x hx => hx) hd (hJ _ _ _ _ h p e s m args below meth c H locs ls F B S hl)
  · exact h.elim
theorem st_laload {Γ : Cx} {μ : Mt} {τ : Tb} {K : Option Value → Hp → Prop} {J : Nat → Lv → List Value → Hp → Prop} {len pc : Nat} {lv : Lv} {st : List Value} {σ : Hp} : ystep Γ μ τ K J .laload len pc lv st σ = (len = 1 ∧ sir st fun a i r => arL Γ σ a fun n f => vp_in i n ∧ J (pc + 1) lv (.long (f i.toNatClampNeg) :: r) σ) := rfl
theorem ok_laload {Γ : Cx} {μ : Mt} {τ : Tb} {K : Option Value → Hp → Prop} {J : Nat → Lv → List Value → Hp → Prop} {len pc : Nat} {lv : Lv} {st : List Value} {σ : Hp} (hτ : TbOK Γ μ τ) (hJ : ∀ pc lv st σ, J pc lv st σ → YG Γ μ K pc lv st σ) (hd : decode μ.2.2.1 pc = .ok (.laload, len)) (h : len = 1 ∧ sir st fun a i r => arL Γ σ a fun n f => vp_in i n ∧ J (pc + 1) lv (.long (f i.toNatClampNeg) :: r) σ) : YG Γ μ K pc lv st σ := by
  obtain ⟨rfl, h⟩ := h
  match st, h with
  | .int i :: .ref a :: r, h =>
    obtain ⟨ha, h⟩ := h
    split at h
    · next cA n f e0 =>
      obtain ⟨rfl, h1, h⟩ := h
      intro p e s m args below meth c H locs ls F B S hl
      obtain ⟨q0, hq⟩ := va_pl_get (X := []) (f := σ.2) ha
      rw [e0] at hq
      exact va_lald F.1 F.2.1 F.2.2.2.2.2.2.2.1.1 B.1 q0 1 hq rfl h1 hd (hJ _ _ _ _ h p e s m args below meth c H locs ls F B S hl)
    · exact h.elim
theorem st_aaload {Γ : Cx} {μ : Mt} {τ : Tb} {K : Option Value → Hp → Prop} {J : Nat → Lv → List Value → Hp → Prop} {len pc : Nat} {lv : Lv} {st : List Value} {σ : Hp} : ystep Γ μ τ K J .aaload len pc lv st σ = (len = 1 ∧ sir st fun a i r => arR Γ σ a fun n cA f => vp_in i n ∧ (match f i.toNatClampNeg with | some q => J (pc + 1) lv (.ref q :: r) σ | none => False)) := rfl
theorem ok_aaload {Γ : Cx} {μ : Mt} {τ : Tb} {K : Option Value → Hp → Prop} {J : Nat → Lv → List Value → Hp → Prop} {len pc : Nat} {lv : Lv} {st : List Value} {σ : Hp} (hτ : TbOK Γ μ τ) (hJ : ∀ pc lv st σ, J pc lv st σ → YG Γ μ K pc lv st σ) (hd : decode μ.2.2.1 pc = .ok (.aaload, len)) (h : len = 1 ∧ sir st fun a i r => arR Γ σ a fun n cA f => vp_in i n ∧ (match f i.toNatClampNeg with | some q => J (pc + 1) lv (.ref q :: r) σ | none => False)) : YG Γ μ K pc lv st σ := by
  obtain ⟨rfl, h⟩ := h
  match st, h with
  | .int i :: .ref a :: r, h =>
    obtain ⟨ha, h⟩ := h
    split at h
    · next cA n f e0 =>
      obtain ⟨hc, h1, h⟩ := h
      split at h
      · next q e1 =>
        intro p e s m args below meth c H locs ls F B S hl
        obtain ⟨q0, hq⟩ := va_pl_get (X := []) (f := σ.2) ha
        rw [e0] at hq
        rcases hc with rfl | rfl
        · refine va_aldq F.1 F.2.1 F.2.2.2.2.2.2.2.1.1 B.1 q0 2 hq rfl h1 hd ?_
          rw [e1]
          exact hJ _ _ _ _ h p e s m args below meth c H locs ls F B S hl
        · refine va_aldq F.1 F.2.1 F.2.2.2.2.2.2.2.1.1 B.1 q0 3 hq rfl h1 hd ?_
          rw [e1]
          exact hJ _ _ _ _ h p e s m args below meth c H locs ls F B S hl
      · exact h.elim
    · exact h.elim
theorem st_iastore {Γ : Cx} {μ : Mt} {τ : Tb} {K : Option Value → Hp → Prop} {J : Nat → Lv → List Value → Hp → Prop} {len pc : Nat} {lv : Lv} {st : List Value} {σ : Hp} : ystep Γ μ τ K J .iastore len pc lv st σ = (len = 1 ∧ siir st fun a i x r => arI Γ σ a fun n f => vp_in i n ∧ J (pc + 1) lv r (hput σ a (.inl (Γ.2.2.2.1 0, n, .inl (upd f i.toNatClampNeg x))))) := rfl
theorem ok_iastore {Γ : Cx} {μ : Mt} {τ : Tb} {K : Option Value → Hp → Prop} {J : Nat → Lv → List Value → Hp → Prop} {len pc : Nat} {lv : Lv} {st : List Value} {σ : Hp} (hτ : TbOK Γ μ τ) (hJ : ∀ pc lv st σ, J pc lv st σ → YG Γ μ K pc lv st σ) (hd : decode μ.2.2.1 pc = .ok (.iastore, len)) (h : len = 1 ∧ siir st fun a i x r => arI Γ σ a fun n f => vp_in i n ∧ J (pc + 1) lv r (hput σ a (.inl (Γ.2.2.2.1 0, n, .inl (upd f i.toNatClampNeg x))))) : YG Γ μ K pc lv st σ := by
  obtain ⟨rfl, h⟩ := h
  match st, h with
  | .int x :: .int i :: .ref a :: r, h =>
    obtain ⟨ha, h⟩ := h
    split at h
    · next cA n f e0 =>
      obtain ⟨rfl, h1, h⟩ := h
      intro p e s m args below meth c H locs ls F B S hl
      obtain ⟨q0, hq⟩ := va_pl_get (X := []) (f := σ.2) ha
      have hset := va_pl_set (X := []) (e := (.inl (Γ.2.2.2.1 0, n, .inl (upd f i.toNatClampNeg x)))) B.2 ha hq
      rw [e0] at hq
      refine va_iast F.1 F.2.1 F.2.2.2.2.2.2.2.1.1 B.1 B.2 S q0 0 hq rfl h1 hd (fun H1 locs1 hP1 hD1 hS1 => ?_)
      simp only [List.nil_append] at hset
      rw [hset] at hP1 hD1
      exact hJ _ _ _ _ h p e s m args below meth c H1 locs1 ls F ⟨hP1, hD1⟩ hS1 hl
    · exact h.elim
theorem st_lastore {Γ : Cx} {μ : Mt} {τ : Tb} {K : Option Value → Hp → Prop} {J : Nat → Lv → List Value → Hp → Prop} {len pc : Nat} {lv : Lv} {st : List Value} {σ : Hp} : ystep Γ μ τ K J .lastore len pc lv st σ = (len = 1 ∧ slir st fun a i x r => arL Γ σ a fun n f => vp_in i n ∧ J (pc + 1) lv r (hput σ a (.inl (Γ.2.2.2.1 1, n, .inr (.inl (vp_updL f i.toNatClampNeg x)))))) := rfl
theorem ok_lastore {Γ : Cx} {μ : Mt} {τ : Tb} {K : Option Value → Hp → Prop} {J : Nat → Lv → List Value → Hp → Prop} {len pc : Nat} {lv : Lv} {st : List Value} {σ : Hp} (hτ : TbOK Γ μ τ) (hJ : ∀ pc lv st σ, J pc lv st σ → YG Γ μ K pc lv st σ) (hd : decode μ.2.2.1 pc = .ok (.lastore, len)) (h : len = 1 ∧ slir st fun a i x r => arL Γ σ a fun n f => vp_in i n ∧ J (pc + 1) lv r (hput σ a (.inl (Γ.2.2.2.1 1, n, .inr (.inl (vp_updL f i.toNatClampNeg x)))))) : YG Γ μ K pc lv st σ := by
  obtain ⟨rfl, h⟩ := h
  match st, h with
  | .long x :: .int i :: .ref a :: r, h =>
    obtain ⟨ha, h⟩ := h
    split at h
    · next cA n f e0 =>
      obtain ⟨rfl, h1, h⟩ := h
      intro p e s m args below meth c H locs ls F B S hl
      obtain ⟨q0, hq⟩ := va_pl_get (X := []) (f := σ.2) ha
      have hset := va_pl_set (X := []) (e := (.inl (Γ.2.2.2.1 1, n, .inr (.inl (vp_updL f i.toNatClampNeg x))))) B.2 ha hq
      rw [e0] at hq
      refine va_last F.1 F.2.1 F.2.2.2.2.2.2.2.1.1 B.1 B.2 S q0 1 hq rfl h1 hd (fun H1 locs1 hP1 hD1 hS1 => ?_)
      simp only [List.nil_append] at hset
      rw [hset] at hP1 hD1
      exact hJ _ _ _ _ h p e s m args below meth c H1 locs1 ls F ⟨hP1, hD1⟩ hS1 hl
    · exact h.elim
theorem st_aastore {Γ : Cx} {μ : Mt} {τ : Tb} {K : Option Value → Hp → Prop} {J : Nat → Lv → List Value → Hp → Prop} {len pc : Nat} {lv : Lv} {st : List Value} {σ : Hp} : ystep Γ μ τ K J .aastore len pc lv st σ = (len = 1 ∧ srir st fun a i v r => arR Γ σ a fun n cA f => vp_in i n ∧ cA = Γ.2.2.2.1 2 ∧ (obj σ v fun ci fs => ci = 1) ∧ J (pc + 1) lv r (hput σ a (.inl (cA, n, .inr (.inr (.inr (.inr (va_up f i.toNatClampNeg (some v))))))))) := rfl
theorem ok_aastore {Γ : Cx} {μ : Mt} {τ : Tb} {K : Option Value → Hp → Prop} {J : Nat → Lv → List Value → Hp → Prop} {len pc : Nat} {lv : Lv} {st : List Value} {σ : Hp} (hτ : TbOK Γ μ τ) (hJ : ∀ pc lv st σ, J pc lv st σ → YG Γ μ K pc lv st σ) (hd : decode μ.2.2.1 pc = .ok (.aastore, len)) (h : len = 1 ∧ srir st fun a i v r => arR Γ σ a fun n cA f => vp_in i n ∧ cA = Γ.2.2.2.1 2 ∧ (obj σ v fun ci fs => ci = 1) ∧ J (pc + 1) lv r (hput σ a (.inl (cA, n, .inr (.inr (.inr (.inr (va_up f i.toNatClampNeg (some v))))))))) : YG Γ μ K pc lv st σ := by
  obtain ⟨rfl, h⟩ := h
  match st, h with
  | .ref v :: .int i :: .ref a :: r, h =>
    obtain ⟨ha, h⟩ := h
    split at h
    · next cA n f e0 =>
      obtain ⟨-, h1, rfl, ⟨hv, hv2⟩, h⟩ := h
      split at hv2
      · next ci fs e1 =>
        subst hv2
        intro p e s m args below meth c H locs ls F B S hl
        obtain ⟨q0, hq⟩ := va_pl_get (X := []) (f := σ.2) ha
        obtain ⟨q1, hq1⟩ := va_pl_get (X := []) (f := σ.2) hv
        have hset := va_pl_set (X := []) (e := (.inl (Γ.2.2.2.1 2, n, .inr (.inr (.inr (.inr (va_up f i.toNatClampNeg (some v)))))))) B.2 ha hq
        rw [e0] at hq
        rw [e1] at hq1
        refine va_astq F.1 F.2.1 F.2.2.2.2.2.2.2.1.1 B.1 B.2 S q0 2 q1 1 (r := (RX1, TX1, 5)) hq rfl hq1 rfl h1 hd (fun H1 locs1 hP1 hD1 hS1 => ?_)
        simp only [List.nil_append] at hset
        rw [hset] at hP1 hD1
        exact hJ _ _ _ _ h p e s m args below meth c H1 locs1 ls F ⟨hP1, hD1⟩ hS1 hl
      · exact hv2.elim
    · exact h.elim
theorem st_ireturn {Γ : Cx} {μ : Mt} {τ : Tb} {K : Option Value → Hp → Prop} {J : Nat → Lv → List Value → Hp → Prop} {len pc : Nat} {lv : Lv} {st : List Value} {σ : Hp} : ystep Γ μ τ K J .ireturn len pc lv st σ = (len = 1 ∧ (match st with | [.int v] => rok μ.2.2.2.2.1 v ∧ K (some (.int v)) σ | _ => False)) := rfl
theorem ok_ireturn {Γ : Cx} {μ : Mt} {τ : Tb} {K : Option Value → Hp → Prop} {J : Nat → Lv → List Value → Hp → Prop} {len pc : Nat} {lv : Lv} {st : List Value} {σ : Hp} (hτ : TbOK Γ μ τ) (hJ : ∀ pc lv st σ, J pc lv st σ → YG Γ μ K pc lv st σ) (hd : decode μ.2.2.1 pc = .ok (.ireturn, len)) (h : len = 1 ∧ (match st with | [.int v] => rok μ.2.2.2.2.1 v ∧ K (some (.int v)) σ | _ => False)) : YG Γ μ K pc lv st σ := by
  obtain ⟨rfl, h⟩ := h
  split at h
  · next v =>
    intro p e s m args below meth c H locs ls F B S hl
    have hq : ∀ t : State, t.heap = H → s.WarmedH t.vm → Qk Γ K args s (.returned (some (.int v))) t := fun t ht _ => ⟨⟨_, σ, rfl, h.2, by rw [ht]; exact B⟩, S.F ht⟩
    have hr := F.2.2.2.2.2.1
    have h0 := h.1
    unfold rok at h0
    split at h0
    · next e0 => exact W.iret F.1 F.2.1 (hr.trans e0) hq S.2.2 hd F.2.2.2.2.2.2.1
    · next e0 => exact W.zret F.1 F.2.1 (hr.trans e0) (by rcases h0 with rfl | rfl <;> rfl) hq S.2.2 hd F.2.2.2.2.2.2.1
    · next e0 => exact W.zret F.1 F.2.1 (hr.trans e0) (by rw [h0]; rfl) hq S.2.2 hd F.2.2.2.2.2.2.1
    · exact h0.elim
  · exact h.elim
theorem st_return {Γ : Cx} {μ : Mt} {τ : Tb} {K : Option Value → Hp → Prop} {J : Nat → Lv → List Value → Hp → Prop} {len pc : Nat} {lv : Lv} {st : List Value} {σ : Hp} : ystep Γ μ τ K J .return_ len pc lv st σ = (len = 1 ∧ (match st with | [] => μ.2.2.2.2.1 = none ∧ K none σ | _ => False)) := rfl
theorem ok_return {Γ : Cx} {μ : Mt} {τ : Tb} {K : Option Value → Hp → Prop} {J : Nat → Lv → List Value → Hp → Prop} {len pc : Nat} {lv : Lv} {st : List Value} {σ : Hp} (hτ : TbOK Γ μ τ) (hJ : ∀ pc lv st σ, J pc lv st σ → YG Γ μ K pc lv st σ) (hd : decode μ.2.2.1 pc = .ok (.return_, len)) (h : len = 1 ∧ (match st with | [] => μ.2.2.2.2.1 = none ∧ K none σ | _ => False)) : YG Γ μ K pc lv st σ := by
  obtain ⟨rfl, h⟩ := h
  split at h
  · intro p e s m args below meth c H locs ls F B S hl
    exact W.vret F.1 F.2.1 (F.2.2.2.2.2.1.trans h.1) (fun t ht _ => ⟨⟨_, σ, rfl, h.2, by rw [ht]; exact B⟩, S.F ht⟩) S.2.2 hd F.2.2.2.2.2.2.1
  · exact h.elim
theorem st_tableswitch {Γ : Cx} {μ : Mt} {τ : Tb} {K : Option Value → Hp → Prop} {J : Nat → Lv → List Value → Hp → Prop} {len pc : Nat} {lv : Lv} {st : List Value} {σ : Hp} {dflt : Int} {lo : Int} {hi : Int} {offs : Array Int} : ystep Γ μ τ K J (.tableswitch dflt lo hi offs) len pc lv st σ = (s1i st fun x r => hi = lo + offs.toList.length - 1 ∧ swl x (fun o => jmp pc o fun t => J t lv r σ) offs.toList lo ∧ ((x.toInt < lo ∨ hi < x.toInt) → jmp pc dflt fun t => J t lv r σ)) := rfl
theorem ok_tableswitch {Γ : Cx} {μ : Mt} {τ : Tb} {K : Option Value → Hp → Prop} {J : Nat → Lv → List Value → Hp → Prop} {len pc : Nat} {lv : Lv} {st : List Value} {σ : Hp} {dflt : Int} {lo : Int} {hi : Int} {offs : Array Int} (hτ : TbOK Γ μ τ) (hJ : ∀ pc lv st σ, J pc lv st σ → YG Γ μ K pc lv st σ) (hd : decode μ.2.2.1 pc = .ok ((.tableswitch dflt lo hi offs), len)) (h : s1i st fun x r => hi = lo + offs.toList.length - 1 ∧ swl x (fun o => jmp pc o fun t => J t lv r σ) offs.toList lo ∧ ((x.toInt < lo ∨ hi < x.toInt) → jmp pc dflt fun t => J t lv r σ)) : YG Γ μ K pc lv st σ := by
  match st, h with
  | .int x :: r, h =>
    obtain ⟨h0, h1, h2⟩ := h
    intro p e s m args below meth c H locs ls F B S hl
    by_cases hx : x.toInt < lo ∨ hi < x.toInt
    · obtain ⟨t, ht, h⟩ := jmp_spec (h2 hx)
      exact lv_tableOut F.1 F.2.1 hd hx ht (hJ _ _ _ _ h p e s m args below meth c H locs ls F B S hl)
    · have hlo : ¬ x.toInt < lo := fun z => hx (Or.inl z)
      have hhi : ¬ hi < x.toInt := fun z => hx (Or.inr z)
      have hlt : (x.toInt - lo).toNat < offs.toList.length := by omega
      have hj := swl_at h1 _ hlt (by rw [show lo + ((x.toInt - lo).toNat : Int) = x.toInt by omega]; exact (Int32.ofInt_toInt x).symm)
      obtain ⟨t, ht, h⟩ := jmp_spec hj
      exact lv_tableIn F.1 F.2.1 hd hlo hhi (by rw [← Array.getElem?_toList]; exact List.getElem?_eq_getElem hlt) ht (hJ _ _ _ _ h p e s m args below meth c H locs ls F B S hl)
theorem st_lookupswitch {Γ : Cx} {μ : Mt} {τ : Tb} {K : Option Value → Hp → Prop} {J : Nat → Lv → List Value → Hp → Prop} {len pc : Nat} {lv : Lv} {st : List Value} {σ : Hp} {dflt : Int} {ps : Array (Int × Int)} : ystep Γ μ τ K J (.lookupswitch dflt ps) len pc lv st σ = (s1i st fun x r => (ps.toList.zip (ps.toList.drop 1)).all (fun (a, next) => a.1 < next.1) = true ∧ lkl x (fun o => jmp pc o fun t => J t lv r σ) ps.toList dflt) := rfl
theorem ok_lookupswitch {Γ : Cx} {μ : Mt} {τ : Tb} {K : Option Value → Hp → Prop} {J : Nat → Lv → List Value → Hp → Prop} {len pc : Nat} {lv : Lv} {st : List Value} {σ : Hp} {dflt : Int} {ps : Array (Int × Int)} (hτ : TbOK Γ μ τ) (hJ : ∀ pc lv st σ, J pc lv st σ → YG Γ μ K pc lv st σ) (hd : decode μ.2.2.1 pc = .ok ((.lookupswitch dflt ps), len)) (h : s1i st fun x r => (ps.toList.zip (ps.toList.drop 1)).all (fun (a, next) => a.1 < next.1) = true ∧ lkl x (fun o => jmp pc o fun t => J t lv r σ) ps.toList dflt) : YG Γ μ K pc lv st σ := by
  match st, h with
  | .int x :: r, h =>
    obtain ⟨h0, h1⟩ := h
    intro p e s m args below meth c H locs ls F B S hl
    obtain ⟨t, ht, h⟩ := jmp_spec (lkl_at h1)
    exact lv_lookup F.1 F.2.1 hd h0 rfl ht (hJ _ _ _ _ h p e s m args below meth c H locs ls F B S hl)
theorem st_invokevirtual {Γ : Cx} {μ : Mt} {τ : Tb} {K : Option Value → Hp → Prop} {J : Nat → Lv → List Value → Hp → Prop} {len pc : Nat} {lv : Lv} {st : List Value} {σ : Hp} {i : Nat} : ystep Γ μ τ K J (.invokevirtual i) len pc lv st σ = (len = 3 ∧ (match τ.2.2 0 i with | some (n, true, sp) => csum (st.drop n) ≤ 8 ∧ sp (st.take n).reverse σ (fun v σ' => J (pc + 3) lv (v.toList ++ st.drop n) σ') | some (n, false, sp) => csum (st.drop n) ≤ 8 ∧ sp (st.take n).reverse σ (fun v σ' => YG Γ μ K (pc + 3) lv (v.toList ++ st.drop n) σ') | none => False)) := rfl
theorem ok_invokevirtual {Γ : Cx} {μ : Mt} {τ : Tb} {K : Option Value → Hp → Prop} {J : Nat → Lv → List Value → Hp → Prop} {len pc : Nat} {lv : Lv} {st : List Value} {σ : Hp} {i : Nat} (hτ : TbOK Γ μ τ) (hJ : ∀ pc lv st σ, J pc lv st σ → YG Γ μ K pc lv st σ) (hd : decode μ.2.2.1 pc = .ok ((.invokevirtual i), len)) (h : len = 3 ∧ (match τ.2.2 0 i with | some (n, true, sp) => csum (st.drop n) ≤ 8 ∧ sp (st.take n).reverse σ (fun v σ' => J (pc + 3) lv (v.toList ++ st.drop n) σ') | some (n, false, sp) => csum (st.drop n) ≤ 8 ∧ sp (st.take n).reverse σ (fun v σ' => YG Γ μ K (pc + 3) lv (v.toList ++ st.drop n) σ') | none => False)) : YG Γ μ K pc lv st σ := by
  obtain ⟨rfl, h⟩ := h
  split at h
  · next n sp e0 =>
    exact (hτ.2.2.2.2 _ _ _ _ _ e0).1 K pc lv st σ hd h.1 ((hτ.2.2.2.2 _ _ _ _ _ e0).2 rfl _ _ _ _ (fun v σ' hk => hJ _ _ _ _ hk) h.2)
  · next n sp e0 =>
    exact (hτ.2.2.2.2 _ _ _ _ _ e0).1 K pc lv st σ hd h.1 h.2
  · exact h.elim
theorem st_invokestatic {Γ : Cx} {μ : Mt} {τ : Tb} {K : Option Value → Hp → Prop} {J : Nat → Lv → List Value → Hp → Prop} {len pc : Nat} {lv : Lv} {st : List Value} {σ : Hp} {i : Nat} : ystep Γ μ τ K J (.invokestatic i) len pc lv st σ = (len = 3 ∧ (match τ.2.2 1 i with | some (n, true, sp) => csum (st.drop n) ≤ 8 ∧ sp (st.take n).reverse σ (fun v σ' => J (pc + 3) lv (v.toList ++ st.drop n) σ') | some (n, false, sp) => csum (st.drop n) ≤ 8 ∧ sp (st.take n).reverse σ (fun v σ' => YG Γ μ K (pc + 3) lv (v.toList ++ st.drop n) σ') | none => False)) := rfl
theorem ok_invokestatic {Γ : Cx} {μ : Mt} {τ : Tb} {K : Option Value → Hp → Prop} {J : Nat → Lv → List Value → Hp → Prop} {len pc : Nat} {lv : Lv} {st : List Value} {σ : Hp} {i : Nat} (hτ : TbOK Γ μ τ) (hJ : ∀ pc lv st σ, J pc lv st σ → YG Γ μ K pc lv st σ) (hd : decode μ.2.2.1 pc = .ok ((.invokestatic i), len)) (h : len = 3 ∧ (match τ.2.2 1 i with | some (n, true, sp) => csum (st.drop n) ≤ 8 ∧ sp (st.take n).reverse σ (fun v σ' => J (pc + 3) lv (v.toList ++ st.drop n) σ') | some (n, false, sp) => csum (st.drop n) ≤ 8 ∧ sp (st.take n).reverse σ (fun v σ' => YG Γ μ K (pc + 3) lv (v.toList ++ st.drop n) σ') | none => False)) : YG Γ μ K pc lv st σ := by
  obtain ⟨rfl, h⟩ := h
  split at h
  · next n sp e0 =>
    exact (hτ.2.2.2.2 _ _ _ _ _ e0).1 K pc lv st σ hd h.1 ((hτ.2.2.2.2 _ _ _ _ _ e0).2 rfl _ _ _ _ (fun v σ' hk => hJ _ _ _ _ hk) h.2)
  · next n sp e0 =>
    exact (hτ.2.2.2.2 _ _ _ _ _ e0).1 K pc lv st σ hd h.1 h.2
  · exact h.elim
theorem st_invokespecial {Γ : Cx} {μ : Mt} {τ : Tb} {K : Option Value → Hp → Prop} {J : Nat → Lv → List Value → Hp → Prop} {len pc : Nat} {lv : Lv} {st : List Value} {σ : Hp} {i : Nat} : ystep Γ μ τ K J (.invokespecial i) len pc lv st σ = (len = 3 ∧ (match τ.2.2 2 i with | some (n, true, sp) => csum (st.drop n) ≤ 8 ∧ sp (st.take n).reverse σ (fun v σ' => J (pc + 3) lv (v.toList ++ st.drop n) σ') | some (n, false, sp) => csum (st.drop n) ≤ 8 ∧ sp (st.take n).reverse σ (fun v σ' => YG Γ μ K (pc + 3) lv (v.toList ++ st.drop n) σ') | none => False)) := rfl
theorem ok_invokespecial {Γ : Cx} {μ : Mt} {τ : Tb} {K : Option Value → Hp → Prop} {J : Nat → Lv → List Value → Hp → Prop} {len pc : Nat} {lv : Lv} {st : List Value} {σ : Hp} {i : Nat} (hτ : TbOK Γ μ τ) (hJ : ∀ pc lv st σ, J pc lv st σ → YG Γ μ K pc lv st σ) (hd : decode μ.2.2.1 pc = .ok ((.invokespecial i), len)) (h : len = 3 ∧ (match τ.2.2 2 i with | some (n, true, sp) => csum (st.drop n) ≤ 8 ∧ sp (st.take n).reverse σ (fun v σ' => J (pc + 3) lv (v.toList ++ st.drop n) σ') | some (n, false, sp) => csum (st.drop n) ≤ 8 ∧ sp (st.take n).reverse σ (fun v σ' => YG Γ μ K (pc + 3) lv (v.toList ++ st.drop n) σ') | none => False)) : YG Γ μ K pc lv st σ := by
  obtain ⟨rfl, h⟩ := h
  split at h
  · next n sp e0 =>
    exact (hτ.2.2.2.2 _ _ _ _ _ e0).1 K pc lv st σ hd h.1 ((hτ.2.2.2.2 _ _ _ _ _ e0).2 rfl _ _ _ _ (fun v σ' hk => hJ _ _ _ _ hk) h.2)
  · next n sp e0 =>
    exact (hτ.2.2.2.2 _ _ _ _ _ e0).1 K pc lv st σ hd h.1 h.2
  · exact h.elim
theorem ystep_ok {Γ : Cx} {μ : Mt} {τ : Tb} {K : Option Value → Hp → Prop} {J : Nat → Lv → List Value → Hp → Prop} {len pc : Nat} {lv : Lv} {st : List Value} {σ : Hp} {ins : Instr} (hτ : TbOK Γ μ τ) (hJ : ∀ pc lv st σ, J pc lv st σ → YG Γ μ K pc lv st σ) (hd : decode μ.2.2.1 pc = .ok (ins, len)) (h : ystep Γ μ τ K J ins len pc lv st σ) : YG Γ μ K pc lv st σ := by
  cases ins
  case iadd => exact ok_iadd hτ hJ hd h
  case isub => exact ok_isub hτ hJ hd h
  case imul => exact ok_imul hτ hJ hd h
  case iand => exact ok_iand hτ hJ hd h
  case ior => exact ok_ior hτ hJ hd h
  case idiv => exact ok_idiv hτ hJ hd h
  case irem => exact ok_irem hτ hJ hd h
  case ishl => exact ok_ishl hτ hJ hd h
  case ishr => exact ok_ishr hτ hJ hd h
  case iushr => exact ok_iushr hτ hJ hd h
  case ladd => exact ok_ladd hτ hJ hd h
  case lmul => exact ok_lmul hτ hJ hd h
  case land => exact ok_land hτ hJ hd h
  case lor => exact ok_lor hτ hJ hd h
  case lshl => exact ok_lshl hτ hJ hd h
  case lshr => exact ok_lshr hτ hJ hd h
  case i2l => exact ok_i2l hτ hJ hd h
  case l2i => exact ok_l2i hτ hJ hd h
  case i2b => exact ok_i2b hτ hJ hd h
  case i2s => exact ok_i2s hτ hJ hd h
  case i2c => exact ok_i2c hτ hJ hd h
  case iconst => exact ok_iconst hτ hJ hd h
  case bipush => exact ok_bipush hτ hJ hd h
  case sipush => exact ok_sipush hτ hJ hd h
  case lconst => exact ok_lconst hτ hJ hd h
  case iload_n => exact ok_iload_n hτ hJ hd h
  case iload => exact ok_iload hτ hJ hd h
  case aload_n => exact ok_aload_n hτ hJ hd h
  case aload => exact ok_aload hτ hJ hd h
  case lload_n => exact ok_lload_n hτ hJ hd h
  case lload => exact ok_lload hτ hJ hd h
  case istore_n => exact ok_istore_n hτ hJ hd h
  case istore => exact ok_istore hτ hJ hd h
  case astore_n => exact ok_astore_n hτ hJ hd h
  case astore => exact ok_astore hτ hJ hd h
  case iinc => exact ok_iinc hτ hJ hd h
  case dup => exact ok_dup hτ hJ hd h
  case pop => exact ok_pop hτ hJ hd h
  case dup2 => exact ok_dup2 hτ hJ hd h
  case goto => exact ok_goto hτ hJ hd h
  case ifCond => exact ok_ifCond hτ hJ hd h
  case if_icmp => exact ok_if_icmp hτ hJ hd h
  case lcmp => exact ok_lcmp hτ hJ hd h
  case ldc => exact ok_ldc hτ hJ hd h
  case ldc_w => exact ok_ldc_w hτ hJ hd h
  case ldc2_w => exact ok_ldc2_w hτ hJ hd h
  case getfield => exact ok_getfield hτ hJ hd h
  case putfield => exact ok_putfield hτ hJ hd h
  case iaload => exact ok_iaload hτ hJ hd h
  case arraylength => exact ok_arraylength hτ hJ hd h
  case baload => exact ok_baload hτ hJ hd h
  case getstatic => exact ok_getstatic hτ hJ hd h
  case laload => exact ok_laload hτ hJ hd h
  case aaload => exact ok_aaload hτ hJ hd h
  case iastore => exact ok_iastore hτ hJ hd h
  case lastore => exact ok_lastore hτ hJ hd h
  case aastore => exact ok_aastore hτ hJ hd h
  case ireturn => exact ok_ireturn hτ hJ hd h
  case return_ => exact ok_return hτ hJ hd h
  case tableswitch => exact ok_tableswitch hτ hJ hd h
  case lookupswitch => exact ok_lookupswitch hτ hJ hd h
  case invokevirtual => exact ok_invokevirtual hτ hJ hd h
  case invokestatic => exact ok_invokestatic hτ hJ hd h
  case invokespecial => exact ok_invokespecial hτ hJ hd h
  all_goals exact False.elim h
def yvc (Γ : Cx) (μ : Mt) (τ : Tb) (K : Option Value → Hp → Prop) (S : List Nat) : Nat → Nat → Lv → List Value → Hp → Prop
  | 0, pc, lv, st, σ => YG Γ μ K pc lv st σ
  | n + 1, pc, lv, st, σ => if S.elem pc = true then YG Γ μ K pc lv st σ else (match decode μ.2.2.1 pc with | .ok (ins, len) => ystep Γ μ τ K (yvc Γ μ τ K S n) ins len pc lv st σ | _ => False)
/-- the first instruction in any case, then on to the points of S -/
def yvc1 (Γ : Cx) (μ : Mt) (τ : Tb) (K : Option Value → Hp → Prop) (S : List Nat) (n pc : Nat) (lv : Lv) (st : List Value) (σ : Hp) : Prop := match decode μ.2.2.1 pc with | .ok (ins, len) => ystep Γ μ τ K (yvc Γ μ τ K S n) ins len pc lv st σ | _ => False
theorem yvc_ok {Γ : Cx} {μ : Mt} {τ : Tb} {K : Option Value → Hp → Prop} {S : List Nat} (hτ : TbOK Γ μ τ) : ∀ (n pc : Nat) (lv : Lv) (st : List Value) (σ : Hp), yvc Γ μ τ K S n pc lv st σ → YG Γ μ K pc lv st σ
  | 0, pc, lv, st, σ, h => h
  | n + 1, pc, lv, st, σ, h => by
    unfold yvc at h
    split at h
    · exact h
    · split at h
      · next ins len e0 => exact ystep_ok hτ (yvc_ok hτ n) e0 h
      · exact h.elim
theorem yvc1_ok {Γ : Cx} {μ : Mt} {τ : Tb} {K : Option Value → Hp → Prop} {S : List Nat} (hτ : TbOK Γ μ τ) (n : Nat) {pc : Nat} {lv : Lv} {st : List Value} {σ : Hp} (h : yvc1 Γ μ τ K S n pc lv st σ) : YG Γ μ K pc lv st σ := by
  unfold yvc1 at h
  split at h
  · next ins len e0 => exact ystep_ok hτ (yvc_ok hτ n) e0 h
  · exact h.elim
theorem yvc_s {Γ : Cx} {μ : Mt} {τ : Tb} {K : Option Value → Hp → Prop} {S : List Nat} {n pc : Nat} {lv : Lv} {st : List Value} {σ : Hp} : yvc Γ μ τ K S (n + 1) pc lv st σ = (if S.elem pc = true then YG Γ μ K pc lv st σ else (match decode μ.2.2.1 pc with | .ok (ins, len) => ystep Γ μ τ K (yvc Γ μ τ K S n) ins len pc lv st σ | _ => False)) := rfl

