/-! ===== CONSTRUCTORS: as the frame, but cells are made ===== -/
/-- in a constructor a final field may be put; the array classes over Moment and Sheet -/
def NmOK (μ : Mt) (meth : Method) (s : State) : Prop := (μ.2.2.2.2.2.2 = none → meth.name = "<init>") ∧ va_AO RX1 s ∧ va_AO RX4 s
def YN (Γ : Cx) (μ : Mt) (K : Option Value → Hp → Prop) (kn : Nat × Nat) (pc : Nat) (lv : Lv) (st : List Value) (σ : Hp) : Prop :=
  ∀ (p : Program) (e : Env) (s : State) (m : MethodId) (args : Array Value) (below : List Frame) (meth : Method) (c : Code) (H : Heap) (locs : List Loc) (ls : Array Slot),
    Fx Γ μ p s m args meth c → Bq Γ σ H → va_S Γ.2.2.1 s.heap H locs → lv_has ls μ.2.2.2.1 lv → NmOK μ meth s →
    W p Γ.1 e μ.1 s m args below meth c H locs kn.1 kn.2 (MQ below (Qk Γ K) args s μ.1.cells μ.1.slots Γ.2.2.1) (F0 m pc ls st)
theorem YN.sub {Γ : Cx} {μ : Mt} {K : Option Value → Hp → Prop} {kn : Nat × Nat} {pc : Nat} {lv lv' : Lv} {st : List Value} {σ : Hp} (h : YN Γ μ K kn pc lv' st σ) (hs : ∀ q ∈ lv', q ∈ lv) : YN Γ μ K kn pc lv st σ :=
  fun p e s m args below meth c H locs ls F B S hl N => h p e s m args below meth c H locs ls F B S (lv_mono hl hs) N
/-- a final field of class ci, declared by own -/
def finT (own : String) (ci k : Nat) : Prop := ∃ (C : String) (T : u_T) (N : Nat) (ty : FieldType), kcl[ci]? = some (C, T, N) ∧ (T k).2.2.2 = true ∧ (T k).1 = own ∧ parseFieldDescriptor (T k).2.2.1 = some ty ∧ ∀ v : Nat, narrow ty (.ref v) = .ref v ∧ fits ty (.ref v) = true
def hnew (σ : Hp) (q : Nat) (e : va_E) : Hp := (σ.1 ++ [q], va_up σ.2 q e)
theorem hnew_in {σ : Hp} {q r : Nat} {e : va_E} (h : r ∈ σ.1) : r ∈ (hnew σ q e).1 := List.mem_append_left _ h
theorem hnew_q {σ : Hp} {q : Nat} {e : va_E} : q ∈ (hnew σ q e).1 := List.mem_append_right _ (List.mem_singleton.mpr rfl)
theorem hnew_at {σ : Hp} {q : Nat} {e : va_E} : (hnew σ q e).2 q = e := va_up_self _ _ _
theorem hnew_ne {σ : Hp} {q r : Nat} {e : va_E} (h : r ≠ q) : (hnew σ q e).2 r = σ.2 r := va_up_ne _ _ h
theorem ne_fresh {σ : Hp} {q r : Nat} (h : q ∉ σ.1) (hr : r ∈ σ.1) : r ≠ q := fun e => h (e ▸ hr)

def nstep (Γ : Cx) (μ : Mt) (τ : Tb) (K : Option Value → Hp → Prop) (kn : Nat × Nat) (J : Nat → Lv → List Value → Hp → Prop) (ins : Instr) (len pc : Nat) (lv : Lv) (st : List Value) (σ : Hp) : Prop := match ins with
  | .iadd => len = 1 ∧ s2i st fun x y r => J (pc + 1) lv (.int (x + y) :: r) σ
  | .iconst n => len = 1 ∧ J (pc + 1) lv (.int (Int32.ofInt n) :: st) σ
  | .bipush n => len = 2 ∧ J (pc + 2) lv (.int (Int8.ofInt n).toInt32 :: st) σ
  | .sipush n => len = 3 ∧ J (pc + 3) lv (.int (Int16.ofInt n).toInt32 :: st) σ
  | .iload_n k => len = 1 ∧ (match lg lv k.val with | some (.int x) => J (pc + 1) lv (.int x :: st) σ | _ => False)
  | .aload_n k => len = 1 ∧ (match lg lv k.val with | some (.ref x) => J (pc + 1) lv (.ref x :: st) σ | _ => False)
  | .istore_n k => len = 1 ∧ s1i st fun x r => k.val < μ.2.2.2.1 ∧ J (pc + 1) (lput lv k.val (.int x)) r σ
  | .astore_n k => len = 1 ∧ s1r st fun x r => k.val < μ.2.2.2.1 ∧ J (pc + 1) (lput lv k.val (.ref x)) r σ
  | .iinc k n => len = 3 ∧ k < μ.2.2.2.1 ∧ (match lg lv k with | some (.int x) => J (pc + 3) (lput lv k (.int (x + Int32.ofInt n))) st σ | _ => False)
  | .dup => len = 1 ∧ sd1 st fun v r => J (pc + 1) lv (v :: v :: r) σ
  | .goto off => len = 3 ∧ jmp pc off fun t => J t lv st σ
  | .if_icmp cn off => len = 3 ∧ s2i st fun x y r => jmp pc off fun t => (cnd2 cn x y → J t lv r σ) ∧ (¬ cnd2 cn x y → J (pc + 3) lv r σ)
  | .getfield i => len = 3 ∧ s1r st fun a r => (match μ.2.2.2.2.2.2 with | some false => strF Γ μ i a (fun v => J (pc + 3) lv (v :: r) σ) | _ => obj σ a fun ci fs => (match τ.1 i ci with | some (k, _) => (match fs[k]? with | some v => J (pc + 3) lv (v :: r) σ | none => False) | none => False))
  | .iastore => len = 1 ∧ siir st fun a i x r => arI Γ σ a fun n f => vp_in i n ∧ J (pc + 1) lv r (hput σ a (.inl (Γ.2.2.2.1 0, n, .inl (upd f i.toNatClampNeg x))))
  | .putfield i => len = 3 ∧ (match st with | .int x :: .ref a :: r => obj σ a fun ci fs => (match τ.1 i ci with | some (k, b) => fput b x ∧ k < fs.length ∧ J (pc + 3) lv r (hput σ a (.inr (ci, fs.set k (.int x)))) | none => False) | .ref v :: .ref a :: r => obj σ a fun ci fs => (match τ.1 i ci with | some (k, b) => μ.2.2.2.2.2.2 = none ∧ finT μ.2.1 ci k ∧ k < fs.length ∧ J (pc + 3) lv r (hput σ a (.inr (ci, fs.set k (.ref v)))) | none => False) | _ => False)
  | .aastore => len = 1 ∧ srir st fun a i v r => arR Γ σ a fun n cA f => vp_in i n ∧ (obj σ v fun ci fs => (ci = 1 ∧ cA = Γ.2.2.2.1 2) ∨ (ci = 4 ∧ cA = Γ.2.2.2.1 3)) ∧ J (pc + 1) lv r (hput σ a (.inl (cA, n, .inr (.inr (.inr (.inr (va_up f i.toNatClampNeg (some v))))))))
  | .return_ => len = 1 ∧ (match st with | [] => μ.2.2.2.2.1 = none ∧ kn.1 ≤ μ.1.cells ∧ kn.2 ≤ μ.1.slots ∧ K none σ | _ => False)
  | _ => False
theorem sn_iadd {Γ : Cx} {μ : Mt} {τ : Tb} {K : Option Value → Hp → Prop} {kn : Nat × Nat} {J : Nat → Lv → List Value → Hp → Prop} {len pc : Nat} {lv : Lv} {st : List Value} {σ : Hp} : nstep Γ μ τ K kn J .iadd len pc lv st σ = (len = 1 ∧ s2i st fun x y r => J (pc + 1) lv (.int (x + y) :: r) σ) := rfl
theorem okn_iadd {Γ : Cx} {μ : Mt} {τ : Tb} {K : Option Value → Hp → Prop} {kn : Nat × Nat} {J : Nat → Lv → List Value → Hp → Prop} {len pc : Nat} {lv : Lv} {st : List Value} {σ : Hp} (hτ : TbOK Γ μ τ) (hJ : ∀ pc lv st σ, J pc lv st σ → YN Γ μ K kn pc lv st σ) (hd : decode μ.2.2.1 pc = .ok (.iadd, len)) (h : len = 1 ∧ s2i st fun x y r => J (pc + 1) lv (.int (x + y) :: r) σ) : YN Γ μ K kn pc lv st σ := by
  obtain ⟨rfl, h⟩ := h
  match st, h with
  | .int y :: .int x :: r, h =>
    intro p e s m args below meth c H locs ls F B S hl N
    exact lv_iadd F.1 F.2.1 hd (hJ _ _ _ _ h p e s m args below meth c H locs ls F B S hl N)
theorem sn_iconst {Γ : Cx} {μ : Mt} {τ : Tb} {K : Option Value → Hp → Prop} {kn : Nat × Nat} {J : Nat → Lv → List Value → Hp → Prop} {len pc : Nat} {lv : Lv} {st : List Value} {σ : Hp} {n : Int} : nstep Γ μ τ K kn J (.iconst n) len pc lv st σ = (len = 1 ∧ J (pc + 1) lv (.int (Int32.ofInt n) :: st) σ) := rfl
theorem okn_iconst {Γ : Cx} {μ : Mt} {τ : Tb} {K : Option Value → Hp → Prop} {kn : Nat × Nat} {J : Nat → Lv → List Value → Hp → Prop} {len pc : Nat} {lv : Lv} {st : List Value} {σ : Hp} {n : Int} (hτ : TbOK Γ μ τ) (hJ : ∀ pc lv st σ, J pc lv st σ → YN Γ μ K kn pc lv st σ) (hd : decode μ.2.2.1 pc = .ok ((.iconst n), len)) (h : len = 1 ∧ J (pc + 1) lv (.int (Int32.ofInt n) :: st) σ) : YN Γ μ K kn pc lv st σ := by
  obtain ⟨rfl, h⟩ := h
  intro p e s m args below meth c H locs ls F B S hl N
  exact lv_iconst F.1 F.2.1 hd rfl (hJ _ _ _ _ h p e s m args below meth c H locs ls F B S hl N)
theorem sn_bipush {Γ : Cx} {μ : Mt} {τ : Tb} {K : Option Value → Hp → Prop} {kn : Nat × Nat} {J : Nat → Lv → List Value → Hp → Prop} {len pc : Nat} {lv : Lv} {st : List Value} {σ : Hp} {n : Int} : nstep Γ μ τ K kn J (.bipush n) len pc lv st σ = (len = 2 ∧ J (pc + 2) lv (.int (Int8.ofInt n).toInt32 :: st) σ) := rfl
theorem okn_bipush {Γ : Cx} {μ : Mt} {τ : Tb} {K : Option Value → Hp → Prop} {kn : Nat × Nat} {J : Nat → Lv → List Value → Hp → Prop} {len pc : Nat} {lv : Lv} {st : List Value} {σ : Hp} {n : Int} (hτ : TbOK Γ μ τ) (hJ : ∀ pc lv st σ, J pc lv st σ → YN Γ μ K kn pc lv st σ) (hd : decode μ.2.2.1 pc = .ok ((.bipush n), len)) (h : len = 2 ∧ J (pc + 2) lv (.int (Int8.ofInt n).toInt32 :: st) σ) : YN Γ μ K kn pc lv st σ := by
  obtain ⟨rfl, h⟩ := h
  intro p e s m args below meth c H locs ls F B S hl N
  exact lv_bipush F.1 F.2.1 hd rfl (hJ _ _ _ _ h p e s m args below meth c H locs ls F B S hl N)
theorem sn_sipush {Γ : Cx} {μ : Mt} {τ : Tb} {K : Option Value → Hp → Prop} {kn : Nat × Nat} {J : Nat → Lv → List Value → Hp → Prop} {len pc : Nat} {lv : Lv} {st : List Value} {σ : Hp} {n : Int} : nstep Γ μ τ K kn J (.sipush n) len pc lv st σ = (len = 3 ∧ J (pc + 3) lv (.int (Int16.ofInt n).toInt32 :: st) σ) := rfl
theorem okn_sipush {Γ : Cx} {μ : Mt} {τ : Tb} {K : Option Value → Hp → Prop} {kn : Nat × Nat} {J : Nat → Lv → List Value → Hp → Prop} {len pc : Nat} {lv : Lv} {st : List Value} {σ : Hp} {n : Int} (hτ : TbOK Γ μ τ) (hJ : ∀ pc lv st σ, J pc lv st σ → YN Γ μ K kn pc lv st σ) (hd : decode μ.2.2.1 pc = .ok ((.sipush n), len)) (h : len = 3 ∧ J (pc + 3) lv (.int (Int16.ofInt n).toInt32 :: st) σ) : YN Γ μ K kn pc lv st σ := by
  obtain ⟨rfl, h⟩ := h
  intro p e s m args below meth c H locs ls F B S hl N
  exact lv_sipush F.1 F.2.1 hd rfl (hJ _ _ _ _ h p e s m args below meth c H locs ls F B S hl N)
theorem sn_iload_n {Γ : Cx} {μ : Mt} {τ : Tb} {K : Option Value → Hp → Prop} {kn : Nat × Nat} {J : Nat → Lv → List Value → Hp → Prop} {len pc : Nat} {lv : Lv} {st : List Value} {σ : Hp} {k : Fin 4} : nstep Γ μ τ K kn J (.iload_n k) len pc lv st σ = (len = 1 ∧ (match lg lv k.val with | some (.int x) => J (pc + 1) lv (.int x :: st) σ | _ => False)) := rfl
theorem okn_iload_n {Γ : Cx} {μ : Mt} {τ : Tb} {K : Option Value → Hp → Prop} {kn : Nat × Nat} {J : Nat → Lv → List Value → Hp → Prop} {len pc : Nat} {lv : Lv} {st : List Value} {σ : Hp} {k : Fin 4} (hτ : TbOK Γ μ τ) (hJ : ∀ pc lv st σ, J pc lv st σ → YN Γ μ K kn pc lv st σ) (hd : decode μ.2.2.1 pc = .ok ((.iload_n k), len)) (h : len = 1 ∧ (match lg lv k.val with | some (.int x) => J (pc + 1) lv (.int x :: st) σ | _ => False)) : YN Γ μ K kn pc lv st σ := by
  obtain ⟨rfl, h⟩ := h
  split at h
  · next x e0 =>
    intro p e s m args below meth c H locs ls F B S hl N
    exact lv_iload_n F.1 F.2.1 hd rfl (lg_at hl e0) (hJ _ _ _ _ h p e s m args below meth c H locs ls F B S hl N)
  · exact h.elim
theorem sn_aload_n {Γ : Cx} {μ : Mt} {τ : Tb} {K : Option Value → Hp → Prop} {kn : Nat × Nat} {J : Nat → Lv → List Value → Hp → Prop} {len pc : Nat} {lv : Lv} {st : List Value} {σ : Hp} {k : Fin 4} : nstep Γ μ τ K kn J (.aload_n k) len pc lv st σ = (len = 1 ∧ (match lg lv k.val with | some (.ref x) => J (pc + 1) lv (.ref x :: st) σ | _ => False)) := rfl
theorem okn_aload_n {Γ : Cx} {μ : Mt} {τ : Tb} {K : Option Value → Hp → Prop} {kn : Nat × Nat} {J : Nat → Lv → List Value → Hp → Prop} {len pc : Nat} {lv : Lv} {st : List Value} {σ : Hp} {k : Fin 4} (hτ : TbOK Γ μ τ) (hJ : ∀ pc lv st σ, J pc lv st σ → YN Γ μ K kn pc lv st σ) (hd : decode μ.2.2.1 pc = .ok ((.aload_n k), len)) (h : len = 1 ∧ (match lg lv k.val with | some (.ref x) => J (pc + 1) lv (.ref x :: st) σ | _ => False)) : YN Γ μ K kn pc lv st σ := by
  obtain ⟨rfl, h⟩ := h
  split at h
  · next x e0 =>
    intro p e s m args below meth c H locs ls F B S hl N
    exact lv_aload_n F.1 F.2.1 hd rfl (lg_at hl e0) (hJ _ _ _ _ h p e s m args below meth c H locs ls F B S hl N)
  · exact h.elim
theorem sn_istore_n {Γ : Cx} {μ : Mt} {τ : Tb} {K : Option Value → Hp → Prop} {kn : Nat × Nat} {J : Nat → Lv → List Value → Hp → Prop} {len pc : Nat} {lv : Lv} {st : List Value} {σ : Hp} {k : Fin 4} : nstep Γ μ τ K kn J (.istore_n k) len pc lv st σ = (len = 1 ∧ s1i st fun x r => k.val < μ.2.2.2.1 ∧ J (pc + 1) (lput lv k.val (.int x)) r σ) := rfl
theorem okn_istore_n {Γ : Cx} {μ : Mt} {τ : Tb} {K : Option Value → Hp → Prop} {kn : Nat × Nat} {J : Nat → Lv → List Value → Hp → Prop} {len pc : Nat} {lv : Lv} {st : List Value} {σ : Hp} {k : Fin 4} (hτ : TbOK Γ μ τ) (hJ : ∀ pc lv st σ, J pc lv st σ → YN Γ μ K kn pc lv st σ) (hd : decode μ.2.2.1 pc = .ok ((.istore_n k), len)) (h : len = 1 ∧ s1i st fun x r => k.val < μ.2.2.2.1 ∧ J (pc + 1) (lput lv k.val (.int x)) r σ) : YN Γ μ K kn pc lv st σ := by
  obtain ⟨rfl, h⟩ := h
  match st, h with
  | .int x :: r, h =>
    intro p e s m args below meth c H locs ls F B S hl N
    exact lv_istore_n F.1 F.2.1 hd rfl hl h.1 rfl (fun ls' hl' => hJ _ _ _ _ h.2 p e s m args below meth c H locs ls' F B S (lput_has hl') N)
theorem sn_astore_n {Γ : Cx} {μ : Mt} {τ : Tb} {K : Option Value → Hp → Prop} {kn : Nat × Nat} {J : Nat → Lv → List Value → Hp → Prop} {len pc : Nat} {lv : Lv} {st : List Value} {σ : Hp} {k : Fin 4} : nstep Γ μ τ K kn J (.astore_n k) len pc lv st σ = (len = 1 ∧ s1r st fun x r => k.val < μ.2.2.2.1 ∧ J (pc + 1) (lput lv k.val (.ref x)) r σ) := rfl
theorem okn_astore_n {Γ : Cx} {μ : Mt} {τ : Tb} {K : Option Value → Hp → Prop} {kn : Nat × Nat} {J : Nat → Lv → List Value → Hp → Prop} {len pc : Nat} {lv : Lv} {st : List Value} {σ : Hp} {k : Fin 4} (hτ : TbOK Γ μ τ) (hJ : ∀ pc lv st σ, J pc lv st σ → YN Γ μ K kn pc lv st σ) (hd : decode μ.2.2.1 pc = .ok ((.astore_n k), len)) (h : len = 1 ∧ s1r st fun x r => k.val < μ.2.2.2.1 ∧ J (pc + 1) (lput lv k.val (.ref x)) r σ) : YN Γ μ K kn pc lv st σ := by
  obtain ⟨rfl, h⟩ := h
  match st, h with
  | .ref x :: r, h =>
    intro p e s m args below meth c H locs ls F B S hl N
    exact lv_astore_n F.1 F.2.1 hd rfl hl h.1 rfl (fun ls' hl' => hJ _ _ _ _ h.2 p e s m args below meth c H locs ls' F B S (lput_has hl') N)
theorem sn_iinc {Γ : Cx} {μ : Mt} {τ : Tb} {K : Option Value → Hp → Prop} {kn : Nat × Nat} {J : Nat → Lv → List Value → Hp → Prop} {len pc : Nat} {lv : Lv} {st : List Value} {σ : Hp} {k : Nat} {n : Int} : nstep Γ μ τ K kn J (.iinc k n) len pc lv st σ = (len = 3 ∧ k < μ.2.2.2.1 ∧ (match lg lv k with | some (.int x) => J (pc + 3) (lput lv k (.int (x + Int32.ofInt n))) st σ | _ => False)) := rfl
theorem okn_iinc {Γ : Cx} {μ : Mt} {τ : Tb} {K : Option Value → Hp → Prop} {kn : Nat × Nat} {J : Nat → Lv → List Value → Hp → Prop} {len pc : Nat} {lv : Lv} {st : List Value} {σ : Hp} {k : Nat} {n : Int} (hτ : TbOK Γ μ τ) (hJ : ∀ pc lv st σ, J pc lv st σ → YN Γ μ K kn pc lv st σ) (hd : decode μ.2.2.1 pc = .ok ((.iinc k n), len)) (h : len = 3 ∧ k < μ.2.2.2.1 ∧ (match lg lv k with | some (.int x) => J (pc + 3) (lput lv k (.int (x + Int32.ofInt n))) st σ | _ => False)) : YN Γ μ K kn pc lv st σ := by
  obtain ⟨rfl, h0, h⟩ := h
  split at h
  · next x e0 =>
    intro p e s m args below meth c H locs ls F B S hl N
    obtain ⟨j, hj⟩ := lg_ix e0
    exact lv_iinc F.1 F.2.1 hd hl hj rfl h0 rfl (fun ls' hl' => hJ _ _ _ _ h p e s m args below meth c H locs ls' F B S (lput_has hl') N)
  · exact h.elim
theorem sn_dup {Γ : Cx} {μ : Mt} {τ : Tb} {K : Option Value → Hp → Prop} {kn : Nat × Nat} {J : Nat → Lv → List Value → Hp → Prop} {len pc : Nat} {lv : Lv} {st : List Value} {σ : Hp} : nstep Γ μ τ K kn J .dup len pc lv st σ = (len = 1 ∧ sd1 st fun v r => J (pc + 1) lv (v :: v :: r) σ) := rfl
theorem okn_dup {Γ : Cx} {μ : Mt} {τ : Tb} {K : Option Value → Hp → Prop} {kn : Nat × Nat} {J : Nat → Lv → List Value → Hp → Prop} {len pc : Nat} {lv : Lv} {st : List Value} {σ : Hp} (hτ : TbOK Γ μ τ) (hJ : ∀ pc lv st σ, J pc lv st σ → YN Γ μ K kn pc lv st σ) (hd : decode μ.2.2.1 pc = .ok (.dup, len)) (h : len = 1 ∧ sd1 st fun v r => J (pc + 1) lv (v :: v :: r) σ) : YN Γ μ K kn pc lv st σ := by
  obtain ⟨rfl, h⟩ := h
  match st, h with
  | v :: r, h =>
    intro p e s m args below meth c H locs ls F B S hl N
    exact lv_dup F.1 F.2.1 hd (isL_cat h.1) (hJ _ _ _ _ h.2 p e s m args below meth c H locs ls F B S hl N)
theorem sn_goto {Γ : Cx} {μ : Mt} {τ : Tb} {K : Option Value → Hp → Prop} {kn : Nat × Nat} {J : Nat → Lv → List Value → Hp → Prop} {len pc : Nat} {lv : Lv} {st : List Value} {σ : Hp} {off : Int} : nstep Γ μ τ K kn J (.goto off) len pc lv st σ = (len = 3 ∧ jmp pc off fun t => J t lv st σ) := rfl
theorem okn_goto {Γ : Cx} {μ : Mt} {τ : Tb} {K : Option Value → Hp → Prop} {kn : Nat × Nat} {J : Nat → Lv → List Value → Hp → Prop} {len pc : Nat} {lv : Lv} {st : List Value} {σ : Hp} {off : Int} (hτ : TbOK Γ μ τ) (hJ : ∀ pc lv st σ, J pc lv st σ → YN Γ μ K kn pc lv st σ) (hd : decode μ.2.2.1 pc = .ok ((.goto off), len)) (h : len = 3 ∧ jmp pc off fun t => J t lv st σ) : YN Γ μ K kn pc lv st σ := by
  obtain ⟨rfl, h⟩ := h
  obtain ⟨t, ht, h⟩ := jmp_spec h
  intro p e s m args below meth c H locs ls F B S hl N
  exact lv_goto F.1 F.2.1 hd ht (hJ _ _ _ _ h p e s m args below meth c H locs ls F B S hl N)
theorem sn_if_icmp {Γ : Cx} {μ : Mt} {τ : Tb} {K : Option Value → Hp → Prop} {kn : Nat × Nat} {J : Nat → Lv → List Value → Hp → Prop} {len pc : Nat} {lv : Lv} {st : List Value} {σ : Hp} {cn : ClassFile.Cond} {off : Int} : nstep Γ μ τ K kn J (.if_icmp cn off) len pc lv st σ = (len = 3 ∧ s2i st fun x y r => jmp pc off fun t => (cnd2 cn x y → J t lv r σ) ∧ (¬ cnd2 cn x y → J (pc + 3) lv r σ)) := rfl
theorem okn_if_icmp {Γ : Cx} {μ : Mt} {τ : Tb} {K : Option Value → Hp → Prop} {kn : Nat × Nat} {J : Nat → Lv → List Value → Hp → Prop} {len pc : Nat} {lv : Lv} {st : List Value} {σ : Hp} {cn : ClassFile.Cond} {off : Int} (hτ : TbOK Γ μ τ) (hJ : ∀ pc lv st σ, J pc lv st σ → YN Γ μ K kn pc lv st σ) (hd : decode μ.2.2.1 pc = .ok ((.if_icmp cn off), len)) (h : len = 3 ∧ s2i st fun x y r => jmp pc off fun t => (cnd2 cn x y → J t lv r σ) ∧ (¬ cnd2 cn x y → J (pc + 3) lv r σ)) : YN Γ μ K kn pc lv st σ := by
  obtain ⟨rfl, h⟩ := h
  match st, h with
  | .int y :: .int x :: r, h =>
    obtain ⟨t, ht, h1, h2⟩ := jmp_spec h
    intro p e s m args below meth c H locs ls F B S hl N
    cases cn
    case eq => exact lv_icmp_eq F.1 F.2.1 hd ht (fun z => hJ _ _ _ _ (h1 (cnd2_eq.mpr z)) p e s m args below meth c H locs ls F B S hl N) (fun z => hJ _ _ _ _ (h2 (fun q => z (cnd2_eq.mp q))) p e s m args below meth c H locs ls F B S hl N)
    case ne => exact lv_icmp_ne F.1 F.2.1 hd ht (fun z => hJ _ _ _ _ (h1 (cnd2_ne.mpr z)) p e s m args below meth c H locs ls F B S hl N) (fun z => hJ _ _ _ _ (h2 (fun q => cnd2_ne.mp q z)) p e s m args below meth c H locs ls F B S hl N)
    case lt => exact lv_icmp_lt F.1 F.2.1 hd ht (fun z => hJ _ _ _ _ (h1 (cnd2_lt.mpr z)) p e s m args below meth c H locs ls F B S hl N) (fun z => hJ _ _ _ _ (h2 (fun q => z (cnd2_lt.mp q))) p e s m args below meth c H locs ls F B S hl N)
    case ge => exact lv_icmp_ge F.1 F.2.1 hd ht (fun z => hJ _ _ _ _ (h1 (cnd2_ge.mpr z)) p e s m args below meth c H locs ls F B S hl N) (fun z => hJ _ _ _ _ (h2 (fun q => z (cnd2_ge.mp q))) p e s m args below meth c H locs ls F B S hl N)
    case gt => exact lv_icmp_gt F.1 F.2.1 hd ht (fun z => hJ _ _ _ _ (h1 (cnd2_gt.mpr z)) p e s m args below meth c H locs ls F B S hl N) (fun z => hJ _ _ _ _ (h2 (fun q => z (cnd2_gt.mp q))) p e s m args below meth c H locs ls F B S hl N)
    case le => exact lv_icmp_le F.1 F.2.1 hd ht (fun z => hJ _ _ _ _ (h1 (cnd2_le.mpr z)) p e s m args below meth c H locs ls F B S hl N) (fun z => hJ _ _ _ _ (h2 (fun q => z (cnd2_le.mp q))) p e s m args below meth c H locs ls F B S hl N)
theorem sn_getfield {Γ : Cx} {μ : Mt} {τ : Tb} {K : Option Value → Hp → Prop} {kn : Nat × Nat} {J : Nat → Lv → List Value → Hp → Prop} {len pc : Nat} {lv : Lv} {st : List Value} {σ : Hp} {i : Nat} : nstep Γ μ τ K kn J (.getfield i) len pc lv st σ = (len = 3 ∧ s1r st fun a r => (match μ.2.2.2.2.2.2 with | some false => strF Γ μ i a (fun v => J (pc + 3) lv (v :: r) σ) | _ => obj σ a fun ci fs => (match τ.1 i ci with | some (k, _) => (match fs[k]? with | some v => J (pc + 3) lv (v :: r) σ | none => False) | none => False))) := rfl
theorem okn_getfield {Γ : Cx} {μ : Mt} {τ : Tb} {K : Option Value → Hp → Prop} {kn : Nat × Nat} {J : Nat → Lv → List Value → Hp → Prop} {len pc : Nat} {lv : Lv} {st : List Value} {σ : Hp} {i : Nat} (hτ : TbOK Γ μ τ) (hJ : ∀ pc lv st σ, J pc lv st σ → YN Γ μ K kn pc lv st σ) (hd : decode μ.2.2.1 pc = .ok ((.getfield i), len)) (h : len = 3 ∧ s1r st fun a r => (match μ.2.2.2.2.2.2 with | some false => strF Γ μ i a (fun v => J (pc + 3) lv (v :: r) σ) | _ => obj σ a fun ci fs => (match τ.1 i ci with | some (k, _) => (match fs[k]? with | some v => J (pc + 3) lv (v :: r) σ | none => False) | none => False))) : YN Γ μ K kn pc lv st σ := by
  obtain ⟨rfl, h⟩ := h
  match st, h with
  | .ref a :: r, h =>
    simp only [s1r] at h
    split at h
    · obtain ⟨rfl, ho, h⟩ := h
      intro p e s m args below meth c H locs ls F B S hl N
      have hown := F.2.2.2.1
      rw [ho] at hown
      have hE := F.2.2.2.2.2.2.2.1.2.2.2.1.1 0 (by decide)
      split at h
      · exact vk_getf F.1 F.2.1 hE.2.1 S hown (F.2.2.2.2.1 _ bw_1070) (fun x hx => hx) hd (hJ _ _ _ _ h p e s m args below meth c H locs ls F B S hl N)
      · exact vk_getf F.1 F.2.1 hE.2.2.1 S hown (F.2.2.2.2.1 _ bw_1071) (fun x hx => hx) hd (hJ _ _ _ _ h p e s m args below meth c H locs ls F B S hl N)
      · exact h.elim
    obtain ⟨ha, h⟩ := h
    split at h
    · next ci fs e0 =>
      split at h
      · next k b e1 =>
        split at h
        · next v e2 =>
          intro p e s m args below meth c H locs ls F B S hl N
          obtain ⟨C, T, Nn, ref, f1, f2, f3, f4, -⟩ := hτ.2.2.2.1 _ _ _ _ e1
          obtain ⟨q0, hq⟩ := va_pl_get (X := []) (f := σ.2) ha
          rw [e0] at hq
          exact va_get F.1 F.2.1 F.2.2.2.2.1 f4.1 F.2.2.2.1 F.2.2.2.2.2.2.2.1.1 B.1 q0 hq f1 k f2 (F.2.2.2.2.1 _ f3) (f4.2.elim (fun z x hx => by rw [z]; exact hx) (fun z => u_same (F.2.2.2.2.1 _ z))) e2 hd (hJ _ _ _ _ h p e s m args below meth c H locs ls F B S hl N)
        · exact h.elim
      · exact h.elim
    · exact h.elim
theorem sn_iastore {Γ : Cx} {μ : Mt} {τ : Tb} {K : Option Value → Hp → Prop} {kn : Nat × Nat} {J : Nat → Lv → List Value → Hp → Prop} {len pc : Nat} {lv : Lv} {st : List Value} {σ : Hp} : nstep Γ μ τ K kn J .iastore len pc lv st σ = (len = 1 ∧ siir st fun a i x r => arI Γ σ a fun n f => vp_in i n ∧ J (pc + 1) lv r (hput σ a (.inl (Γ.2.2.2.1 0, n, .inl (upd f i.toNatClampNeg x))))) := rfl
theorem okn_iastore {Γ : Cx} {μ : Mt} {τ : Tb} {K : Option Value → Hp → Prop} {kn : Nat × Nat} {J : Nat → Lv → List Value → Hp → Prop} {len pc : Nat} {lv : Lv} {st : List Value} {σ : Hp} (hτ : TbOK Γ μ τ) (hJ : ∀ pc lv st σ, J pc lv st σ → YN Γ μ K kn pc lv st σ) (hd : decode μ.2.2.1 pc = .ok (.iastore, len)) (h : len = 1 ∧ siir st fun a i x r => arI Γ σ a fun n f => vp_in i n ∧ J (pc + 1) lv r (hput σ a (.inl (Γ.2.2.2.1 0, n, .inl (upd f i.toNatClampNeg x))))) : YN Γ μ K kn pc lv st σ := by
  obtain ⟨rfl, h⟩ := h
  match st, h with
  | .int x :: .int i :: .ref a :: r, h =>
    obtain ⟨ha, h⟩ := h
    split at h
    · next cA n f e0 =>
      obtain ⟨rfl, h1, h⟩ := h
      intro p e s m args below meth c H locs ls F B S hl N
      obtain ⟨q0, hq⟩ := va_pl_get (X := []) (f := σ.2) ha
      have hset := va_pl_set (X := []) (e := (.inl (Γ.2.2.2.1 0, n, .inl (upd f i.toNatClampNeg x)))) B.2 ha hq
      rw [e0] at hq
      refine va_iast F.1 F.2.1 F.2.2.2.2.2.2.2.1.1 B.1 B.2 S q0 0 hq rfl h1 hd (fun H1 locs1 hP1 hD1 hS1 => ?_)
      simp only [List.nil_append] at hset
      rw [hset] at hP1 hD1
      exact hJ _ _ _ _ h p e s m args below meth c H1 locs1 ls F ⟨hP1, hD1⟩ hS1 hl N
    · exact h.elim
theorem sn_putfield {Γ : Cx} {μ : Mt} {τ : Tb} {K : Option Value → Hp → Prop} {kn : Nat × Nat} {J : Nat → Lv → List Value → Hp → Prop} {len pc : Nat} {lv : Lv} {st : List Value} {σ : Hp} {i : Nat} : nstep Γ μ τ K kn J (.putfield i) len pc lv st σ = (len = 3 ∧ (match st with | .int x :: .ref a :: r => obj σ a fun ci fs => (match τ.1 i ci with | some (k, b) => fput b x ∧ k < fs.length ∧ J (pc + 3) lv r (hput σ a (.inr (ci, fs.set k (.int x)))) | none => False) | .ref v :: .ref a :: r => obj σ a fun ci fs => (match τ.1 i ci with | some (k, b) => μ.2.2.2.2.2.2 = none ∧ finT μ.2.1 ci k ∧ k < fs.length ∧ J (pc + 3) lv r (hput σ a (.inr (ci, fs.set k (.ref v)))) | none => False) | _ => False)) := rfl
theorem okn_putfield {Γ : Cx} {μ : Mt} {τ : Tb} {K : Option Value → Hp → Prop} {kn : Nat × Nat} {J : Nat → Lv → List Value → Hp → Prop} {len pc : Nat} {lv : Lv} {st : List Value} {σ : Hp} {i : Nat} (hτ : TbOK Γ μ τ) (hJ : ∀ pc lv st σ, J pc lv st σ → YN Γ μ K kn pc lv st σ) (hd : decode μ.2.2.1 pc = .ok ((.putfield i), len)) (h : len = 3 ∧ (match st with | .int x :: .ref a :: r => obj σ a fun ci fs => (match τ.1 i ci with | some (k, b) => fput b x ∧ k < fs.length ∧ J (pc + 3) lv r (hput σ a (.inr (ci, fs.set k (.int x)))) | none => False) | .ref v :: .ref a :: r => obj σ a fun ci fs => (match τ.1 i ci with | some (k, b) => μ.2.2.2.2.2.2 = none ∧ finT μ.2.1 ci k ∧ k < fs.length ∧ J (pc + 3) lv r (hput σ a (.inr (ci, fs.set k (.ref v)))) | none => False) | _ => False)) : YN Γ μ K kn pc lv st σ := by
  obtain ⟨rfl, h⟩ := h
  split at h
  · next x a r =>
    obtain ⟨ha, h⟩ := h
    split at h
    · next ci fs e0 =>
      split at h
      · next k b e1 =>
        obtain ⟨h1, h2, h⟩ := h
        intro p e s m args below meth c H locs ls F B S hl N
        obtain ⟨C, T, Nn, ref, f1, f2, f3, f4, f5, ty0, f6, f7⟩ := hτ.2.2.2.1 _ _ _ _ e1
        obtain ⟨q0, hq⟩ := va_pl_get (X := []) (f := σ.2) ha
        have hset := va_pl_set (X := []) (e := .inr (ci, fs.set k (.int x))) B.2 ha hq
        rw [e0] at hq
        obtain ⟨ty, g1, g2, g3, g4⟩ := f5 x h1
        refine va_put F.1 F.2.1 F.2.2.2.2.1 f4.1 ty0 f6 f7 F.2.2.2.1 F.2.2.2.2.2.2.2.1.1 B.1 B.2 S q0 hq f1 k f2 (F.2.2.2.2.1 _ f3) (f4.2.elim (fun z x hx => by rw [z]; exact hx) (fun z => u_same (F.2.2.2.2.1 _ z))) g1 g2 g3 g4 h2 hd (fun H1 locs1 hP1 hD1 hS1 => ?_)
        simp only [List.nil_append] at hset
        rw [hset] at hP1 hD1
        exact hJ _ _ _ _ h p e s m args below meth c H1 locs1 ls F ⟨hP1, hD1⟩ hS1 hl N
      · exact h.elim
    · exact h.elim
  · next v a r =>
    obtain ⟨ha, h⟩ := h
    split at h
    · next ci fs e0 =>
      split at h
      · next k b e1 =>
        obtain ⟨h0, ⟨C', T', N', ty, t1, t2, t3, t4, t5⟩, h2, h⟩ := h
        intro p e s m args below meth c H locs ls F B S hl N
        obtain ⟨C, T, Nn, ref, f1, f2, f3, f4, f5, ty0, f6, f7⟩ := hτ.2.2.2.1 _ _ _ _ e1
        cases f1.symm.trans t1
        obtain ⟨q0, hq⟩ := va_pl_get (X := []) (f := σ.2) ha
        have hset := va_pl_set (X := []) (e := .inr (ci, fs.set k (.ref v))) B.2 ha hq
        rw [e0] at hq
        refine va_putF F.1 F.2.1 F.2.2.2.2.1 f4.1 ty0 f6 f7 F.2.2.2.1 F.2.2.2.2.2.2.2.1.1 B.1 B.2 S q0 hq f1 k f2 (F.2.2.2.2.1 _ f3) (f4.2.elim (fun z x hx => by rw [z]; exact hx) (fun z => u_same (F.2.2.2.2.1 _ z))) t2 (N.1 h0) t3 t4 (t5 v).1 (t5 v).2 h2 hd (fun H1 locs1 hP1 hD1 hS1 => ?_)
        simp only [List.nil_append] at hset
        rw [hset] at hP1 hD1
        exact hJ _ _ _ _ h p e s m args below meth c H1 locs1 ls F ⟨hP1, hD1⟩ hS1 hl N
      · exact h.elim
    · exact h.elim
  · exact h.elim
theorem sn_aastore {Γ : Cx} {μ : Mt} {τ : Tb} {K : Option Value → Hp → Prop} {kn : Nat × Nat} {J : Nat → Lv → List Value → Hp → Prop} {len pc : Nat} {lv : Lv} {st : List Value} {σ : Hp} : nstep Γ μ τ K kn J .aastore len pc lv st σ = (len = 1 ∧ srir st fun a i v r => arR Γ σ a fun n cA f => vp_in i n ∧ (obj σ v fun ci fs => (ci = 1 ∧ cA = Γ.2.2.2.1 2) ∨ (ci = 4 ∧ cA = Γ.2.2.2.1 3)) ∧ J (pc + 1) lv r (hput σ a (.inl (cA, n, .inr (.inr (.inr (.inr (va_up f i.toNatClampNeg (some v))))))))) := rfl
theorem okn_aastore {Γ : Cx} {μ : Mt} {τ : Tb} {K : Option Value → Hp → Prop} {kn : Nat × Nat} {J : Nat → Lv → List Value → Hp → Prop} {len pc : Nat} {lv : Lv} {st : List Value} {σ : Hp} (hτ : TbOK Γ μ τ) (hJ : ∀ pc lv st σ, J pc lv st σ → YN Γ μ K kn pc lv st σ) (hd : decode μ.2.2.1 pc = .ok (.aastore, len)) (h : len = 1 ∧ srir st fun a i v r => arR Γ σ a fun n cA f => vp_in i n ∧ (obj σ v fun ci fs => (ci = 1 ∧ cA = Γ.2.2.2.1 2) ∨ (ci = 4 ∧ cA = Γ.2.2.2.1 3)) ∧ J (pc + 1) lv r (hput σ a (.inl (cA, n, .inr (.inr (.inr (.inr (va_up f i.toNatClampNeg (some v))))))))) : YN Γ μ K kn pc lv st σ := by
  obtain ⟨rfl, h⟩ := h
  match st, h with
  | .ref v :: .int i :: .ref a :: r, h =>
    obtain ⟨ha, h⟩ := h
    split at h
    · next cA n f e0 =>
      obtain ⟨-, h1, ⟨hv, hv2⟩, h⟩ := h
      split at hv2
      · next ci fs e1 =>
        intro p e s m args below meth c H locs ls F B S hl N
        obtain ⟨q0, hq⟩ := va_pl_get (X := []) (f := σ.2) ha
        obtain ⟨q1, hq1⟩ := va_pl_get (X := []) (f := σ.2) hv
        have hset := va_pl_set (X := []) (e := (.inl (cA, n, .inr (.inr (.inr (.inr (va_up f i.toNatClampNeg (some v)))))))) B.2 ha hq
        rw [e0] at hq
        rw [e1] at hq1
        rcases hv2 with hv2 | hv2
        · obtain ⟨rfl, rfl⟩ := hv2
          refine va_astq F.1 F.2.1 F.2.2.2.2.2.2.2.1.1 B.1 B.2 S q0 2 q1 1 (r := (RX1, TX1, 5)) hq rfl hq1 rfl h1 hd (fun H1 locs1 hP1 hD1 hS1 => ?_)
          simp only [List.nil_append] at hset
          rw [hset] at hP1 hD1
          exact hJ _ _ _ _ h p e s m args below meth c H1 locs1 ls F ⟨hP1, hD1⟩ hS1 hl N
        · obtain ⟨rfl, rfl⟩ := hv2
          refine va_astq F.1 F.2.1 F.2.2.2.2.2.2.2.1.1 B.1 B.2 S q0 3 q1 4 (r := (RX4, TX4, 3)) hq rfl hq1 rfl h1 hd (fun H1 locs1 hP1 hD1 hS1 => ?_)
          simp only [List.nil_append] at hset
          rw [hset] at hP1 hD1
          exact hJ _ _ _ _ h p e s m args below meth c H1 locs1 ls F ⟨hP1, hD1⟩ hS1 hl N
      · exact hv2.elim
    · exact h.elim
theorem sn_return {Γ : Cx} {μ : Mt} {τ : Tb} {K : Option Value → Hp → Prop} {kn : Nat × Nat} {J : Nat → Lv → List Value → Hp → Prop} {len pc : Nat} {lv : Lv} {st : List Value} {σ : Hp} : nstep Γ μ τ K kn J .return_ len pc lv st σ = (len = 1 ∧ (match st with | [] => μ.2.2.2.2.1 = none ∧ kn.1 ≤ μ.1.cells ∧ kn.2 ≤ μ.1.slots ∧ K none σ | _ => False)) := rfl
theorem okn_return {Γ : Cx} {μ : Mt} {τ : Tb} {K : Option Value → Hp → Prop} {kn : Nat × Nat} {J : Nat → Lv → List Value → Hp → Prop} {len pc : Nat} {lv : Lv} {st : List Value} {σ : Hp} (hτ : TbOK Γ μ τ) (hJ : ∀ pc lv st σ, J pc lv st σ → YN Γ μ K kn pc lv st σ) (hd : decode μ.2.2.1 pc = .ok (.return_, len)) (h : len = 1 ∧ (match st with | [] => μ.2.2.2.2.1 = none ∧ kn.1 ≤ μ.1.cells ∧ kn.2 ≤ μ.1.slots ∧ K none σ | _ => False)) : YN Γ μ K kn pc lv st σ := by
  obtain ⟨rfl, h⟩ := h
  split at h
  · intro p e s m args below meth c H locs ls F B S hl N
    refine W.widen h.2.1 h.2.2.1 ?_
    exact W.vret F.1 F.2.1 (F.2.2.2.2.2.1.trans h.1) (fun t ht _ => ⟨⟨_, σ, rfl, h.2.2.2, by rw [ht]; exact B⟩, S.F ht⟩) S.2.2 hd F.2.2.2.2.2.2.1
  · exact h.elim
theorem nstep_ok {Γ : Cx} {μ : Mt} {τ : Tb} {K : Option Value → Hp → Prop} {kn : Nat × Nat} {J : Nat → Lv → List Value → Hp → Prop} {len pc : Nat} {lv : Lv} {st : List Value} {σ : Hp} {ins : Instr} (hτ : TbOK Γ μ τ) (hJ : ∀ pc lv st σ, J pc lv st σ → YN Γ μ K kn pc lv st σ) (hd : decode μ.2.2.1 pc = .ok (ins, len)) (h : nstep Γ μ τ K kn J ins len pc lv st σ) : YN Γ μ K kn pc lv st σ := by
  cases ins
  case iadd => exact okn_iadd hτ hJ hd h
  case iconst => exact okn_iconst hτ hJ hd h
  case bipush => exact okn_bipush hτ hJ hd h
  case sipush => exact okn_sipush hτ hJ hd h
  case iload_n => exact okn_iload_n hτ hJ hd h
  case aload_n => exact okn_aload_n hτ hJ hd h
  case istore_n => exact okn_istore_n hτ hJ hd h
  case astore_n => exact okn_astore_n hτ hJ hd h
  case iinc => exact okn_iinc hτ hJ hd h
  case dup => exact okn_dup hτ hJ hd h
  case goto => exact okn_goto hτ hJ hd h
  case if_icmp => exact okn_if_icmp hτ hJ hd h
  case getfield => exact okn_getfield hτ hJ hd h
  case iastore => exact okn_iastore hτ hJ hd h
  case putfield => exact okn_putfield hτ hJ hd h
  case aastore => exact okn_aastore hτ hJ hd h
  case return_ => exact okn_return hτ hJ hd h
  all_goals exact False.elim h
def nvc (Γ : Cx) (μ : Mt) (τ : Tb) (K : Option Value → Hp → Prop) (kn : Nat × Nat) (S : List Nat) : Nat → Nat → Lv → List Value → Hp → Prop
  | 0, pc, lv, st, σ => YN Γ μ K kn pc lv st σ
  | n + 1, pc, lv, st, σ => if S.elem pc = true then YN Γ μ K kn pc lv st σ else (match decode μ.2.2.1 pc with | .ok (ins, len) => nstep Γ μ τ K kn (nvc Γ μ τ K kn S n) ins len pc lv st σ | _ => False)
theorem nvc_ok {Γ : Cx} {μ : Mt} {τ : Tb} {K : Option Value → Hp → Prop} {kn : Nat × Nat} {S : List Nat} (hτ : TbOK Γ μ τ) : ∀ (n pc : Nat) (lv : Lv) (st : List Value) (σ : Hp), nvc Γ μ τ K kn S n pc lv st σ → YN Γ μ K kn pc lv st σ
  | 0, pc, lv, st, σ, h => h
  | n + 1, pc, lv, st, σ, h => by
    unfold nvc at h
    split at h
    · exact h
    · split at h
      · next ins len e0 => exact nstep_ok hτ (nvc_ok hτ n) e0 h
      · exact h.elim
theorem nvc_s {Γ : Cx} {μ : Mt} {τ : Tb} {K : Option Value → Hp → Prop} {kn : Nat × Nat} {S : List Nat} {n pc : Nat} {lv : Lv} {st : List Value} {σ : Hp} : nvc Γ μ τ K kn S (n + 1) pc lv st σ = (if S.elem pc = true then YN Γ μ K kn pc lv st σ else (match decode μ.2.2.1 pc with | .ok (ins, len) => nstep Γ μ τ K kn (nvc Γ μ τ K kn S n) ins len pc lv st σ | _ => False)) := rfl
/-- the first instruction in any case -/
def nvc1 (Γ : Cx) (μ : Mt) (τ : Tb) (K : Option Value → Hp → Prop) (kn : Nat × Nat) (S : List Nat) (n pc : Nat) (lv : Lv) (st : List Value) (σ : Hp) : Prop := match decode μ.2.2.1 pc with | .ok (ins, len) => nstep Γ μ τ K kn (nvc Γ μ τ K kn S n) ins len pc lv st σ | _ => False
theorem nvc1_ok {Γ : Cx} {μ : Mt} {τ : Tb} {K : Option Value → Hp → Prop} {kn : Nat × Nat} {S : List Nat} (hτ : TbOK Γ μ τ) (n : Nat) {pc : Nat} {lv : Lv} {st : List Value} {σ : Hp} (h : nvc1 Γ μ τ K kn S n pc lv st σ) : YN Γ μ K kn pc lv st σ := by
  unfold nvc1 at h
  split at h
  · next ins len e0 => exact nstep_ok hτ (nvc_ok hτ n) e0 h
  · exact h.elim
/-! what makes cells -/
theorem fresh_of {A : Nat → Prop} {L : List Nat} {f : Nat → va_E} {q : Nat} {e : va_E} (h : va_D A (va_pl L f ++ [(q, e)])) : q ∉ L := fun z => by
  obtain ⟨k, hk⟩ := va_pl_get (X := []) (f := f) z
  simp only [List.nil_append] at hk
  have hlt : k < (va_pl L f).length := (List.getElem?_eq_some_iff.mp hk).1
  have := h.1 k (va_pl L f).length (q, f q) (q, e) (by rw [List.getElem?_append_left hlt]; exact hk) (by simp) rfl
  omega
def NewOK (own : String) (i ci N : Nat) (fs : List Value) : Prop := ∃ (C : String) (T : u_T) (ty : Nat → FieldType), kcl[ci]? = some (C, T, N) ∧ Cond.classLink own i C ∈ BW ∧ Cond.instantiable C N ∈ BW ∧ Cond.initialized C ∈ BW ∧ (∀ w ∈ u_ws C T N, w ∈ BW) ∧ (∀ k, k < N → parseFieldDescriptor (T k).2.2.1 = some (ty k)) ∧ ∀ j, j < N → defaultValue (ty j) = vp_V fs j
theorem n_new {Γ : Cx} {μ : Mt} {K : Option Value → Hp → Prop} {kn : Nat × Nat} {pc : Nat} {lv : Lv} {st : List Value} {σ : Hp} {i ci N : Nat} {fs : List Value} (hν : NewOK μ.2.1 i ci N fs) (hd : decode μ.2.2.1 pc = .ok (.new i, 3)) (h1 : kn.1 + 1 ≤ μ.1.cells) (h2 : kn.2 + N ≤ μ.1.slots)
    (h : ∀ q, q ∉ σ.1 → YN Γ μ K (kn.1 + 1, kn.2 + N) (pc + 3) lv (.ref q :: st) (hnew σ q (.inr (ci, fs)))) : YN Γ μ K kn pc lv st σ := by
  obtain ⟨C, T, ty, f1, f2, f3, f4, f5, f6, f7⟩ := hν
  intro p e s m args below meth c H locs ls F B S hl Nm
  refine va_new F.1 F.2.1 F.2.2.2.2.1 f5 ty f6 F.2.2.2.1 (F.2.2.2.2.1 _ f2) (F.2.2.2.2.1 _ f3) (F.2.2.2.2.1 _ f4) F.2.2.2.2.2.2.2.1.1 B.1 B.2 S F.2.2.2.2.2.2.2.2 f1 f7 h1 h2 hd (fun q H1 hP1 hD1 hS1 => ?_)
  have hf := fresh_of hD1
  rw [va_pl_push hf] at hP1 hD1
  exact h q hf p e s m args below meth c H1 locs ls F ⟨hP1, hD1⟩ hS1 hl Nm
theorem bw_126 : Cond.arrayClass .int ∈ BW := bw_i 126 (by decide +kernel) (by decide +kernel)
theorem bw_206 : Cond.arrayClass .long ∈ BW := bw_i 206 (by decide +kernel) (by decide +kernel)
theorem n_newI {Γ : Cx} {μ : Mt} {K : Option Value → Hp → Prop} {kn : Nat × Nat} {pc : Nat} {lv : Lv} {st : List Value} {σ : Hp} {n : Int32} (N : Nat) (hd : decode μ.2.2.1 pc = .ok (.newarray .int, 2)) (hn : ¬ n < 0) (hN : n.toNatClampNeg = N) (hb : N * 4 ≤ 536870912) (h1 : kn.1 + 1 ≤ μ.1.cells) (h2 : kn.2 + N ≤ μ.1.slots)
    (h : ∀ q, q ∉ σ.1 → YN Γ μ K (kn.1 + 1, kn.2 + N) (pc + 2) lv (.ref q :: st) (hnew σ q (iA Γ N (fun _ => 0)))) : YN Γ μ K kn pc lv (.int n :: st) σ := by
  intro p e s m args below meth c H locs ls F B S hl Nm
  have hK := F.2.2.2.2.2.2.2.1.1
  refine va_newa F.1 F.2.1 (atype := .int) (F.2.2.2.2.1 _ bw_126) (ty := .int) rfl hK B.1 B.2 S F.2.2.2.2.2.2.2.2 (a0 := (N, .inl (fun _ => 0))) (fun cA => rfl) hn hN hb h1 h2 hd (fun q cA H1 hK1 hP1 hD1 hS1 => ?_)
  have e1 := va_nm_int (hK.2 0 _ rfl).2
  have e2 := va_nm_int (hK1.2 4 (cA, .int) rfl).2
  obtain rfl : Γ.2.2.2.1 0 = cA := Option.some.inj (e1.symm.trans e2)
  have hf := fresh_of hD1
  rw [va_pl_push hf] at hP1 hD1
  exact h q hf p e s m args below meth c H1 locs ls F ⟨hP1, hD1⟩ hS1 hl Nm
theorem n_newL {Γ : Cx} {μ : Mt} {K : Option Value → Hp → Prop} {kn : Nat × Nat} {pc : Nat} {lv : Lv} {st : List Value} {σ : Hp} {n : Int32} (N : Nat) (hd : decode μ.2.2.1 pc = .ok (.newarray .long, 2)) (hn : ¬ n < 0) (hN : n.toNatClampNeg = N) (hb : N * 8 ≤ 536870912) (h1 : kn.1 + 1 ≤ μ.1.cells) (h2 : kn.2 + N ≤ μ.1.slots)
    (h : ∀ q, q ∉ σ.1 → YN Γ μ K (kn.1 + 1, kn.2 + N) (pc + 2) lv (.ref q :: st) (hnew σ q (lA Γ N (fun _ => 0)))) : YN Γ μ K kn pc lv (.int n :: st) σ := by
  intro p e s m args below meth c H locs ls F B S hl Nm
  have hK := F.2.2.2.2.2.2.2.1.1
  refine va_newa F.1 F.2.1 (atype := .long) (F.2.2.2.2.1 _ bw_206) (ty := .long) rfl hK B.1 B.2 S F.2.2.2.2.2.2.2.2 (a0 := (N, .inr (.inl (fun _ => 0)))) (fun cA => rfl) hn hN hb h1 h2 hd (fun q cA H1 hK1 hP1 hD1 hS1 => ?_)
  have e1 := va_nm_long (hK.2 1 _ rfl).2
  have e2 := va_nm_long (hK1.2 4 (cA, .long) rfl).2
  obtain rfl : Γ.2.2.2.1 1 = cA := Option.some.inj (e1.symm.trans e2)
  have hf := fresh_of hD1
  rw [va_pl_push hf] at hP1 hD1
  exact h q hf p e s m args below meth c H1 locs ls F ⟨hP1, hD1⟩ hS1 hl Nm
theorem n_newq {Γ : Cx} {μ : Mt} {K : Option Value → Hp → Prop} {kn : Nat × Nat} {pc : Nat} {lv : Lv} {st : List Value} {σ : Hp} {n : Int32} {i : Nat} (N t : Nat) {C : String} (ht : (t = 2 ∧ C = RX1) ∨ (t = 3 ∧ C = RX4)) (hl0 : Cond.classLink μ.2.1 i C ∈ BW) (hd : decode μ.2.2.1 pc = .ok (.anewarray i, 3)) (hn : ¬ n < 0) (hN : n.toNatClampNeg = N) (hb : N * 4 ≤ 536870912) (h1 : kn.1 + 1 ≤ μ.1.cells) (h2 : kn.2 + N ≤ μ.1.slots)
    (h : ∀ q, q ∉ σ.1 → YN Γ μ K (kn.1 + 1, kn.2 + N) (pc + 3) lv (.ref q :: st) (hnew σ q (.inl (Γ.2.2.2.1 t, N, .inr (.inr (.inr (.inr (fun _ => none)))))))) : YN Γ μ K kn pc lv (.int n :: st) σ := by
  intro p e s m args below meth c H locs ls F B S hl Nm
  have hK := F.2.2.2.2.2.2.2.1.1
  have hao : va_AO C s := by rcases ht with ⟨-, rfl⟩ | ⟨-, rfl⟩; exact Nm.2.1; exact Nm.2.2
  refine va_newq F.1 F.2.1 F.2.2.2.1 (F.2.2.2.2.1 _ hl0) hao hK B.1 B.2 S F.2.2.2.2.2.2.2.2 hn hN hb h1 h2 hd (fun q cA H1 hK1 hP1 hD1 hS1 => ?_)
  have e2 := va_nmO (hK1.2 4 (cA, .object C) rfl).2 rfl
  have e1 : s.vm.findClass ("[" ++ (FieldType.object C).toString) = some (Γ.2.2.2.1 t) := by
    rcases ht with ⟨rfl, rfl⟩ | ⟨rfl, rfl⟩
    · exact va_nmO (hK.2 2 _ rfl).2 rfl
    · exact va_nmO (hK.2 3 _ rfl).2 rfl
  obtain rfl : Γ.2.2.2.1 t = cA := Option.some.inj (e1.symm.trans e2)
  have hf := fresh_of hD1
  rw [va_pl_push hf] at hP1 hD1
  exact h q hf p e s m args below meth c H1 locs ls F ⟨hP1, hD1⟩ hS1 hl Nm
theorem bw_64 : Cond.instanceMethod objectInit ∈ BW := bw_i 64 (by decide +kernel) (by decide +kernel)
theorem bw_65 : Cond.code objectInit ⟨#[0xb1]⟩ 1 none ∈ BW := bw_i 65 (by decide +kernel) (by decide +kernel)
theorem n_obj {Γ : Cx} {μ : Mt} {K : Option Value → Hp → Prop} {kn : Nat × Nat} {pc : Nat} {lv : Lv} {st : List Value} {σ : Hp} {i b : Nat} (hl0 : Cond.methodLink μ.2.1 i objectInit ∈ BW) (hd : decode μ.2.2.1 pc = .ok (.invokespecial i, 3)) (hcs : csum st ≤ 8) (h1 : 1 ≤ μ.1.frames) (h2 : 20 ≤ μ.1.locals)
    (h : YN Γ μ K kn (pc + 3) lv st σ) : YN Γ μ K kn pc lv (.ref b :: st) σ := by
  intro p e s m args below meth c H locs ls F B S hl Nm
  exact W.objInit F.1 F.2.1 F.2.2.2.1 (F.2.2.2.2.1 _ hl0) (F.2.2.2.2.1 _ bw_64) (F.2.2.2.2.1 _ bw_65) rfl (hl.1.trans F.2.2.1.symm) rfl hd h1 (by have := csum_room (m := m) (pc := pc) (ls := ls) (rest := .ref b :: st) hcs; omega) (h p e s m args below meth c H locs ls F B S hl Nm)
/-- contracts of constructors -/
def BpI (Γ : Cx) (σ : Hp) (U : State) : Prop := Bp Γ σ U ∧ va_AO RX1 U ∧ va_AO RX4 U
def OkI (Γ : Cx) (y : MethodName) (μ : Mt) (sp : YSp) : Prop := ∀ (av : List Value) (σ : Hp) (K : Option Value → Hp → Prop), sp av σ K → Met Γ.1 y (wsm y μ) μ.1 (va_Pc av (BpI Γ σ)) (Qk Γ K) μ.1.cells μ.1.slots Γ.2.2.1
theorem oki_intro {Γ : Cx} {y : MethodName} {μ : Mt} {sp : YSp} (hy : plainName y.cls = true) (ho : y.cls = μ.2.1) (hi : y.name = "<init>")
    (h : ∀ (av : List Value) (σ : Hp) (K : Option Value → Hp → Prop), sp av σ K → (lg_sl av).length ≤ μ.2.2.2.1 ∧ YN Γ μ K (0, 0) 0 (lv_args 0 av) [] σ) : OkI Γ y μ sp := by
  intro av σ K hs
  obtain ⟨hn, hG⟩ := h av σ K hs
  refine Met.ofW (cc := μ.2.2.1) (maxL := μ.2.2.2.1) (ret := μ.2.2.2.2.1) hy rfl ?_
  intro p e s m args below meth c s₁ B hml hv
  obtain ⟨rfl, ⟨hB, hE, hA⟩, hao⟩ := hv
  have hts := atoms_spec (ws := wsm y μ) B.pre
  have hown : s.vm.findClass y.cls = some m.cls := findClass_of_methodNamed B.named
  have hin : meth.name = y.name := (name_of_methodNamed B.named B.method).1
  have hl := lv_entry av (n := μ.2.2.2.1) hn
  rw [lg_entry_eq]
  have F : Fx Γ μ p s m av.toArray meth c := ⟨B.exec, B.bytes, hml, by rw [← ho]; exact hown, fun w hw => hts w (List.mem_cons_of_mem _ hw), B.returns, B.notSynchronized, hE, hA⟩
  exact hG p e s m av.toArray below meth c s.heap [] _ F hB va_S.rf hl ⟨fun _ => hin.trans hi, hao⟩
theorem pc_blindI {Γ : Cx} {av : List Value} {σ : Hp} : FrameBlind (va_Pc av (BpI Γ σ)) := fun a U g mk q => ⟨q.1, ⟨q.2.1.1, EV.same (s := U) (U := U.calling g mk a) (H := U.heap) rfl q.2.1.2.1, q.2.1.2.2⟩, va_AO.moved (u := U) (U := U.calling g mk a) (Vm.Alike.refl U.vm) q.2.2.1, va_AO.moved (u := U) (U := U.calling g mk a) (Vm.Alike.refl U.vm) q.2.2.2⟩
section CALLN
variable {Γ : Cx} {p : Program} {l : Launch} {e : Env} {R : Room} {s : State} {m : MethodId} {args : Array Value} {below : List Frame} {meth : Method} {c : Code} {H : Heap} {locs : List Loc} {cells slots mc ms : Nat} {Q : State → Prop} {pc : Nat} {ls : Array Slot} {rest st0 : List Value} {a : Array Value} {K' : Option Value → Hp → Prop}
theorem va_calln (hr : va_Run p l e R s m args below meth c H locs cells slots mc ms (F0 m pc ls st0) rest (Qk Γ K' a) Γ.2.2.1) (hS : va_S Γ.2.2.1 s.heap H locs)
    (kk : ∀ (v : Option Value) (σ : Hp) (H1 : Heap) (locs1 : List Loc), K' v σ → Bq Γ σ H1 → va_S Γ.2.2.1 s.heap H1 locs1 → W p l e R s m args below meth c H1 locs1 (cells + mc) (slots + ms) Q (F0 m (pc + 3) ls (v.toList ++ rest))) : W p l e R s m args below meth c H locs cells slots Q (F0 m pc ls st0) := by
  intro T hT X
  obtain ⟨v, st₀, t, T', L, h0, X', hL, e1, e2, ⟨⟨v', σ', hv, hp, hb⟩, hz, hk⟩, st⟩ := hr T hT X
  cases hv
  rw [h0] at hz hk
  obtain ⟨t2, a1, b1⟩ := kk v σ' T'.heap (locs ++ L) hp (by rw [e1]; exact hb)
    ⟨Nat.le_trans hS.1 (by rw [e1]; exact hz), fun q h1 h2 => by rw [e1, hk q (Nat.lt_of_lt_of_le h1 hS.1) h2]; exact hS.2.1 q h1 h2, fun q hq => by
      rcases List.mem_append.mp hq with h | h
      · exact hS.2.2 q h
      · exact hL q h⟩ T' rfl X'
  exact ⟨t2, st t2 a1, b1⟩
end CALLN
/-- what a constructor is called with: where it is linked, plainly or by the nest -/
def LinkOK (own : String) (i : Nat) (y : MethodName) : Prop := Cond.methodLink own i y ∈ BW ∨ ∃ host, Cond.methodLinkNest own i y host ∈ nestW
def InitRoom (μ μ' : Mt) : Prop := μ'.1.frames + 1 ≤ μ.1.frames ∧ 8 + (μ'.2.2.2.1 + 11) + μ'.1.locals ≤ μ.1.locals
theorem n_init {Γ : Cx} {μ μ' : Mt} {y : MethodName} {sp : YSp} {K : Option Value → Hp → Prop} {kn : Nat × Nat} {pc : Nat} {lv : Lv} {st : List Value} {σ : Hp} {i b : Nat} (hOk : OkI Γ y μ' sp) (hr : μ'.2.2.2.2.1 = none) (hc : Cond.code y μ'.2.2.1 μ'.2.2.2.1 none ∈ BW) (hl0 : LinkOK μ.2.1 i y) (h2 : Cond.instanceMethod y ∈ BW) (h4 : Cond.initialized y.cls ∈ BW) (hy : y.name = "<init>") (hN : NameOK y 0) (hR : InitRoom μ μ')
    (hd : decode μ.2.2.1 pc = .ok (.invokespecial i, 3)) (hcs : csum st ≤ 8) (k1 : kn.1 + μ'.1.cells ≤ μ.1.cells) (k2 : kn.2 + μ'.1.slots ≤ μ.1.slots)
    (h : sp [.ref b] σ (fun v σ' => v = none ∧ YN Γ μ K (kn.1 + μ'.1.cells, kn.2 + μ'.1.slots) (pc + 3) lv st σ')) : YN Γ μ K kn pc lv (.ref b :: st) σ := by
  intro p e s m args below meth c H locs ls F B S hl Nm
  have hM := hOk _ σ _ h
  have hg : GoodIn BW (wsm y μ') := wsm_good (by rw [hr]; exact hc)
  have hpre : PreS s H (va_Pc [.ref b] (BpI Γ σ)) (.ref b :: []) := ⟨pc_blindI, fun U hU hW => ⟨rfl, ⟨by rw [hU]; exact B, (by rw [hU]; exact (F.2.2.2.2.2.2.2.1.kept S.2.1).warm hW), fun q hq => F.2.2.2.2.2.2.2.2 q (Nat.le_trans S.1 (by rw [← hU]; exact hq))⟩, va_AO.moved hW.alike Nm.2.1, va_AO.moved hW.alike Nm.2.2⟩⟩
  have hws : wsm y μ' = Cond.code y μ'.2.2.1 μ'.2.2.2.1 none :: BW := by unfold wsm; rw [hr]
  rcases hl0 with hl1 | ⟨host, hl1⟩
  · refine va_calln (va_runI (As := []) (rest := st) (b := b) ⟨F.1, F.2.1, F.2.2.1, F.2.2.2.1, F.2.2.2.2.1⟩ hM (cwI 0 F.2.2.2.2.1 hg hws rfl rfl (F.2.2.2.2.1 _ h4) (F.2.2.2.2.1 _ hl1) (F.2.2.2.2.1 _ h2) hy hN hR) hpre rfl rfl hl.1 rfl (csum_room hcs) hd ⟨k1, k2⟩) S (fun v σ' H1 locs1 hk hB hS' => ?_)
    obtain ⟨rfl, hk⟩ := hk
    exact hk p e s m args below meth c H1 locs1 ls F hB hS' hl Nm
  · refine va_calln (va_runIN (As := []) (rest := st) (b := b) ⟨F.1, F.2.1, F.2.2.1, F.2.2.2.1, F.2.2.2.2.1⟩ hM ⟨va_cnB 0 F.2.2.2.2.1 hg hws rfl rfl (F.2.2.2.2.2.2.2.1.2.1 _ hl1) (F.2.2.2.2.1 _ h4) hN hR, hy, F.2.2.2.2.1 _ h2⟩ hpre rfl rfl hl.1 rfl (csum_room hcs) hd ⟨k1, k2⟩) S (fun v σ' H1 locs1 hk hB hS' => ?_)
    obtain ⟨rfl, hk⟩ := hk
    exact hk p e s m args below meth c H1 locs1 ls F hB hS' hl Nm

