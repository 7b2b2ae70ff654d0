section
-- ===== PART A: goes FIRST, ahead of the names: the tables' words, and 'selects' of the private methods out of them =====
/-- a private method of a class that the tables say can be made, by its rows of tables_1 -/
def lw_okq (q : MethodName × Nat) : Prop := (q.1.cls ≠ "java/lang/invoke/MethodHandle" ∧ q.1.cls ≠ "java/lang/invoke/VarHandle") ∧ Cond.instantiable q.1.cls q.2 ∈ tables_1 ∧ Cond.privateMethod q.1 ∈ tables_1 ∧ Cond.instanceMethod q.1 ∈ tables_1
theorem lw_p0 : lw_okq (⟨"YawnKeys$College", "curiosity", "(I)I"⟩, 9) := ⟨⟨by decide +kernel, by decide +kernel⟩, List.mem_of_getElem? (i := 26) (by decide +kernel), List.mem_of_getElem? (i := 255) (by decide +kernel), List.mem_of_getElem? (i := 256) (by decide +kernel)⟩
theorem lw_p1 : lw_okq (⟨"YawnKeys$College", "warmth", "()I"⟩, 9) := ⟨⟨by decide +kernel, by decide +kernel⟩, List.mem_of_getElem? (i := 26) (by decide +kernel), List.mem_of_getElem? (i := 266) (by decide +kernel), List.mem_of_getElem? (i := 267) (by decide +kernel)⟩
theorem lw_p2 : lw_okq (⟨"YawnKeys$Tape", "readRule", "(LYawnKeys$College;)Z"⟩, 3) := ⟨⟨by decide +kernel, by decide +kernel⟩, List.mem_of_getElem? (i := 111) (by decide +kernel), List.mem_of_getElem? (i := 290) (by decide +kernel), List.mem_of_getElem? (i := 291) (by decide +kernel)⟩
theorem lw_p3 : lw_okq (⟨"YawnKeys$Tape", "nextLetter", "()I"⟩, 3) := ⟨⟨by decide +kernel, by decide +kernel⟩, List.mem_of_getElem? (i := 111) (by decide +kernel), List.mem_of_getElem? (i := 294) (by decide +kernel), List.mem_of_getElem? (i := 295) (by decide +kernel)⟩
theorem lw_p4 : lw_okq (⟨"YawnKeys$Tape", "letterHere", "()I"⟩, 3) := ⟨⟨by decide +kernel, by decide +kernel⟩, List.mem_of_getElem? (i := 111) (by decide +kernel), List.mem_of_getElem? (i := 298) (by decide +kernel), List.mem_of_getElem? (i := 299) (by decide +kernel)⟩
theorem lw_p5 : lw_okq (⟨"YawnKeys$Tape", "readPeople", "(LYawnKeys$College;)Z"⟩, 3) := ⟨⟨by decide +kernel, by decide +kernel⟩, List.mem_of_getElem? (i := 111) (by decide +kernel), List.mem_of_getElem? (i := 306) (by decide +kernel), List.mem_of_getElem? (i := 307) (by decide +kernel)⟩
theorem lw_p6 : lw_okq (⟨"YawnKeys$Tape", "readPerson", "(LYawnKeys$College;)Z"⟩, 3) := ⟨⟨by decide +kernel, by decide +kernel⟩, List.mem_of_getElem? (i := 111) (by decide +kernel), List.mem_of_getElem? (i := 310) (by decide +kernel), List.mem_of_getElem? (i := 311) (by decide +kernel)⟩
theorem lw_p7 : lw_okq (⟨"YawnKeys$Tape", "readKeys", "(LYawnKeys$College;)Z"⟩, 3) := ⟨⟨by decide +kernel, by decide +kernel⟩, List.mem_of_getElem? (i := 111) (by decide +kernel), List.mem_of_getElem? (i := 403) (by decide +kernel), List.mem_of_getElem? (i := 404) (by decide +kernel)⟩
theorem lw_p8 : lw_okq (⟨"YawnKeys", "live", "(IZ)I"⟩, 9) := ⟨⟨by decide +kernel, by decide +kernel⟩, List.mem_of_getElem? (i := 18) (by decide +kernel), List.mem_of_getElem? (i := 448) (by decide +kernel), List.mem_of_getElem? (i := 449) (by decide +kernel)⟩
theorem lw_p9 : lw_okq (⟨"YawnKeys$Past", "loseOldest", "()V"⟩, 2) := ⟨⟨by decide +kernel, by decide +kernel⟩, List.mem_of_getElem? (i := 87) (by decide +kernel), List.mem_of_getElem? (i := 456) (by decide +kernel), List.mem_of_getElem? (i := 457) (by decide +kernel)⟩
theorem lw_p10 : lw_okq (⟨"YawnKeys$College", "testKeeper", "(I)V"⟩, 9) := ⟨⟨by decide +kernel, by decide +kernel⟩, List.mem_of_getElem? (i := 26) (by decide +kernel), List.mem_of_getElem? (i := 479) (by decide +kernel), List.mem_of_getElem? (i := 480) (by decide +kernel)⟩
theorem lw_p11 : lw_okq (⟨"YawnKeys", "foretell", "(I)V"⟩, 9) := ⟨⟨by decide +kernel, by decide +kernel⟩, List.mem_of_getElem? (i := 18) (by decide +kernel), List.mem_of_getElem? (i := 513) (by decide +kernel), List.mem_of_getElem? (i := 514) (by decide +kernel)⟩
theorem lw_p12 : lw_okq (⟨"YawnKeys$Plan", "isBetter", "(LYawnKeys$College;LYawnKeys$College;I)Z"⟩, 3) := ⟨⟨by decide +kernel, by decide +kernel⟩, List.mem_of_getElem? (i := 128) (by decide +kernel), List.mem_of_getElem? (i := 564) (by decide +kernel), List.mem_of_getElem? (i := 565) (by decide +kernel)⟩
theorem lw_p13 : lw_okq (⟨"YawnKeys", "suppose", "(IIII)V"⟩, 9) := ⟨⟨by decide +kernel, by decide +kernel⟩, List.mem_of_getElem? (i := 18) (by decide +kernel), List.mem_of_getElem? (i := 618) (by decide +kernel), List.mem_of_getElem? (i := 619) (by decide +kernel)⟩
theorem lw_p14 : lw_okq (⟨"YawnKeysModel", "isOne", "(I)Z"⟩, 26) := ⟨⟨by decide +kernel, by decide +kernel⟩, List.mem_of_getElem? (i := 664) (by decide +kernel), List.mem_of_getElem? (i := 766) (by decide +kernel), List.mem_of_getElem? (i := 767) (by decide +kernel)⟩
theorem lw_p15 : lw_okq (⟨"YawnKeysModel", "keySet", "(I)I"⟩, 26) := ⟨⟨by decide +kernel, by decide +kernel⟩, List.mem_of_getElem? (i := 664) (by decide +kernel), List.mem_of_getElem? (i := 779) (by decide +kernel), List.mem_of_getElem? (i := 780) (by decide +kernel)⟩
def lw_privs_1 : List (MethodName × Nat) := [(⟨"YawnKeys$College", "curiosity", "(I)I"⟩, 9), (⟨"YawnKeys$College", "warmth", "()I"⟩, 9), (⟨"YawnKeys$Tape", "readRule", "(LYawnKeys$College;)Z"⟩, 3), (⟨"YawnKeys$Tape", "nextLetter", "()I"⟩, 3), (⟨"YawnKeys$Tape", "letterHere", "()I"⟩, 3), (⟨"YawnKeys$Tape", "readPeople", "(LYawnKeys$College;)Z"⟩, 3), (⟨"YawnKeys$Tape", "readPerson", "(LYawnKeys$College;)Z"⟩, 3), (⟨"YawnKeys$Tape", "readKeys", "(LYawnKeys$College;)Z"⟩, 3), (⟨"YawnKeys", "live", "(IZ)I"⟩, 9), (⟨"YawnKeys$Past", "loseOldest", "()V"⟩, 2), (⟨"YawnKeys$College", "testKeeper", "(I)V"⟩, 9), (⟨"YawnKeys", "foretell", "(I)V"⟩, 9), (⟨"YawnKeys$Plan", "isBetter", "(LYawnKeys$College;LYawnKeys$College;I)Z"⟩, 3), (⟨"YawnKeys", "suppose", "(IIII)V"⟩, 9), (⟨"YawnKeysModel", "isOne", "(I)Z"⟩, 26), (⟨"YawnKeysModel", "keySet", "(I)I"⟩, 26)]
theorem lw_r1 : ∀ q ∈ lw_privs_1, lw_okq q := List.forall_mem_cons.mpr ⟨lw_p0, List.forall_mem_cons.mpr ⟨lw_p1, List.forall_mem_cons.mpr ⟨lw_p2, List.forall_mem_cons.mpr ⟨lw_p3, List.forall_mem_cons.mpr ⟨lw_p4, List.forall_mem_cons.mpr ⟨lw_p5, List.forall_mem_cons.mpr ⟨lw_p6, List.forall_mem_cons.mpr ⟨lw_p7, List.forall_mem_cons.mpr ⟨lw_p8, List.forall_mem_cons.mpr ⟨lw_p9, List.forall_mem_cons.mpr ⟨lw_p10, List.forall_mem_cons.mpr ⟨lw_p11, List.forall_mem_cons.mpr ⟨lw_p12, List.forall_mem_cons.mpr ⟨lw_p13, List.forall_mem_cons.mpr ⟨lw_p14, List.forall_mem_cons.mpr ⟨lw_p15, fun _ h => absurd h List.not_mem_nil⟩⟩⟩⟩⟩⟩⟩⟩⟩⟩⟩⟩⟩⟩⟩⟩
theorem lw_p16 : lw_okq (⟨"YawnKeysModel", "sumOf", "(I)I"⟩, 26) := ⟨⟨by decide +kernel, by decide +kernel⟩, List.mem_of_getElem? (i := 664) (by decide +kernel), List.mem_of_getElem? (i := 783) (by decide +kernel), List.mem_of_getElem? (i := 784) (by decide +kernel)⟩
theorem lw_p17 : lw_okq (⟨"YawnKeysModel", "aside", "()V"⟩, 26) := ⟨⟨by decide +kernel, by decide +kernel⟩, List.mem_of_getElem? (i := 664) (by decide +kernel), List.mem_of_getElem? (i := 791) (by decide +kernel), List.mem_of_getElem? (i := 792) (by decide +kernel)⟩
theorem lw_p18 : lw_okq (⟨"YawnKeysModel", "more", "(II)I"⟩, 26) := ⟨⟨by decide +kernel, by decide +kernel⟩, List.mem_of_getElem? (i := 664) (by decide +kernel), List.mem_of_getElem? (i := 795) (by decide +kernel), List.mem_of_getElem? (i := 796) (by decide +kernel)⟩
theorem lw_p19 : lw_okq (⟨"YawnKeysModel", "kindOf", "(I)I"⟩, 26) := ⟨⟨by decide +kernel, by decide +kernel⟩, List.mem_of_getElem? (i := 664) (by decide +kernel), List.mem_of_getElem? (i := 799) (by decide +kernel), List.mem_of_getElem? (i := 800) (by decide +kernel)⟩
theorem lw_p20 : lw_okq (⟨"YawnKeysModel", "keysOf", "(I)I"⟩, 26) := ⟨⟨by decide +kernel, by decide +kernel⟩, List.mem_of_getElem? (i := 664) (by decide +kernel), List.mem_of_getElem? (i := 803) (by decide +kernel), List.mem_of_getElem? (i := 804) (by decide +kernel)⟩
theorem lw_p21 : lw_okq (⟨"YawnKeysModel", "leastOf", "(I)I"⟩, 26) := ⟨⟨by decide +kernel, by decide +kernel⟩, List.mem_of_getElem? (i := 664) (by decide +kernel), List.mem_of_getElem? (i := 807) (by decide +kernel), List.mem_of_getElem? (i := 808) (by decide +kernel)⟩
theorem lw_p22 : lw_okq (⟨"YawnKeysModel", "isCollege", "()Z"⟩, 26) := ⟨⟨by decide +kernel, by decide +kernel⟩, List.mem_of_getElem? (i := 664) (by decide +kernel), List.mem_of_getElem? (i := 821) (by decide +kernel), List.mem_of_getElem? (i := 822) (by decide +kernel)⟩
theorem lw_p23 : lw_okq (⟨"YawnKeysModel", "number", "()Z"⟩, 26) := ⟨⟨by decide +kernel, by decide +kernel⟩, List.mem_of_getElem? (i := 664) (by decide +kernel), List.mem_of_getElem? (i := 825) (by decide +kernel), List.mem_of_getElem? (i := 826) (by decide +kernel)⟩
theorem lw_p24 : lw_okq (⟨"YawnKeysModel", "next", "()I"⟩, 26) := ⟨⟨by decide +kernel, by decide +kernel⟩, List.mem_of_getElem? (i := 664) (by decide +kernel), List.mem_of_getElem? (i := 829) (by decide +kernel), List.mem_of_getElem? (i := 830) (by decide +kernel)⟩
theorem lw_p25 : lw_okq (⟨"YawnKeysModel", "one", "()Z"⟩, 26) := ⟨⟨by decide +kernel, by decide +kernel⟩, List.mem_of_getElem? (i := 664) (by decide +kernel), List.mem_of_getElem? (i := 838) (by decide +kernel), List.mem_of_getElem? (i := 839) (by decide +kernel)⟩
theorem lw_p26 : lw_okq (⟨"YawnKeysModel", "keys", "()Z"⟩, 26) := ⟨⟨by decide +kernel, by decide +kernel⟩, List.mem_of_getElem? (i := 664) (by decide +kernel), List.mem_of_getElem? (i := 847) (by decide +kernel), List.mem_of_getElem? (i := 848) (by decide +kernel)⟩
theorem lw_p27 : lw_okq (⟨"YawnKeysModel", "nails", "()I"⟩, 26) := ⟨⟨by decide +kernel, by decide +kernel⟩, List.mem_of_getElem? (i := 664) (by decide +kernel), List.mem_of_getElem? (i := 855) (by decide +kernel), List.mem_of_getElem? (i := 856) (by decide +kernel)⟩
theorem lw_p28 : lw_okq (⟨"YawnKeysModel", "keepers", "()I"⟩, 26) := ⟨⟨by decide +kernel, by decide +kernel⟩, List.mem_of_getElem? (i := 664) (by decide +kernel), List.mem_of_getElem? (i := 859) (by decide +kernel), List.mem_of_getElem? (i := 860) (by decide +kernel)⟩
theorem lw_p29 : lw_okq (⟨"YawnKeysModel", "note", "()V"⟩, 26) := ⟨⟨by decide +kernel, by decide +kernel⟩, List.mem_of_getElem? (i := 664) (by decide +kernel), List.mem_of_getElem? (i := 868) (by decide +kernel), List.mem_of_getElem? (i := 869) (by decide +kernel)⟩
theorem lw_p30 : lw_okq (⟨"YawnKeysModel", "goDay", "()V"⟩, 26) := ⟨⟨by decide +kernel, by decide +kernel⟩, List.mem_of_getElem? (i := 664) (by decide +kernel), List.mem_of_getElem? (i := 872) (by decide +kernel), List.mem_of_getElem? (i := 873) (by decide +kernel)⟩
theorem lw_p31 : lw_okq (⟨"YawnKeysModel", "talkTo", "(III)V"⟩, 26) := ⟨⟨by decide +kernel, by decide +kernel⟩, List.mem_of_getElem? (i := 664) (by decide +kernel), List.mem_of_getElem? (i := 876) (by decide +kernel), List.mem_of_getElem? (i := 877) (by decide +kernel)⟩
def lw_privs_2 : List (MethodName × Nat) := [(⟨"YawnKeysModel", "sumOf", "(I)I"⟩, 26), (⟨"YawnKeysModel", "aside", "()V"⟩, 26), (⟨"YawnKeysModel", "more", "(II)I"⟩, 26), (⟨"YawnKeysModel", "kindOf", "(I)I"⟩, 26), (⟨"YawnKeysModel", "keysOf", "(I)I"⟩, 26), (⟨"YawnKeysModel", "leastOf", "(I)I"⟩, 26), (⟨"YawnKeysModel", "isCollege", "()Z"⟩, 26), (⟨"YawnKeysModel", "number", "()Z"⟩, 26), (⟨"YawnKeysModel", "next", "()I"⟩, 26), (⟨"YawnKeysModel", "one", "()Z"⟩, 26), (⟨"YawnKeysModel", "keys", "()Z"⟩, 26), (⟨"YawnKeysModel", "nails", "()I"⟩, 26), (⟨"YawnKeysModel", "keepers", "()I"⟩, 26), (⟨"YawnKeysModel", "note", "()V"⟩, 26), (⟨"YawnKeysModel", "goDay", "()V"⟩, 26), (⟨"YawnKeysModel", "talkTo", "(III)V"⟩, 26)]
theorem lw_r2 : ∀ q ∈ lw_privs_2, lw_okq q := List.forall_mem_cons.mpr ⟨lw_p16, List.forall_mem_cons.mpr ⟨lw_p17, List.forall_mem_cons.mpr ⟨lw_p18, List.forall_mem_cons.mpr ⟨lw_p19, List.forall_mem_cons.mpr ⟨lw_p20, List.forall_mem_cons.mpr ⟨lw_p21, List.forall_mem_cons.mpr ⟨lw_p22, List.forall_mem_cons.mpr ⟨lw_p23, List.forall_mem_cons.mpr ⟨lw_p24, List.forall_mem_cons.mpr ⟨lw_p25, List.forall_mem_cons.mpr ⟨lw_p26, List.forall_mem_cons.mpr ⟨lw_p27, List.forall_mem_cons.mpr ⟨lw_p28, List.forall_mem_cons.mpr ⟨lw_p29, List.forall_mem_cons.mpr ⟨lw_p30, List.forall_mem_cons.mpr ⟨lw_p31, fun _ h => absurd h List.not_mem_nil⟩⟩⟩⟩⟩⟩⟩⟩⟩⟩⟩⟩⟩⟩⟩⟩
theorem lw_p32 : lw_okq (⟨"YawnKeysModel", "goDoor", "(I)V"⟩, 26) := ⟨⟨by decide +kernel, by decide +kernel⟩, List.mem_of_getElem? (i := 664) (by decide +kernel), List.mem_of_getElem? (i := 880) (by decide +kernel), List.mem_of_getElem? (i := 881) (by decide +kernel)⟩
theorem lw_p33 : lw_okq (⟨"YawnKeysModel", "take", "()V"⟩, 26) := ⟨⟨by decide +kernel, by decide +kernel⟩, List.mem_of_getElem? (i := 664) (by decide +kernel), List.mem_of_getElem? (i := 884) (by decide +kernel), List.mem_of_getElem? (i := 885) (by decide +kernel)⟩
theorem lw_p34 : lw_okq (⟨"YawnKeysModel", "goDays", "(I)V"⟩, 26) := ⟨⟨by decide +kernel, by decide +kernel⟩, List.mem_of_getElem? (i := 664) (by decide +kernel), List.mem_of_getElem? (i := 917) (by decide +kernel), List.mem_of_getElem? (i := 918) (by decide +kernel)⟩
theorem lw_p35 : lw_okq (⟨"YawnKeysModel", "lacks", "(IIII)I"⟩, 26) := ⟨⟨by decide +kernel, by decide +kernel⟩, List.mem_of_getElem? (i := 664) (by decide +kernel), List.mem_of_getElem? (i := 979) (by decide +kernel), List.mem_of_getElem? (i := 980) (by decide +kernel)⟩
theorem lw_p36 : lw_okq (⟨"YawnKeysModel", "isSpan", "(III)Z"⟩, 26) := ⟨⟨by decide +kernel, by decide +kernel⟩, List.mem_of_getElem? (i := 664) (by decide +kernel), List.mem_of_getElem? (i := 983) (by decide +kernel), List.mem_of_getElem? (i := 984) (by decide +kernel)⟩
theorem lw_p37 : lw_okq (⟨"YawnKeysModel", "toldKinds", "(IIIII)I"⟩, 26) := ⟨⟨by decide +kernel, by decide +kernel⟩, List.mem_of_getElem? (i := 664) (by decide +kernel), List.mem_of_getElem? (i := 987) (by decide +kernel), List.mem_of_getElem? (i := 988) (by decide +kernel)⟩
theorem lw_p38 : lw_okq (⟨"YawnKeysModel", "isTold", "(IIIII)Z"⟩, 26) := ⟨⟨by decide +kernel, by decide +kernel⟩, List.mem_of_getElem? (i := 664) (by decide +kernel), List.mem_of_getElem? (i := 991) (by decide +kernel), List.mem_of_getElem? (i := 992) (by decide +kernel)⟩
theorem lw_p39 : lw_okq (⟨"YawnKeysModel", "toldWants", "(IIIII)I"⟩, 26) := ⟨⟨by decide +kernel, by decide +kernel⟩, List.mem_of_getElem? (i := 664) (by decide +kernel), List.mem_of_getElem? (i := 995) (by decide +kernel), List.mem_of_getElem? (i := 996) (by decide +kernel)⟩
theorem lw_p40 : lw_okq (⟨"YawnKeysModel", "toldRules", "(IIIII)I"⟩, 26) := ⟨⟨by decide +kernel, by decide +kernel⟩, List.mem_of_getElem? (i := 664) (by decide +kernel), List.mem_of_getElem? (i := 999) (by decide +kernel), List.mem_of_getElem? (i := 1000) (by decide +kernel)⟩
def lw_privs_3 : List (MethodName × Nat) := [(⟨"YawnKeysModel", "goDoor", "(I)V"⟩, 26), (⟨"YawnKeysModel", "take", "()V"⟩, 26), (⟨"YawnKeysModel", "goDays", "(I)V"⟩, 26), (⟨"YawnKeysModel", "lacks", "(IIII)I"⟩, 26), (⟨"YawnKeysModel", "isSpan", "(III)Z"⟩, 26), (⟨"YawnKeysModel", "toldKinds", "(IIIII)I"⟩, 26), (⟨"YawnKeysModel", "isTold", "(IIIII)Z"⟩, 26), (⟨"YawnKeysModel", "toldWants", "(IIIII)I"⟩, 26), (⟨"YawnKeysModel", "toldRules", "(IIIII)I"⟩, 26)]
theorem lw_r3 : ∀ q ∈ lw_privs_3, lw_okq q := List.forall_mem_cons.mpr ⟨lw_p32, List.forall_mem_cons.mpr ⟨lw_p33, List.forall_mem_cons.mpr ⟨lw_p34, List.forall_mem_cons.mpr ⟨lw_p35, List.forall_mem_cons.mpr ⟨lw_p36, List.forall_mem_cons.mpr ⟨lw_p37, List.forall_mem_cons.mpr ⟨lw_p38, List.forall_mem_cons.mpr ⟨lw_p39, List.forall_mem_cons.mpr ⟨lw_p40, fun _ h => absurd h List.not_mem_nil⟩⟩⟩⟩⟩⟩⟩⟩⟩
def lw_privs : List (MethodName × Nat) := lw_privs_1 ++ (lw_privs_2 ++ (lw_privs_3))
def lw_tbl : List Cond := k2_sels lw_privs ++ tables_1
theorem lw_privs_ok : ∀ q ∈ lw_privs, lw_okq q := by
  show ∀ q ∈ lw_privs_1 ++ (lw_privs_2 ++ (lw_privs_3)), lw_okq q
  exact List.forall_mem_append.mpr ⟨lw_r1, List.forall_mem_append.mpr ⟨lw_r2, lw_r3⟩⟩
end
section
/-! ===== BEGIN words of one list among another's, by their places ===== -/
theorem goodIn_r {big : List Cond} (ws : List Cond) (ps : List Nat) (hp : ws = ps.filterMap (fun i => big[i]?)) (h : ws.all goodWord = true) : GoodIn big ws := by
  intro w hw
  have h1 := List.all_eq_true.mp h w hw
  rw [hp] at hw
  obtain ⟨i, -, hi⟩ := List.mem_filterMap.mp hw
  have hm : w ∈ big := by first | exact List.mem_of_getElem? hi | exact List.getElem?_mem hi
  exact ⟨hm, good_of_word h1⟩
theorem goodIn_app {big a b : List Cond} (ha : GoodIn big a) (hb : GoodIn big b) : GoodIn big (a ++ b) := fun w h => (List.mem_append.mp h).elim (ha w) (hb w)
theorem goodIn_ca {big a b : List Cond} {c : Cond} (ha : GoodIn big (c :: a)) (hb : GoodIn big b) : GoodIn big (c :: (a ++ b)) := fun w h => (List.mem_cons.mp h).elim (fun e => ha w (List.mem_cons.mpr (Or.inl e))) (fun h => (List.mem_append.mp h).elim (fun h => ha w (List.mem_cons.mpr (Or.inr h))) (hb w))
theorem goodIn_sub {big ws : List Cond} (hm : ∀ w ∈ ws, w ∈ big) (h : ws.all goodWord = true) : GoodIn big ws := fun w hw => ⟨hm w hw, good_of_word (List.all_eq_true.mp h w hw)⟩
/-! ===== END ===== -/
def RX0 : String := "YawnKeys$College"
def TX0 : u_T := fun k => match k with
  | 0 => ("YawnKeys$Moment", "wants", "[I", true)
  | 1 => ("YawnKeys$Moment", "keepers", "[I", true)
  | 2 => ("YawnKeys$Moment", "day", "I", false)
  | 3 => ("YawnKeys$Moment", "gone", "I", false)
  | 4 => ("YawnKeys$Moment", "draw", "I", false)
  | 5 => ("YawnKeys$College", "kinds", "[I", true)
  | 6 => ("YawnKeys$College", "people", "I", false)
  | 7 => ("YawnKeys$College", "rule", "I", false)
  | _ => ("YawnKeys$College", "goneDoors", "I", false)
def tyX0 : Nat → FieldType := fun k => match k with
  | 0 => .array .int
  | 1 => .array .int
  | 2 => .int
  | 3 => .int
  | 4 => .int
  | 5 => .array .int
  | 6 => .int
  | 7 => .int
  | _ => .int
abbrev wsX00 : List Cond := u_ws RX0 TX0 9
theorem nmX0 : ∀ a, a < 9 → ∀ b, b < 9 → a ≠ b → (TX0 a).2.1 ≠ (TX0 b).2.1 := by decide +kernel
theorem tyX0_ok : ∀ k, k < 9 → parseFieldDescriptor (TX0 k).2.2.1 = some (tyX0 k) := by decide +kernel
abbrev cX0_init : ByteArray := prog_2_method_1_code
def yX0_init : MethodName := ⟨RX0, "<init>", "()V"⟩
abbrev cX0_become : ByteArray := prog_2_method_2_code
def yX0_become : MethodName := ⟨RX0, "become", "(LYawnKeys$College;)V"⟩
abbrev cX0_has : ByteArray := prog_2_method_3_code
def yX0_has : MethodName := ⟨RX0, "has", "(I)Z"⟩
abbrev cX0_join : ByteArray := prog_2_method_4_code
def yX0_join : MethodName := ⟨RX0, "join", "(II)I"⟩
abbrev cX0_wantOf : ByteArray := prog_2_method_5_code
def yX0_wantOf : MethodName := ⟨RX0, "wantOf", "(II)I"⟩
abbrev cX0_setWant : ByteArray := prog_2_method_6_code
def yX0_setWant : MethodName := ⟨RX0, "setWant", "(III)V"⟩
abbrev cX0_wantMore : ByteArray := prog_2_method_7_code
def yX0_wantMore : MethodName := ⟨RX0, "wantMore", "(III)V"⟩
abbrev cX0_wantsOf : ByteArray := prog_2_method_8_code
def yX0_wantsOf : MethodName := ⟨RX0, "wantsOf", "(I)I"⟩
abbrev cX0_wantsOfAll : ByteArray := prog_2_method_9_code
def yX0_wantsOfAll : MethodName := ⟨RX0, "wantsOfAll", "()I"⟩
abbrev cX0_keysOf : ByteArray := prog_2_method_10_code
def yX0_keysOf : MethodName := ⟨RX0, "keysOf", "(I)I"⟩
abbrev cX0_nails : ByteArray := prog_2_method_11_code
def yX0_nails : MethodName := ⟨RX0, "nails", "()I"⟩
abbrev cX0_keeperAsSet : ByteArray := prog_2_method_12_code
def yX0_keeperAsSet : MethodName := ⟨RX0, "keeperAsSet", "(I)I"⟩
abbrev cX0_keepersOfAny : ByteArray := prog_2_method_13_code
def yX0_keepersOfAny : MethodName := ⟨RX0, "keepersOfAny", "()I"⟩
abbrev cX0_least : ByteArray := prog_2_method_14_code
def yX0_least : MethodName := ⟨RX0, "least", "(I)I"⟩
abbrev cX0_growth : ByteArray := prog_2_method_15_code
def yX0_growth : MethodName := ⟨RX0, "growth", "(I)I"⟩
abbrev cX0_curiosity : ByteArray := prog_2_method_16_code
def yX0_curiosity : MethodName := ⟨RX0, "curiosity", "(I)I"⟩
abbrev cX0_warmth : ByteArray := prog_2_method_17_code
def yX0_warmth : MethodName := ⟨RX0, "warmth", "()I"⟩
abbrev cX0_passDays : ByteArray := prog_2_method_18_code
def yX0_passDays : MethodName := ⟨RX0, "passDays", "(I)V"⟩
abbrev cX0_passDay : ByteArray := prog_2_method_19_code
def yX0_passDay : MethodName := ⟨RX0, "passDay", "()V"⟩
abbrev cX0_testKeeper : ByteArray := prog_2_method_20_code
def yX0_testKeeper : MethodName := ⟨RX0, "testKeeper", "(I)V"⟩
abbrev cX0_wasGone : ByteArray := prog_2_method_21_code
def yX0_wasGone : MethodName := ⟨RX0, "wasGone", "(I)Z"⟩
abbrev cX0_firstGone : ByteArray := prog_2_method_22_code
def yX0_firstGone : MethodName := ⟨RX0, "firstGone", "(II)I"⟩
abbrev cX0_drawTalk : ByteArray := prog_2_method_23_code
def yX0_drawTalk : MethodName := ⟨RX0, "drawTalk", "()V"⟩
def RX1 : String := "YawnKeys$Moment"
def TX1 : u_T := fun k => match k with
  | 0 => ("YawnKeys$Moment", "wants", "[I", true)
  | 1 => ("YawnKeys$Moment", "keepers", "[I", true)
  | 2 => ("YawnKeys$Moment", "day", "I", false)
  | 3 => ("YawnKeys$Moment", "gone", "I", false)
  | _ => ("YawnKeys$Moment", "draw", "I", false)
def tyX1 : Nat → FieldType := fun k => match k with
  | 0 => .array .int
  | 1 => .array .int
  | 2 => .int
  | 3 => .int
  | _ => .int
abbrev wsX10 : List Cond := u_ws RX1 TX1 5
theorem nmX1 : ∀ a, a < 5 → ∀ b, b < 5 → a ≠ b → (TX1 a).2.1 ≠ (TX1 b).2.1 := by decide +kernel
theorem tyX1_ok : ∀ k, k < 5 → parseFieldDescriptor (TX1 k).2.2.1 = some (tyX1 k) := by decide +kernel
abbrev cX1_init : ByteArray := prog_3_method_1_code
def yX1_init : MethodName := ⟨RX1, "<init>", "()V"⟩
abbrev cX1_recall : ByteArray := prog_3_method_2_code
def yX1_recall : MethodName := ⟨RX1, "recall", "(LYawnKeys$Moment;)V"⟩
def RX2 : String := "YawnKeys$Past"
def TX2 : u_T := fun k => match k with
  | 0 => ("YawnKeys$Past", "moments", "[LYawnKeys$Moment;", true)
  | _ => ("YawnKeys$Past", "known", "I", false)
def tyX2 : Nat → FieldType := fun k => match k with
  | 0 => .array (.object "YawnKeys$Moment")
  | _ => .int
abbrev wsX20 : List Cond := u_ws RX2 TX2 2
theorem nmX2 : ∀ a, a < 2 → ∀ b, b < 2 → a ≠ b → (TX2 a).2.1 ≠ (TX2 b).2.1 := by decide +kernel
theorem tyX2_ok : ∀ k, k < 2 → parseFieldDescriptor (TX2 k).2.2.1 = some (tyX2 k) := by decide +kernel
abbrev cX2_init : ByteArray := prog_4_method_1_code
def yX2_init : MethodName := ⟨RX2, "<init>", "()V"⟩
abbrev cX2_remember : ByteArray := prog_4_method_2_code
def yX2_remember : MethodName := ⟨RX2, "remember", "(LYawnKeys$Moment;)V"⟩
abbrev cX2_loseOldest : ByteArray := prog_4_method_3_code
def yX2_loseOldest : MethodName := ⟨RX2, "loseOldest", "()V"⟩
abbrev cX2_recall : ByteArray := prog_4_method_4_code
def yX2_recall : MethodName := ⟨RX2, "recall", "(LYawnKeys$Moment;)V"⟩
abbrev cX2_forget : ByteArray := prog_4_method_5_code
def yX2_forget : MethodName := ⟨RX2, "forget", "()V"⟩
abbrev cX2_become : ByteArray := prog_4_method_6_code
def yX2_become : MethodName := ⟨RX2, "become", "(LYawnKeys$Past;)V"⟩
def RX3 : String := "YawnKeys$Plan"
def TX3 : u_T := fun k => match k with
  | 0 => ("YawnKeys$Plan", "keepers", "[I", true)
  | 1 => ("YawnKeys$Plan", "gone", "I", false)
  | _ => ("YawnKeys$Plan", "given", "I", false)
def tyX3 : Nat → FieldType := fun k => match k with
  | 0 => .array .int
  | 1 => .int
  | _ => .int
abbrev wsX30 : List Cond := u_ws RX3 TX3 3
theorem nmX3 : ∀ a, a < 3 → ∀ b, b < 3 → a ≠ b → (TX3 a).2.1 ≠ (TX3 b).2.1 := by decide +kernel
theorem tyX3_ok : ∀ k, k < 3 → parseFieldDescriptor (TX3 k).2.2.1 = some (tyX3 k) := by decide +kernel
abbrev cX3_init : ByteArray := prog_5_method_1_code
def yX3_init : MethodName := ⟨RX3, "<init>", "()V"⟩
abbrev cX3_seek : ByteArray := prog_5_method_2_code
def yX3_seek : MethodName := ⟨RX3, "seek", "(LYawnKeys$College;LYawnKeys$College;I)V"⟩
abbrev cX3_spell : ByteArray := prog_5_method_3_code
def yX3_spell : MethodName := ⟨RX3, "spell", "(II[I)V"⟩
abbrev cX3_isBetter : ByteArray := prog_5_method_4_code
def yX3_isBetter : MethodName := ⟨RX3, "isBetter", "(LYawnKeys$College;LYawnKeys$College;I)Z"⟩
def RX4 : String := "YawnKeys$Sheet"
def TX4 : u_T := fun k => match k with
  | 0 => ("YawnKeys$Sheet", "items", "[J", true)
  | 1 => ("YawnKeys$Sheet", "lane", "I", false)
  | _ => ("YawnKeys$Sheet", "size", "I", false)
def tyX4 : Nat → FieldType := fun k => match k with
  | 0 => .array .long
  | 1 => .int
  | _ => .int
abbrev wsX40 : List Cond := u_ws RX4 TX4 3
theorem nmX4 : ∀ a, a < 3 → ∀ b, b < 3 → a ≠ b → (TX4 a).2.1 ≠ (TX4 b).2.1 := by decide +kernel
theorem tyX4_ok : ∀ k, k < 3 → parseFieldDescriptor (TX4 k).2.2.1 = some (tyX4 k) := by decide +kernel
abbrev cX4_init : ByteArray := prog_6_method_1_code
def yX4_init : MethodName := ⟨RX4, "<init>", "()V"⟩
abbrev cX4_isMissing : ByteArray := prog_6_method_2_code
def yX4_isMissing : MethodName := ⟨RX4, "isMissing", "()Z"⟩
abbrev cX4_renew : ByteArray := prog_6_method_3_code
def yX4_renew : MethodName := ⟨RX4, "renew", "(II)V"⟩
abbrev cX4_empty : ByteArray := prog_6_method_4_code
def yX4_empty : MethodName := ⟨RX4, "empty", "()I"⟩
abbrev cX4_spans : ByteArray := prog_6_method_5_code
def yX4_spans : MethodName := ⟨RX4, "spans", "(II)Z"⟩
abbrev cX4_refusal : ByteArray := prog_6_method_6_code
def yX4_refusal : MethodName := ⟨RX4, "refusal", "(III)I"⟩
abbrev cX4_put : ByteArray := prog_6_method_7_code
def yX4_put : MethodName := ⟨RX4, "put", "(IJ)V"⟩
abbrev cX4_tells : ByteArray := prog_6_method_8_code
def yX4_tells : MethodName := ⟨RX4, "tells", "(LYawnKeys$College;IIII)Z"⟩
def RX5 : String := "YawnKeys$Tape"
def TX5 : u_T := fun k => match k with
  | 0 => ("YawnKeys$Tape", "letters", "[I", true)
  | 1 => ("YawnKeys$Tape", "length", "I", false)
  | _ => ("YawnKeys$Tape", "place", "I", false)
def tyX5 : Nat → FieldType := fun k => match k with
  | 0 => .array .int
  | 1 => .int
  | _ => .int
abbrev wsX50 : List Cond := u_ws RX5 TX5 3
theorem nmX5 : ∀ a, a < 3 → ∀ b, b < 3 → a ≠ b → (TX5 a).2.1 ≠ (TX5 b).2.1 := by decide +kernel
theorem tyX5_ok : ∀ k, k < 3 → parseFieldDescriptor (TX5 k).2.2.1 = some (tyX5 k) := by decide +kernel
abbrev cX5_init : ByteArray := prog_7_method_1_code
def yX5_init : MethodName := ⟨RX5, "<init>", "()V"⟩
abbrev cX5_append : ByteArray := prog_7_method_2_code
def yX5_append : MethodName := ⟨RX5, "append", "(I)I"⟩
abbrev cX5_read : ByteArray := prog_7_method_3_code
def yX5_read : MethodName := ⟨RX5, "read", "(LYawnKeys$College;)I"⟩
abbrev cX5_nextLetter : ByteArray := prog_7_method_4_code
def yX5_nextLetter : MethodName := ⟨RX5, "nextLetter", "()I"⟩
abbrev cX5_letterHere : ByteArray := prog_7_method_5_code
def yX5_letterHere : MethodName := ⟨RX5, "letterHere", "()I"⟩
abbrev cX5_isDigit : ByteArray := prog_7_method_6_code
def yX5_isDigit : MethodName := ⟨RX5, "isDigit", "(I)Z"⟩
abbrev cX5_readRule : ByteArray := prog_7_method_7_code
def yX5_readRule : MethodName := ⟨RX5, "readRule", "(LYawnKeys$College;)Z"⟩
abbrev cX5_readPeople : ByteArray := prog_7_method_8_code
def yX5_readPeople : MethodName := ⟨RX5, "readPeople", "(LYawnKeys$College;)Z"⟩
abbrev cX5_readPerson : ByteArray := prog_7_method_9_code
def yX5_readPerson : MethodName := ⟨RX5, "readPerson", "(LYawnKeys$College;)Z"⟩
abbrev cX5_readKeys : ByteArray := prog_7_method_10_code
def yX5_readKeys : MethodName := ⟨RX5, "readKeys", "(LYawnKeys$College;)Z"⟩
def RX6 : String := "YawnKeys"
def TX6 : u_T := fun k => match k with
  | 0 => ("YawnKeys", "now", "LYawnKeys$College;", true)
  | 1 => ("YawnKeys", "trial", "LYawnKeys$College;", true)
  | 2 => ("YawnKeys", "past", "LYawnKeys$Past;", true)
  | 3 => ("YawnKeys", "imaged", "LYawnKeys$College;", true)
  | 4 => ("YawnKeys", "imagedPast", "LYawnKeys$Past;", true)
  | 5 => ("YawnKeys", "hasImage", "Z", false)
  | 6 => ("YawnKeys", "tape", "LYawnKeys$Tape;", true)
  | 7 => ("YawnKeys", "plan", "LYawnKeys$Plan;", true)
  | _ => ("YawnKeys", "sheets", "[LYawnKeys$Sheet;", true)
def tyX6 : Nat → FieldType := fun k => match k with
  | 0 => .object "YawnKeys$College"
  | 1 => .object "YawnKeys$College"
  | 2 => .object "YawnKeys$Past"
  | 3 => .object "YawnKeys$College"
  | 4 => .object "YawnKeys$Past"
  | 5 => .boolean
  | 6 => .object "YawnKeys$Tape"
  | 7 => .object "YawnKeys$Plan"
  | _ => .array (.object "YawnKeys$Sheet")
abbrev wsX60 : List Cond := u_ws RX6 TX6 9
theorem nmX6 : ∀ a, a < 9 → ∀ b, b < 9 → a ≠ b → (TX6 a).2.1 ≠ (TX6 b).2.1 := by decide +kernel
theorem tyX6_ok : ∀ k, k < 9 → parseFieldDescriptor (TX6 k).2.2.1 = some (tyX6 k) := by decide +kernel
abbrev cX6_init : ByteArray := prog_1_method_1_code
def yX6_init : MethodName := ⟨RX6, "<init>", "()V"⟩
abbrev cX6_person : ByteArray := prog_1_method_2_code
def yX6_person : MethodName := ⟨RX6, "person", "(II)I"⟩
abbrev cX6_rule : ByteArray := prog_1_method_3_code
def yX6_rule : MethodName := ⟨RX6, "rule", "(I)I"⟩
abbrev cX6_wants : ByteArray := prog_1_method_4_code
def yX6_wants : MethodName := ⟨RX6, "wants", "(II)I"⟩
abbrev cX6_of : ByteArray := prog_1_method_5_code
def yX6_of : MethodName := ⟨RX6, "of", "(II)I"⟩
abbrev cX6_at : ByteArray := prog_1_method_6_code
def yX6_at : MethodName := ⟨RX6, "at", "(II)I"⟩
abbrev cX6_type : ByteArray := prog_1_method_7_code
def yX6_type : MethodName := ⟨RX6, "type", "(I)I"⟩
abbrev cX6_college : ByteArray := prog_1_method_8_code
def yX6_college : MethodName := ⟨RX6, "college", "()I"⟩
abbrev cX6_count : ByteArray := prog_1_method_9_code
def yX6_count : MethodName := ⟨RX6, "count", "(I)I"⟩
abbrev cX6_days : ByteArray := prog_1_method_10_code
def yX6_days : MethodName := ⟨RX6, "days", "(I)I"⟩
abbrev cX6_talk : ByteArray := prog_1_method_11_code
def yX6_talk : MethodName := ⟨RX6, "talk", "(III)I"⟩
abbrev cX6_give : ByteArray := prog_1_method_12_code
def yX6_give : MethodName := ⟨RX6, "give", "(II)I"⟩
abbrev cX6_drift : ByteArray := prog_1_method_13_code
def yX6_drift : MethodName := ⟨RX6, "drift", "(I)I"⟩
abbrev cX6_undo : ByteArray := prog_1_method_14_code
def yX6_undo : MethodName := ⟨RX6, "undo", "()I"⟩
abbrev cX6_seed : ByteArray := prog_1_method_15_code
def yX6_seed : MethodName := ⟨RX6, "seed", "(I)I"⟩
abbrev cX6_keeper : ByteArray := prog_1_method_16_code
def yX6_keeper : MethodName := ⟨RX6, "keeper", "(II)I"⟩
abbrev cX6_ahead : ByteArray := prog_1_method_17_code
def yX6_ahead : MethodName := ⟨RX6, "ahead", "(III)I"⟩
abbrev cX6_then : ByteArray := prog_1_method_18_code
def yX6_then : MethodName := ⟨RX6, "then", "(I)I"⟩
abbrev cX6_in : ByteArray := prog_1_method_19_code
def yX6_in : MethodName := ⟨RX6, "in", "(I)I"⟩
abbrev cX6_holds : ByteArray := prog_1_method_20_code
def yX6_holds : MethodName := ⟨RX6, "holds", "(I)I"⟩
abbrev cX6_had : ByteArray := prog_1_method_21_code
def yX6_had : MethodName := ⟨RX6, "had", "(II)I"⟩
abbrev cX6_keep : ByteArray := prog_1_method_22_code
def yX6_keep : MethodName := ⟨RX6, "keep", "(II)I"⟩
abbrev cX6_tempt : ByteArray := prog_1_method_23_code
def yX6_tempt : MethodName := ⟨RX6, "tempt", "(II)I"⟩
abbrev cX6_strict : ByteArray := prog_1_method_24_code
def yX6_strict : MethodName := ⟨RX6, "strict", "(I)I"⟩
abbrev cX6_yawn : ByteArray := prog_1_method_25_code
def yX6_yawn : MethodName := ⟨RX6, "yawn", "(III)I"⟩
abbrev cX6_image : ByteArray := prog_1_method_26_code
def yX6_image : MethodName := ⟨RX6, "image", "()I"⟩
abbrev cX6_restore : ByteArray := prog_1_method_27_code
def yX6_restore : MethodName := ⟨RX6, "restore", "()I"⟩
abbrev cX6_told : ByteArray := prog_1_method_28_code
def yX6_told : MethodName := ⟨RX6, "told", "(IIIIIII)I"⟩
abbrev cX6_film : ByteArray := prog_1_method_29_code
def yX6_film : MethodName := ⟨RX6, "film", "(IIIIII)I"⟩
abbrev cX6_sheet : ByteArray := prog_1_method_30_code
def yX6_sheet : MethodName := ⟨RX6, "sheet", "(III)I"⟩
abbrev cX6_drop : ByteArray := prog_1_method_31_code
def yX6_drop : MethodName := ⟨RX6, "drop", "(I)I"⟩
abbrev cX6_item : ByteArray := prog_1_method_32_code
def yX6_item : MethodName := ⟨RX6, "item", "(IIIJ)I"⟩
abbrev cX6_copy : ByteArray := prog_1_method_33_code
def yX6_copy : MethodName := ⟨RX6, "copy", "(IIIII)I"⟩
abbrev cX6_within : ByteArray := prog_1_method_34_code
def yX6_within : MethodName := ⟨RX6, "within", "(III)Z"⟩
abbrev cX6_isDoor : ByteArray := prog_1_method_35_code
def yX6_isDoor : MethodName := ⟨RX6, "isDoor", "(I)Z"⟩
abbrev cX6_isSheet : ByteArray := prog_1_method_36_code
def yX6_isSheet : MethodName := ⟨RX6, "isSheet", "(I)Z"⟩
abbrev cX6_isLane : ByteArray := prog_1_method_37_code
def yX6_isLane : MethodName := ⟨RX6, "isLane", "(I)Z"⟩
abbrev cX6_live : ByteArray := prog_1_method_38_code
def yX6_live : MethodName := ⟨RX6, "live", "(IZ)I"⟩
abbrev cX6_foretell : ByteArray := prog_1_method_39_code
def yX6_foretell : MethodName := ⟨RX6, "foretell", "(I)V"⟩
abbrev cX6_suppose : ByteArray := prog_1_method_40_code
def yX6_suppose : MethodName := ⟨RX6, "suppose", "(IIII)V"⟩
abbrev cX6_commonDivisor : ByteArray := prog_1_method_41_code
def yX6_commonDivisor : MethodName := ⟨RX6, "commonDivisor", "(II)I"⟩
def RX7 : String := "YawnKeysModel"
def TX7 : u_T := fun k => match k with
  | 0 => ("YawnKeysModel", "people", "I", false)
  | 1 => ("YawnKeysModel", "rule", "I", false)
  | 2 => ("YawnKeysModel", "kinds", "[I", true)
  | 3 => ("YawnKeysModel", "now", "[I", true)
  | 4 => ("YawnKeysModel", "side", "[I", true)
  | 5 => ("YawnKeysModel", "before", "[I", true)
  | 6 => ("YawnKeysModel", "undoMany", "I", false)
  | 7 => ("YawnKeysModel", "hasImage", "Z", false)
  | 8 => ("YawnKeysModel", "imageOf", "[I", true)
  | 9 => ("YawnKeysModel", "imageRow", "[I", true)
  | 10 => ("YawnKeysModel", "imageBefore", "[I", true)
  | 11 => ("YawnKeysModel", "items", "[J", true)
  | 12 => ("YawnKeysModel", "lanes", "[I", true)
  | 13 => ("YawnKeysModel", "sizes", "[I", true)
  | 14 => ("YawnKeysModel", "length", "I", false)
  | 15 => ("YawnKeysModel", "tape", "[I", true)
  | 16 => ("YawnKeysModel", "otherOne", "I", false)
  | 17 => ("YawnKeysModel", "otherKind", "I", false)
  | 18 => ("YawnKeysModel", "mores", "[I", true)
  | 19 => ("YawnKeysModel", "goneNow", "I", false)
  | 20 => ("YawnKeysModel", "spot", "I", false)
  | 21 => ("YawnKeysModel", "begins", "I", false)
  | 22 => ("YawnKeysModel", "readRule", "I", false)
  | 23 => ("YawnKeysModel", "readPeople", "I", false)
  | 24 => ("YawnKeysModel", "readKinds", "[I", true)
  | _ => ("YawnKeysModel", "readRow", "[I", true)
def tyX7 : Nat → FieldType := fun k => match k with
  | 0 => .int
  | 1 => .int
  | 2 => .array .int
  | 3 => .array .int
  | 4 => .array .int
  | 5 => .array .int
  | 6 => .int
  | 7 => .boolean
  | 8 => .array .int
  | 9 => .array .int
  | 10 => .array .int
  | 11 => .array .long
  | 12 => .array .int
  | 13 => .array .int
  | 14 => .int
  | 15 => .array .int
  | 16 => .int
  | 17 => .int
  | 18 => .array .int
  | 19 => .int
  | 20 => .int
  | 21 => .int
  | 22 => .int
  | 23 => .int
  | 24 => .array .int
  | _ => .array .int
abbrev wsX70 : List Cond := u_ws RX7 TX7 26
theorem nmX7 : ∀ a, a < 26 → ∀ b, b < 26 → a ≠ b → (TX7 a).2.1 ≠ (TX7 b).2.1 := by decide +kernel
theorem tyX7_ok : ∀ k, k < 26 → parseFieldDescriptor (TX7 k).2.2.1 = some (tyX7 k) := by decide +kernel
abbrev cX7_init : ByteArray := prog_9_method_1_code
def yX7_init : MethodName := ⟨RX7, "<init>", "()V"⟩
abbrev cX7_lies : ByteArray := prog_9_method_2_code
def yX7_lies : MethodName := ⟨RX7, "lies", "(JJJ)Z"⟩
abbrev cX7_isOne : ByteArray := prog_9_method_3_code
def yX7_isOne : MethodName := ⟨RX7, "isOne", "(I)Z"⟩
abbrev cX7_isDoor : ByteArray := prog_9_method_4_code
def yX7_isDoor : MethodName := ⟨RX7, "isDoor", "(I)Z"⟩
abbrev cX7_aside : ByteArray := prog_9_method_5_code
def yX7_aside : MethodName := ⟨RX7, "aside", "()V"⟩
abbrev cX7_take : ByteArray := prog_9_method_6_code
def yX7_take : MethodName := ⟨RX7, "take", "()V"⟩
abbrev cX7_kindOf : ByteArray := prog_9_method_7_code
def yX7_kindOf : MethodName := ⟨RX7, "kindOf", "(I)I"⟩
abbrev cX7_keysOf : ByteArray := prog_9_method_8_code
def yX7_keysOf : MethodName := ⟨RX7, "keysOf", "(I)I"⟩
abbrev cX7_more : ByteArray := prog_9_method_9_code
def yX7_more : MethodName := ⟨RX7, "more", "(II)I"⟩
abbrev cX7_leastOf : ByteArray := prog_9_method_10_code
def yX7_leastOf : MethodName := ⟨RX7, "leastOf", "(I)I"⟩
abbrev cX7_goDoor : ByteArray := prog_9_method_11_code
def yX7_goDoor : MethodName := ⟨RX7, "goDoor", "(I)V"⟩
abbrev cX7_goDay : ByteArray := prog_9_method_12_code
def yX7_goDay : MethodName := ⟨RX7, "goDay", "()V"⟩
abbrev cX7_talkTo : ByteArray := prog_9_method_13_code
def yX7_talkTo : MethodName := ⟨RX7, "talkTo", "(III)V"⟩
abbrev cX7_goDays : ByteArray := prog_9_method_14_code
def yX7_goDays : MethodName := ⟨RX7, "goDays", "(I)V"⟩
abbrev cX7_person : ByteArray := prog_9_method_15_code
def yX7_person : MethodName := ⟨RX7, "person", "(II)I"⟩
abbrev cX7_rule : ByteArray := prog_9_method_16_code
def yX7_rule : MethodName := ⟨RX7, "rule", "(I)I"⟩
abbrev cX7_wants : ByteArray := prog_9_method_17_code
def yX7_wants : MethodName := ⟨RX7, "wants", "(II)I"⟩
abbrev cX7_sumOf : ByteArray := prog_9_method_18_code
def yX7_sumOf : MethodName := ⟨RX7, "sumOf", "(I)I"⟩
abbrev cX7_keySet : ByteArray := prog_9_method_19_code
def yX7_keySet : MethodName := ⟨RX7, "keySet", "(I)I"⟩
abbrev cX7_of : ByteArray := prog_9_method_20_code
def yX7_of : MethodName := ⟨RX7, "of", "(II)I"⟩
abbrev cX7_at : ByteArray := prog_9_method_21_code
def yX7_at : MethodName := ⟨RX7, "at", "(II)I"⟩
abbrev cX7_type : ByteArray := prog_9_method_22_code
def yX7_type : MethodName := ⟨RX7, "type", "(I)I"⟩
abbrev cX7_next : ByteArray := prog_9_method_23_code
def yX7_next : MethodName := ⟨RX7, "next", "()I"⟩
abbrev cX7_isDigit : ByteArray := prog_9_method_24_code
def yX7_isDigit : MethodName := ⟨RX7, "isDigit", "(I)Z"⟩
abbrev cX7_number : ByteArray := prog_9_method_25_code
def yX7_number : MethodName := ⟨RX7, "number", "()Z"⟩
abbrev cX7_kindBy : ByteArray := prog_9_method_26_code
def yX7_kindBy : MethodName := ⟨RX7, "kindBy", "(I)I"⟩
abbrev cX7_one : ByteArray := prog_9_method_27_code
def yX7_one : MethodName := ⟨RX7, "one", "()Z"⟩
abbrev cX7_keys : ByteArray := prog_9_method_28_code
def yX7_keys : MethodName := ⟨RX7, "keys", "()Z"⟩
abbrev cX7_isCollege : ByteArray := prog_9_method_29_code
def yX7_isCollege : MethodName := ⟨RX7, "isCollege", "()Z"⟩
abbrev cX7_college : ByteArray := prog_9_method_30_code
def yX7_college : MethodName := ⟨RX7, "college", "()I"⟩
abbrev cX7_nails : ByteArray := prog_9_method_31_code
def yX7_nails : MethodName := ⟨RX7, "nails", "()I"⟩
abbrev cX7_keepers : ByteArray := prog_9_method_32_code
def yX7_keepers : MethodName := ⟨RX7, "keepers", "()I"⟩
abbrev cX7_count : ByteArray := prog_9_method_33_code
def yX7_count : MethodName := ⟨RX7, "count", "(I)I"⟩
abbrev cX7_note : ByteArray := prog_9_method_34_code
def yX7_note : MethodName := ⟨RX7, "note", "()V"⟩
abbrev cX7_days : ByteArray := prog_9_method_35_code
def yX7_days : MethodName := ⟨RX7, "days", "(I)I"⟩
abbrev cX7_talk : ByteArray := prog_9_method_36_code
def yX7_talk : MethodName := ⟨RX7, "talk", "(III)I"⟩
abbrev cX7_give : ByteArray := prog_9_method_37_code
def yX7_give : MethodName := ⟨RX7, "give", "(II)I"⟩
abbrev cX7_drift : ByteArray := prog_9_method_38_code
def yX7_drift : MethodName := ⟨RX7, "drift", "(I)I"⟩
abbrev cX7_undo : ByteArray := prog_9_method_39_code
def yX7_undo : MethodName := ⟨RX7, "undo", "()I"⟩
abbrev cX7_seed : ByteArray := prog_9_method_40_code
def yX7_seed : MethodName := ⟨RX7, "seed", "(I)I"⟩
abbrev cX7_keeper : ByteArray := prog_9_method_41_code
def yX7_keeper : MethodName := ⟨RX7, "keeper", "(II)I"⟩
abbrev cX7_ahead : ByteArray := prog_9_method_42_code
def yX7_ahead : MethodName := ⟨RX7, "ahead", "(III)I"⟩
abbrev cX7_then : ByteArray := prog_9_method_43_code
def yX7_then : MethodName := ⟨RX7, "then", "(I)I"⟩
abbrev cX7_in : ByteArray := prog_9_method_44_code
def yX7_in : MethodName := ⟨RX7, "in", "(I)I"⟩
abbrev cX7_holds : ByteArray := prog_9_method_45_code
def yX7_holds : MethodName := ⟨RX7, "holds", "(I)I"⟩
abbrev cX7_had : ByteArray := prog_9_method_46_code
def yX7_had : MethodName := ⟨RX7, "had", "(II)I"⟩
abbrev cX7_keep : ByteArray := prog_9_method_47_code
def yX7_keep : MethodName := ⟨RX7, "keep", "(II)I"⟩
abbrev cX7_tempt : ByteArray := prog_9_method_48_code
def yX7_tempt : MethodName := ⟨RX7, "tempt", "(II)I"⟩
abbrev cX7_strict : ByteArray := prog_9_method_49_code
def yX7_strict : MethodName := ⟨RX7, "strict", "(I)I"⟩
abbrev cX7_yawn : ByteArray := prog_9_method_50_code
def yX7_yawn : MethodName := ⟨RX7, "yawn", "(III)I"⟩
abbrev cX7_image : ByteArray := prog_9_method_51_code
def yX7_image : MethodName := ⟨RX7, "image", "()I"⟩
abbrev cX7_restore : ByteArray := prog_9_method_52_code
def yX7_restore : MethodName := ⟨RX7, "restore", "()I"⟩
abbrev cX7_isSheet : ByteArray := prog_9_method_53_code
def yX7_isSheet : MethodName := ⟨RX7, "isSheet", "(I)Z"⟩
abbrev cX7_isLane : ByteArray := prog_9_method_54_code
def yX7_isLane : MethodName := ⟨RX7, "isLane", "(I)Z"⟩
abbrev cX7_isSpan : ByteArray := prog_9_method_55_code
def yX7_isSpan : MethodName := ⟨RX7, "isSpan", "(III)Z"⟩
abbrev cX7_lacks : ByteArray := prog_9_method_56_code
def yX7_lacks : MethodName := ⟨RX7, "lacks", "(IIII)I"⟩
abbrev cX7_isTold : ByteArray := prog_9_method_57_code
def yX7_isTold : MethodName := ⟨RX7, "isTold", "(IIIII)Z"⟩
abbrev cX7_toldKinds : ByteArray := prog_9_method_58_code
def yX7_toldKinds : MethodName := ⟨RX7, "toldKinds", "(IIIII)I"⟩
abbrev cX7_toldWants : ByteArray := prog_9_method_59_code
def yX7_toldWants : MethodName := ⟨RX7, "toldWants", "(IIIII)I"⟩
abbrev cX7_toldRules : ByteArray := prog_9_method_60_code
def yX7_toldRules : MethodName := ⟨RX7, "toldRules", "(IIIII)I"⟩
abbrev cX7_told : ByteArray := prog_9_method_61_code
def yX7_told : MethodName := ⟨RX7, "told", "(IIIIIII)I"⟩
abbrev cX7_film : ByteArray := prog_9_method_62_code
def yX7_film : MethodName := ⟨RX7, "film", "(IIIIII)I"⟩
abbrev cX7_sheet : ByteArray := prog_9_method_63_code
def yX7_sheet : MethodName := ⟨RX7, "sheet", "(III)I"⟩
abbrev cX7_drop : ByteArray := prog_9_method_64_code
def yX7_drop : MethodName := ⟨RX7, "drop", "(I)I"⟩
abbrev cX7_item : ByteArray := prog_9_method_65_code
def yX7_item : MethodName := ⟨RX7, "item", "(IIIJ)I"⟩
abbrev cX7_copy : ByteArray := prog_9_method_66_code
def yX7_copy : MethodName := ⟨RX7, "copy", "(IIIII)I"⟩
def RJ11 : String := "java/lang/Character"
def TJ11 : u_T := fun k => match k with
  | _ => ("", "", "", false)
def tyJ11 : Nat → FieldType := fun k => match k with
  | _ => .int
abbrev wsJ110 : List Cond := u_ws RJ11 TJ11 0
theorem nmJ11 : ∀ a, a < 0 → ∀ b, b < 0 → a ≠ b → (TJ11 a).2.1 ≠ (TJ11 b).2.1 := by decide +kernel
theorem tyJ11_ok : ∀ k, k < 0 → parseFieldDescriptor (TJ11 k).2.2.1 = some (tyJ11 k) := by decide +kernel
abbrev cJ11_isValidCodePoint_9a6ad : ByteArray := prog_10_method_11_code
def yJ11_isValidCodePoint_9a6ad : MethodName := ⟨RJ11, "isValidCodePoint", "(I)Z"⟩
abbrev cJ11_highSurrogate_5068e : ByteArray := prog_10_method_28_code
def yJ11_highSurrogate_5068e : MethodName := ⟨RJ11, "highSurrogate", "(I)C"⟩
abbrev cJ11_lowSurrogate_5068e : ByteArray := prog_10_method_29_code
def yJ11_lowSurrogate_5068e : MethodName := ⟨RJ11, "lowSurrogate", "(I)C"⟩
def RJ6 : String := "java/lang/Integer"
def TJ6 : u_T := fun k => match k with
  | _ => ("", "", "", false)
def tyJ6 : Nat → FieldType := fun k => match k with
  | _ => .int
abbrev wsJ60 : List Cond := u_ws RJ6 TJ6 0
theorem nmJ6 : ∀ a, a < 0 → ∀ b, b < 0 → a ≠ b → (TJ6 a).2.1 ≠ (TJ6 b).2.1 := by decide +kernel
theorem tyJ6_ok : ∀ k, k < 0 → parseFieldDescriptor (TJ6 k).2.2.1 = some (tyJ6 k) := by decide +kernel
abbrev cJ6_bitCount_0f7a4 : ByteArray := prog_11_method_49_code
def yJ6_bitCount_0f7a4 : MethodName := ⟨RJ6, "bitCount", "(I)I"⟩
def RJ9 : String := "java/lang/Math"
def TJ9 : u_T := fun k => match k with
  | _ => ("", "", "", false)
def tyJ9 : Nat → FieldType := fun k => match k with
  | _ => .int
abbrev wsJ90 : List Cond := u_ws RJ9 TJ9 0
theorem nmJ9 : ∀ a, a < 0 → ∀ b, b < 0 → a ≠ b → (TJ9 a).2.1 ≠ (TJ9 b).2.1 := by decide +kernel
theorem tyJ9_ok : ∀ k, k < 0 → parseFieldDescriptor (TJ9 k).2.2.1 = some (tyJ9 k) := by decide +kernel
abbrev cJ9_max_7cf53 : ByteArray := prog_12_method_65_code
def yJ9_max_7cf53 : MethodName := ⟨RJ9, "max", "(II)I"⟩
abbrev cJ9_min_7cf53 : ByteArray := prog_12_method_69_code
def yJ9_min_7cf53 : MethodName := ⟨RJ9, "min", "(II)I"⟩
def RJ0 : String := "java/lang/String"
def TJ0 : u_T := fun k => match k with
  | _ => ("", "", "", false)
def tyJ0 : Nat → FieldType := fun k => match k with
  | _ => .int
abbrev wsJ00 : List Cond := u_ws RJ0 TJ0 0
theorem nmJ0 : ∀ a, a < 0 → ∀ b, b < 0 → a ≠ b → (TJ0 a).2.1 ≠ (TJ0 b).2.1 := by decide +kernel
theorem tyJ0_ok : ∀ k, k < 0 → parseFieldDescriptor (TJ0 k).2.2.1 = some (tyJ0 k) := by decide +kernel
abbrev cJ0_length_8abf5 : ByteArray := prog_13_method_54_code
def yJ0_length_8abf5 : MethodName := ⟨RJ0, "length", "()I"⟩
abbrev cJ0_indexOf_0f7a4 : ByteArray := prog_13_method_79_code
def yJ0_indexOf_0f7a4 : MethodName := ⟨RJ0, "indexOf", "(I)I"⟩
abbrev cJ0_indexOf_7cf53 : ByteArray := prog_13_method_80_code
def yJ0_indexOf_7cf53 : MethodName := ⟨RJ0, "indexOf", "(II)I"⟩
abbrev cJ0_coder_7d493 : ByteArray := prog_13_method_152_code
def yJ0_coder_7d493 : MethodName := ⟨RJ0, "coder", "()B"⟩
abbrev cJ0_isLatin1_aae02 : ByteArray := prog_13_method_154_code
def yJ0_isLatin1_aae02 : MethodName := ⟨RJ0, "isLatin1", "()Z"⟩
abbrev cJ0_checkBoundsBeginEnd_23922 : ByteArray := prog_13_method_158_code
def yJ0_checkBoundsBeginEnd_23922 : MethodName := ⟨RJ0, "checkBoundsBeginEnd", "(III)V"⟩
def RJ1 : String := "java/lang/StringLatin1"
def TJ1 : u_T := fun k => match k with
  | _ => ("", "", "", false)
def tyJ1 : Nat → FieldType := fun k => match k with
  | _ => .int
abbrev wsJ10 : List Cond := u_ws RJ1 TJ1 0
theorem nmJ1 : ∀ a, a < 0 → ∀ b, b < 0 → a ≠ b → (TJ1 a).2.1 ≠ (TJ1 b).2.1 := by decide +kernel
theorem tyJ1_ok : ∀ k, k < 0 → parseFieldDescriptor (TJ1 k).2.2.1 = some (tyJ1 k) := by decide +kernel
abbrev cJ1_canEncode_9a6ad : ByteArray := prog_14_method_4_code
def yJ1_canEncode_9a6ad : MethodName := ⟨RJ1, "canEncode", "(I)Z"⟩
abbrev cJ1_indexOf_4cfef : ByteArray := prog_14_method_22_code
def yJ1_indexOf_4cfef : MethodName := ⟨RJ1, "indexOf", "([BIII)I"⟩
abbrev cJ1_indexOfChar_4cfef : ByteArray := prog_14_method_23_code
def yJ1_indexOfChar_4cfef : MethodName := ⟨RJ1, "indexOfChar", "([BIII)I"⟩
def RJ2 : String := "java/lang/StringUTF16"
def TJ2 : u_T := fun k => match k with
  | _ => ("", "", "", false)
def tyJ2 : Nat → FieldType := fun k => match k with
  | _ => .int
abbrev wsJ20 : List Cond := u_ws RJ2 TJ2 0
theorem nmJ2 : ∀ a, a < 0 → ∀ b, b < 0 → a ≠ b → (TJ2 a).2.1 ≠ (TJ2 b).2.1 := by decide +kernel
theorem tyJ2_ok : ∀ k, k < 0 → parseFieldDescriptor (TJ2 k).2.2.1 = some (tyJ2 k) := by decide +kernel
abbrev cJ2_getChar_3b067 : ByteArray := prog_15_method_5_code
def yJ2_getChar_3b067 : MethodName := ⟨RJ2, "getChar", "([BI)C"⟩
abbrev cJ2_length_9d52b : ByteArray := prog_15_method_6_code
def yJ2_length_9d52b : MethodName := ⟨RJ2, "length", "([B)I"⟩
abbrev cJ2_indexOf_4cfef : ByteArray := prog_15_method_40_code
def yJ2_indexOf_4cfef : MethodName := ⟨RJ2, "indexOf", "([BIII)I"⟩
abbrev cJ2_indexOfChar_4cfef : ByteArray := prog_15_method_47_code
def yJ2_indexOfChar_4cfef : MethodName := ⟨RJ2, "indexOfChar", "([BIII)I"⟩
abbrev cJ2_indexOfCharUnsafe_4cfef : ByteArray := prog_15_method_48_code
def yJ2_indexOfCharUnsafe_4cfef : MethodName := ⟨RJ2, "indexOfCharUnsafe", "([BIII)I"⟩
abbrev cJ2_indexOfSupplementary_4cfef : ByteArray := prog_15_method_49_code
def yJ2_indexOfSupplementary_4cfef : MethodName := ⟨RJ2, "indexOfSupplementary", "([BIII)I"⟩
abbrev cJ2_checkBoundsBeginEnd_d044e : ByteArray := prog_15_method_93_code
def yJ2_checkBoundsBeginEnd_d044e : MethodName := ⟨RJ2, "checkBoundsBeginEnd", "(II[B)V"⟩
def RJ10 : String := "java/lang/System"
def TJ10 : u_T := fun k => match k with
  | _ => ("", "", "", false)
def tyJ10 : Nat → FieldType := fun k => match k with
  | _ => .int
abbrev wsJ100 : List Cond := u_ws RJ10 TJ10 0
theorem nmJ10 : ∀ a, a < 0 → ∀ b, b < 0 → a ≠ b → (TJ10 a).2.1 ≠ (TJ10 b).2.1 := by decide +kernel
theorem tyJ10_ok : ∀ k, k < 0 → parseFieldDescriptor (TJ10 k).2.2.1 = some (tyJ10 k) := by decide +kernel
def RJ3 : String := "jdk/internal/util/Preconditions"
def TJ3 : u_T := fun k => match k with
  | _ => ("", "", "", false)
def tyJ3 : Nat → FieldType := fun k => match k with
  | _ => .int
abbrev wsJ30 : List Cond := u_ws RJ3 TJ3 0
theorem nmJ3 : ∀ a, a < 0 → ∀ b, b < 0 → a ≠ b → (TJ3 a).2.1 ≠ (TJ3 b).2.1 := by decide +kernel
theorem tyJ3_ok : ∀ k, k < 0 → parseFieldDescriptor (TJ3 k).2.2.1 = some (tyJ3 k) := by decide +kernel
abbrev cJ3_checkFromToIndex_8c36e : ByteArray := prog_17_method_12_code
def yJ3_checkFromToIndex_8c36e : MethodName := ⟨RJ3, "checkFromToIndex", "(IIILjava/util/function/BiFunction;)I"⟩
def RL : String := "YawnKeysLaw"
abbrev cL_law : ByteArray := code
def yL_law : MethodName := ⟨RL, "law", "([I)Z"⟩
end
section
theorem dX0_init_0 : decode cX0_init 0 = .ok (.aload_n 0, 1) := by decide +kernel
theorem dX0_init_1 : decode cX0_init 1 = .ok (.invokespecial 3, 3) := by decide +kernel
theorem dX0_init_4 : decode cX0_init 4 = .ok (.aload_n 0, 1) := by decide +kernel
theorem dX0_init_5 : decode cX0_init 5 = .ok (.iconst 5, 1) := by decide +kernel
theorem dX0_init_6 : decode cX0_init 6 = .ok (.newarray .int, 2) := by decide +kernel
theorem dX0_init_8 : decode cX0_init 8 = .ok (.putfield 9, 3) := by decide +kernel
theorem dX0_init_11 : decode cX0_init 11 = .ok (.aload_n 0, 1) := by decide +kernel
theorem dX0_init_12 : decode cX0_init 12 = .ok (.iconst 0, 1) := by decide +kernel
theorem dX0_init_13 : decode cX0_init 13 = .ok (.putfield 15, 3) := by decide +kernel
theorem dX0_init_16 : decode cX0_init 16 = .ok (.aload_n 0, 1) := by decide +kernel
theorem dX0_init_17 : decode cX0_init 17 = .ok (.bipush 8, 2) := by decide +kernel
theorem dX0_init_19 : decode cX0_init 19 = .ok (.putfield 19, 3) := by decide +kernel
theorem dX0_init_22 : decode cX0_init 22 = .ok (.aload_n 0, 1) := by decide +kernel
theorem dX0_init_23 : decode cX0_init 23 = .ok (.iconst 0, 1) := by decide +kernel
theorem dX0_init_24 : decode cX0_init 24 = .ok (.putfield 22, 3) := by decide +kernel
theorem dX0_init_27 : decode cX0_init 27 = .ok (.return_, 1) := by decide +kernel
theorem dX0_become_0 : decode cX0_become 0 = .ok (.aload_n 0, 1) := by decide +kernel
theorem dX0_become_1 : decode cX0_become 1 = .ok (.aload_n 1, 1) := by decide +kernel
theorem dX0_become_2 : decode cX0_become 2 = .ok (.invokevirtual 25, 3) := by decide +kernel
theorem dX0_become_5 : decode cX0_become 5 = .ok (.aload_n 1, 1) := by decide +kernel
theorem dX0_become_6 : decode cX0_become 6 = .ok (.getfield 9, 3) := by decide +kernel
theorem dX0_become_9 : decode cX0_become 9 = .ok (.iconst 0, 1) := by decide +kernel
theorem dX0_become_10 : decode cX0_become 10 = .ok (.aload_n 0, 1) := by decide +kernel
theorem dX0_become_11 : decode cX0_become 11 = .ok (.getfield 9, 3) := by decide +kernel
theorem dX0_become_14 : decode cX0_become 14 = .ok (.iconst 0, 1) := by decide +kernel
theorem dX0_become_15 : decode cX0_become 15 = .ok (.iconst 5, 1) := by decide +kernel
theorem dX0_become_16 : decode cX0_become 16 = .ok (.invokestatic 29, 3) := by decide +kernel
theorem dX0_become_19 : decode cX0_become 19 = .ok (.aload_n 0, 1) := by decide +kernel
theorem dX0_become_20 : decode cX0_become 20 = .ok (.aload_n 1, 1) := by decide +kernel
theorem dX0_become_21 : decode cX0_become 21 = .ok (.getfield 15, 3) := by decide +kernel
theorem dX0_become_24 : decode cX0_become 24 = .ok (.putfield 15, 3) := by decide +kernel
theorem dX0_become_27 : decode cX0_become 27 = .ok (.aload_n 0, 1) := by decide +kernel
theorem dX0_become_28 : decode cX0_become 28 = .ok (.aload_n 1, 1) := by decide +kernel
theorem dX0_become_29 : decode cX0_become 29 = .ok (.getfield 19, 3) := by decide +kernel
theorem dX0_become_32 : decode cX0_become 32 = .ok (.putfield 19, 3) := by decide +kernel
theorem dX0_become_35 : decode cX0_become 35 = .ok (.return_, 1) := by decide +kernel
theorem dX0_has_0 : decode cX0_has 0 = .ok (.iload_n 1, 1) := by decide +kernel
theorem dX0_has_1 : decode cX0_has 1 = .ok (.iconst 0, 1) := by decide +kernel
theorem dX0_has_2 : decode cX0_has 2 = .ok (.aload_n 0, 1) := by decide +kernel
theorem dX0_has_3 : decode cX0_has 3 = .ok (.getfield 15, 3) := by decide +kernel
theorem dX0_has_6 : decode cX0_has 6 = .ok (.iconst 1, 1) := by decide +kernel
theorem dX0_has_7 : decode cX0_has 7 = .ok (.isub, 1) := by decide +kernel
theorem dX0_has_8 : decode cX0_has 8 = .ok (.invokestatic 35, 3) := by decide +kernel
theorem dX0_has_11 : decode cX0_has 11 = .ok (.ireturn, 1) := by decide +kernel
theorem dX0_join_0 : decode cX0_join 0 = .ok (.aload_n 0, 1) := by decide +kernel
theorem dX0_join_1 : decode cX0_join 1 = .ok (.getfield 15, 3) := by decide +kernel
theorem dX0_join_4 : decode cX0_join 4 = .ok (.istore_n 3, 1) := by decide +kernel
theorem dX0_join_5 : decode cX0_join 5 = .ok (.aload_n 0, 1) := by decide +kernel
theorem dX0_join_6 : decode cX0_join 6 = .ok (.getfield 9, 3) := by decide +kernel
theorem dX0_join_9 : decode cX0_join 9 = .ok (.iload_n 3, 1) := by decide +kernel
theorem dX0_join_10 : decode cX0_join 10 = .ok (.iload_n 1, 1) := by decide +kernel
theorem dX0_join_11 : decode cX0_join 11 = .ok (.iastore, 1) := by decide +kernel
theorem dX0_join_12 : decode cX0_join 12 = .ok (.iconst 0, 1) := by decide +kernel
theorem dX0_join_13 : decode cX0_join 13 = .ok (.istore 4, 2) := by decide +kernel
theorem dX0_join_15 : decode cX0_join 15 = .ok (.iload 4, 2) := by decide +kernel
theorem dX0_join_17 : decode cX0_join 17 = .ok (.iconst 4, 1) := by decide +kernel
theorem dX0_join_18 : decode cX0_join 18 = .ok (.if_icmp .ge 17, 3) := by decide +kernel
theorem dX0_join_21 : decode cX0_join 21 = .ok (.aload_n 0, 1) := by decide +kernel
theorem dX0_join_22 : decode cX0_join 22 = .ok (.iload_n 3, 1) := by decide +kernel
theorem dX0_join_23 : decode cX0_join 23 = .ok (.iload 4, 2) := by decide +kernel
theorem dX0_join_25 : decode cX0_join 25 = .ok (.iload_n 2, 1) := by decide +kernel
theorem dX0_join_26 : decode cX0_join 26 = .ok (.invokevirtual 39, 3) := by decide +kernel
theorem dX0_join_29 : decode cX0_join 29 = .ok (.iinc 4 1, 3) := by decide +kernel
theorem dX0_join_32 : decode cX0_join 32 = .ok (.goto (-17), 3) := by decide +kernel
theorem dX0_join_35 : decode cX0_join 35 = .ok (.aload_n 0, 1) := by decide +kernel
theorem dX0_join_36 : decode cX0_join 36 = .ok (.iload_n 3, 1) := by decide +kernel
theorem dX0_join_37 : decode cX0_join 37 = .ok (.iconst 1, 1) := by decide +kernel
theorem dX0_join_38 : decode cX0_join 38 = .ok (.iadd, 1) := by decide +kernel
theorem dX0_join_39 : decode cX0_join 39 = .ok (.putfield 15, 3) := by decide +kernel
theorem dX0_join_42 : decode cX0_join 42 = .ok (.iload_n 3, 1) := by decide +kernel
theorem dX0_join_43 : decode cX0_join 43 = .ok (.ireturn, 1) := by decide +kernel
theorem dX0_wantOf_0 : decode cX0_wantOf 0 = .ok (.aload_n 0, 1) := by decide +kernel
theorem dX0_wantOf_1 : decode cX0_wantOf 1 = .ok (.getfield 43, 3) := by decide +kernel
theorem dX0_wantOf_4 : decode cX0_wantOf 4 = .ok (.iload_n 1, 1) := by decide +kernel
theorem dX0_wantOf_5 : decode cX0_wantOf 5 = .ok (.iconst 4, 1) := by decide +kernel
theorem dX0_wantOf_6 : decode cX0_wantOf 6 = .ok (.imul, 1) := by decide +kernel
theorem dX0_wantOf_7 : decode cX0_wantOf 7 = .ok (.iload_n 2, 1) := by decide +kernel
theorem dX0_wantOf_8 : decode cX0_wantOf 8 = .ok (.iadd, 1) := by decide +kernel
theorem dX0_wantOf_9 : decode cX0_wantOf 9 = .ok (.iaload, 1) := by decide +kernel
theorem dX0_wantOf_10 : decode cX0_wantOf 10 = .ok (.ireturn, 1) := by decide +kernel
theorem dX0_setWant_0 : decode cX0_setWant 0 = .ok (.aload_n 0, 1) := by decide +kernel
theorem dX0_setWant_1 : decode cX0_setWant 1 = .ok (.getfield 43, 3) := by decide +kernel
theorem dX0_setWant_4 : decode cX0_setWant 4 = .ok (.iload_n 1, 1) := by decide +kernel
theorem dX0_setWant_5 : decode cX0_setWant 5 = .ok (.iconst 4, 1) := by decide +kernel
theorem dX0_setWant_6 : decode cX0_setWant 6 = .ok (.imul, 1) := by decide +kernel
theorem dX0_setWant_7 : decode cX0_setWant 7 = .ok (.iload_n 2, 1) := by decide +kernel
theorem dX0_setWant_8 : decode cX0_setWant 8 = .ok (.iadd, 1) := by decide +kernel
theorem dX0_setWant_9 : decode cX0_setWant 9 = .ok (.iload_n 3, 1) := by decide +kernel
theorem dX0_setWant_10 : decode cX0_setWant 10 = .ok (.iastore, 1) := by decide +kernel
theorem dX0_setWant_11 : decode cX0_setWant 11 = .ok (.return_, 1) := by decide +kernel
theorem dX0_wantMore_0 : decode cX0_wantMore 0 = .ok (.aload_n 0, 1) := by decide +kernel
theorem dX0_wantMore_1 : decode cX0_wantMore 1 = .ok (.iload_n 1, 1) := by decide +kernel
theorem dX0_wantMore_2 : decode cX0_wantMore 2 = .ok (.iload_n 2, 1) := by decide +kernel
theorem dX0_wantMore_3 : decode cX0_wantMore 3 = .ok (.bipush 20, 2) := by decide +kernel
theorem dX0_wantMore_5 : decode cX0_wantMore 5 = .ok (.aload_n 0, 1) := by decide +kernel
theorem dX0_wantMore_6 : decode cX0_wantMore 6 = .ok (.iload_n 1, 1) := by decide +kernel
theorem dX0_wantMore_7 : decode cX0_wantMore 7 = .ok (.iload_n 2, 1) := by decide +kernel
theorem dX0_wantMore_8 : decode cX0_wantMore 8 = .ok (.invokevirtual 46, 3) := by decide +kernel
theorem dX0_wantMore_11 : decode cX0_wantMore 11 = .ok (.iload_n 3, 1) := by decide +kernel
theorem dX0_wantMore_12 : decode cX0_wantMore 12 = .ok (.iadd, 1) := by decide +kernel
theorem dX0_wantMore_13 : decode cX0_wantMore 13 = .ok (.invokestatic 50, 3) := by decide +kernel
theorem dX0_wantMore_16 : decode cX0_wantMore 16 = .ok (.invokevirtual 39, 3) := by decide +kernel
theorem dX0_wantMore_19 : decode cX0_wantMore 19 = .ok (.return_, 1) := by decide +kernel
theorem dX0_wantsOf_0 : decode cX0_wantsOf 0 = .ok (.iconst 0, 1) := by decide +kernel
theorem dX0_wantsOf_1 : decode cX0_wantsOf 1 = .ok (.istore_n 2, 1) := by decide +kernel
theorem dX0_wantsOf_2 : decode cX0_wantsOf 2 = .ok (.iconst 0, 1) := by decide +kernel
theorem dX0_wantsOf_3 : decode cX0_wantsOf 3 = .ok (.istore_n 3, 1) := by decide +kernel
theorem dX0_wantsOf_4 : decode cX0_wantsOf 4 = .ok (.iload_n 3, 1) := by decide +kernel
theorem dX0_wantsOf_5 : decode cX0_wantsOf 5 = .ok (.iconst 4, 1) := by decide +kernel
theorem dX0_wantsOf_6 : decode cX0_wantsOf 6 = .ok (.if_icmp .ge 18, 3) := by decide +kernel
theorem dX0_wantsOf_9 : decode cX0_wantsOf 9 = .ok (.iload_n 2, 1) := by decide +kernel
theorem dX0_wantsOf_10 : decode cX0_wantsOf 10 = .ok (.aload_n 0, 1) := by decide +kernel
theorem dX0_wantsOf_11 : decode cX0_wantsOf 11 = .ok (.iload_n 1, 1) := by decide +kernel
theorem dX0_wantsOf_12 : decode cX0_wantsOf 12 = .ok (.iload_n 3, 1) := by decide +kernel
theorem dX0_wantsOf_13 : decode cX0_wantsOf 13 = .ok (.invokevirtual 46, 3) := by decide +kernel
theorem dX0_wantsOf_16 : decode cX0_wantsOf 16 = .ok (.iadd, 1) := by decide +kernel
theorem dX0_wantsOf_17 : decode cX0_wantsOf 17 = .ok (.istore_n 2, 1) := by decide +kernel
theorem dX0_wantsOf_18 : decode cX0_wantsOf 18 = .ok (.iinc 3 1, 3) := by decide +kernel
theorem dX0_wantsOf_21 : decode cX0_wantsOf 21 = .ok (.goto (-17), 3) := by decide +kernel
theorem dX0_wantsOf_24 : decode cX0_wantsOf 24 = .ok (.iload_n 2, 1) := by decide +kernel
theorem dX0_wantsOf_25 : decode cX0_wantsOf 25 = .ok (.ireturn, 1) := by decide +kernel
theorem dX0_wantsOfAll_0 : decode cX0_wantsOfAll 0 = .ok (.iconst 0, 1) := by decide +kernel
theorem dX0_wantsOfAll_1 : decode cX0_wantsOfAll 1 = .ok (.istore_n 1, 1) := by decide +kernel
theorem dX0_wantsOfAll_2 : decode cX0_wantsOfAll 2 = .ok (.iconst 0, 1) := by decide +kernel
theorem dX0_wantsOfAll_3 : decode cX0_wantsOfAll 3 = .ok (.istore_n 2, 1) := by decide +kernel
theorem dX0_wantsOfAll_4 : decode cX0_wantsOfAll 4 = .ok (.iload_n 2, 1) := by decide +kernel
theorem dX0_wantsOfAll_5 : decode cX0_wantsOfAll 5 = .ok (.aload_n 0, 1) := by decide +kernel
theorem dX0_wantsOfAll_6 : decode cX0_wantsOfAll 6 = .ok (.getfield 15, 3) := by decide +kernel
theorem dX0_wantsOfAll_9 : decode cX0_wantsOfAll 9 = .ok (.if_icmp .ge 17, 3) := by decide +kernel
theorem dX0_wantsOfAll_12 : decode cX0_wantsOfAll 12 = .ok (.iload_n 1, 1) := by decide +kernel
theorem dX0_wantsOfAll_13 : decode cX0_wantsOfAll 13 = .ok (.aload_n 0, 1) := by decide +kernel
theorem dX0_wantsOfAll_14 : decode cX0_wantsOfAll 14 = .ok (.iload_n 2, 1) := by decide +kernel
theorem dX0_wantsOfAll_15 : decode cX0_wantsOfAll 15 = .ok (.invokevirtual 55, 3) := by decide +kernel
theorem dX0_wantsOfAll_18 : decode cX0_wantsOfAll 18 = .ok (.iadd, 1) := by decide +kernel
theorem dX0_wantsOfAll_19 : decode cX0_wantsOfAll 19 = .ok (.istore_n 1, 1) := by decide +kernel
theorem dX0_wantsOfAll_20 : decode cX0_wantsOfAll 20 = .ok (.iinc 2 1, 3) := by decide +kernel
theorem dX0_wantsOfAll_23 : decode cX0_wantsOfAll 23 = .ok (.goto (-19), 3) := by decide +kernel
theorem dX0_wantsOfAll_26 : decode cX0_wantsOfAll 26 = .ok (.iload_n 1, 1) := by decide +kernel
theorem dX0_wantsOfAll_27 : decode cX0_wantsOfAll 27 = .ok (.ireturn, 1) := by decide +kernel
theorem dX0_keysOf_0 : decode cX0_keysOf 0 = .ok (.iconst 0, 1) := by decide +kernel
theorem dX0_keysOf_1 : decode cX0_keysOf 1 = .ok (.istore_n 2, 1) := by decide +kernel
theorem dX0_keysOf_2 : decode cX0_keysOf 2 = .ok (.iconst 0, 1) := by decide +kernel
theorem dX0_keysOf_3 : decode cX0_keysOf 3 = .ok (.istore_n 3, 1) := by decide +kernel
theorem dX0_keysOf_4 : decode cX0_keysOf 4 = .ok (.iload_n 3, 1) := by decide +kernel
theorem dX0_keysOf_5 : decode cX0_keysOf 5 = .ok (.iconst 4, 1) := by decide +kernel
theorem dX0_keysOf_6 : decode cX0_keysOf 6 = .ok (.if_icmp .ge 25, 3) := by decide +kernel
theorem dX0_keysOf_9 : decode cX0_keysOf 9 = .ok (.aload_n 0, 1) := by decide +kernel
theorem dX0_keysOf_10 : decode cX0_keysOf 10 = .ok (.getfield 59, 3) := by decide +kernel
theorem dX0_keysOf_13 : decode cX0_keysOf 13 = .ok (.iload_n 3, 1) := by decide +kernel
theorem dX0_keysOf_14 : decode cX0_keysOf 14 = .ok (.iaload, 1) := by decide +kernel
theorem dX0_keysOf_15 : decode cX0_keysOf 15 = .ok (.iload_n 1, 1) := by decide +kernel
theorem dX0_keysOf_16 : decode cX0_keysOf 16 = .ok (.if_icmp .ne 9, 3) := by decide +kernel
theorem dX0_keysOf_19 : decode cX0_keysOf 19 = .ok (.iload_n 2, 1) := by decide +kernel
theorem dX0_keysOf_20 : decode cX0_keysOf 20 = .ok (.iconst 1, 1) := by decide +kernel
theorem dX0_keysOf_21 : decode cX0_keysOf 21 = .ok (.iload_n 3, 1) := by decide +kernel
theorem dX0_keysOf_22 : decode cX0_keysOf 22 = .ok (.ishl, 1) := by decide +kernel
theorem dX0_keysOf_23 : decode cX0_keysOf 23 = .ok (.ior, 1) := by decide +kernel
theorem dX0_keysOf_24 : decode cX0_keysOf 24 = .ok (.istore_n 2, 1) := by decide +kernel
theorem dX0_keysOf_25 : decode cX0_keysOf 25 = .ok (.iinc 3 1, 3) := by decide +kernel
theorem dX0_keysOf_28 : decode cX0_keysOf 28 = .ok (.goto (-24), 3) := by decide +kernel
theorem dX0_keysOf_31 : decode cX0_keysOf 31 = .ok (.iload_n 2, 1) := by decide +kernel
theorem dX0_keysOf_32 : decode cX0_keysOf 32 = .ok (.ireturn, 1) := by decide +kernel
theorem dX0_nails_0 : decode cX0_nails 0 = .ok (.aload_n 0, 1) := by decide +kernel
theorem dX0_nails_1 : decode cX0_nails 1 = .ok (.bipush (-4), 2) := by decide +kernel
theorem dX0_nails_3 : decode cX0_nails 3 = .ok (.invokevirtual 62, 3) := by decide +kernel
theorem dX0_nails_6 : decode cX0_nails 6 = .ok (.ireturn, 1) := by decide +kernel
theorem dX0_keeperAsSet_0 : decode cX0_keeperAsSet 0 = .ok (.aload_n 0, 1) := by decide +kernel
theorem dX0_keeperAsSet_1 : decode cX0_keeperAsSet 1 = .ok (.getfield 59, 3) := by decide +kernel
theorem dX0_keeperAsSet_4 : decode cX0_keeperAsSet 4 = .ok (.iload_n 1, 1) := by decide +kernel
theorem dX0_keeperAsSet_5 : decode cX0_keeperAsSet 5 = .ok (.iaload, 1) := by decide +kernel
theorem dX0_keeperAsSet_6 : decode cX0_keeperAsSet 6 = .ok (.bipush (-4), 2) := by decide +kernel
theorem dX0_keeperAsSet_8 : decode cX0_keeperAsSet 8 = .ok (.if_icmp .ne 7, 3) := by decide +kernel
theorem dX0_keeperAsSet_11 : decode cX0_keeperAsSet 11 = .ok (.iconst 0, 1) := by decide +kernel
theorem dX0_keeperAsSet_12 : decode cX0_keeperAsSet 12 = .ok (.goto 11, 3) := by decide +kernel
theorem dX0_keeperAsSet_15 : decode cX0_keeperAsSet 15 = .ok (.iconst 1, 1) := by decide +kernel
theorem dX0_keeperAsSet_16 : decode cX0_keeperAsSet 16 = .ok (.aload_n 0, 1) := by decide +kernel
theorem dX0_keeperAsSet_17 : decode cX0_keeperAsSet 17 = .ok (.getfield 59, 3) := by decide +kernel
theorem dX0_keeperAsSet_20 : decode cX0_keeperAsSet 20 = .ok (.iload_n 1, 1) := by decide +kernel
theorem dX0_keeperAsSet_21 : decode cX0_keeperAsSet 21 = .ok (.iaload, 1) := by decide +kernel
theorem dX0_keeperAsSet_22 : decode cX0_keeperAsSet 22 = .ok (.ishl, 1) := by decide +kernel
theorem dX0_keeperAsSet_23 : decode cX0_keeperAsSet 23 = .ok (.ireturn, 1) := by decide +kernel
theorem dX0_keepersOfAny_0 : decode cX0_keepersOfAny 0 = .ok (.iconst 0, 1) := by decide +kernel
theorem dX0_keepersOfAny_1 : decode cX0_keepersOfAny 1 = .ok (.istore_n 1, 1) := by decide +kernel
theorem dX0_keepersOfAny_2 : decode cX0_keepersOfAny 2 = .ok (.iconst 0, 1) := by decide +kernel
theorem dX0_keepersOfAny_3 : decode cX0_keepersOfAny 3 = .ok (.istore_n 2, 1) := by decide +kernel
theorem dX0_keepersOfAny_4 : decode cX0_keepersOfAny 4 = .ok (.iload_n 2, 1) := by decide +kernel
theorem dX0_keepersOfAny_5 : decode cX0_keepersOfAny 5 = .ok (.iconst 4, 1) := by decide +kernel
theorem dX0_keepersOfAny_6 : decode cX0_keepersOfAny 6 = .ok (.if_icmp .ge 17, 3) := by decide +kernel
theorem dX0_keepersOfAny_9 : decode cX0_keepersOfAny 9 = .ok (.iload_n 1, 1) := by decide +kernel
theorem dX0_keepersOfAny_10 : decode cX0_keepersOfAny 10 = .ok (.aload_n 0, 1) := by decide +kernel
theorem dX0_keepersOfAny_11 : decode cX0_keepersOfAny 11 = .ok (.iload_n 2, 1) := by decide +kernel
theorem dX0_keepersOfAny_12 : decode cX0_keepersOfAny 12 = .ok (.invokevirtual 65, 3) := by decide +kernel
theorem dX0_keepersOfAny_15 : decode cX0_keepersOfAny 15 = .ok (.ior, 1) := by decide +kernel
theorem dX0_keepersOfAny_16 : decode cX0_keepersOfAny 16 = .ok (.istore_n 1, 1) := by decide +kernel
theorem dX0_keepersOfAny_17 : decode cX0_keepersOfAny 17 = .ok (.iinc 2 1, 3) := by decide +kernel
theorem dX0_keepersOfAny_20 : decode cX0_keepersOfAny 20 = .ok (.goto (-16), 3) := by decide +kernel
theorem dX0_keepersOfAny_23 : decode cX0_keepersOfAny 23 = .ok (.iload_n 1, 1) := by decide +kernel
theorem dX0_keepersOfAny_24 : decode cX0_keepersOfAny 24 = .ok (.ireturn, 1) := by decide +kernel
theorem dX0_least_0 : decode cX0_least 0 = .ok (.bipush (-4), 2) := by decide +kernel
theorem dX0_least_2 : decode cX0_least 2 = .ok (.istore_n 2, 1) := by decide +kernel
theorem dX0_least_3 : decode cX0_least 3 = .ok (.bipush 21, 2) := by decide +kernel
theorem dX0_least_5 : decode cX0_least 5 = .ok (.istore_n 3, 1) := by decide +kernel
theorem dX0_least_6 : decode cX0_least 6 = .ok (.iconst 0, 1) := by decide +kernel
theorem dX0_least_7 : decode cX0_least 7 = .ok (.istore 4, 2) := by decide +kernel
theorem dX0_least_9 : decode cX0_least 9 = .ok (.iload 4, 2) := by decide +kernel
theorem dX0_least_11 : decode cX0_least 11 = .ok (.aload_n 0, 1) := by decide +kernel
theorem dX0_least_12 : decode cX0_least 12 = .ok (.getfield 15, 3) := by decide +kernel
theorem dX0_least_15 : decode cX0_least 15 = .ok (.if_icmp .ge 31, 3) := by decide +kernel
theorem dX0_least_18 : decode cX0_least 18 = .ok (.aload_n 0, 1) := by decide +kernel
theorem dX0_least_19 : decode cX0_least 19 = .ok (.iload 4, 2) := by decide +kernel
theorem dX0_least_21 : decode cX0_least 21 = .ok (.iload_n 1, 1) := by decide +kernel
theorem dX0_least_22 : decode cX0_least 22 = .ok (.invokevirtual 46, 3) := by decide +kernel
theorem dX0_least_25 : decode cX0_least 25 = .ok (.iload_n 3, 1) := by decide +kernel
theorem dX0_least_26 : decode cX0_least 26 = .ok (.if_icmp .ge 14, 3) := by decide +kernel
theorem dX0_least_29 : decode cX0_least 29 = .ok (.aload_n 0, 1) := by decide +kernel
theorem dX0_least_30 : decode cX0_least 30 = .ok (.iload 4, 2) := by decide +kernel
theorem dX0_least_32 : decode cX0_least 32 = .ok (.iload_n 1, 1) := by decide +kernel
theorem dX0_least_33 : decode cX0_least 33 = .ok (.invokevirtual 46, 3) := by decide +kernel
theorem dX0_least_36 : decode cX0_least 36 = .ok (.istore_n 3, 1) := by decide +kernel
theorem dX0_least_37 : decode cX0_least 37 = .ok (.iload 4, 2) := by decide +kernel
theorem dX0_least_39 : decode cX0_least 39 = .ok (.istore_n 2, 1) := by decide +kernel
theorem dX0_least_40 : decode cX0_least 40 = .ok (.iinc 4 1, 3) := by decide +kernel
theorem dX0_least_43 : decode cX0_least 43 = .ok (.goto (-34), 3) := by decide +kernel
theorem dX0_least_46 : decode cX0_least 46 = .ok (.iload_n 2, 1) := by decide +kernel
theorem dX0_least_47 : decode cX0_least 47 = .ok (.ireturn, 1) := by decide +kernel
theorem dX0_growth_0 : decode cX0_growth 0 = .ok (.aload_n 0, 1) := by decide +kernel
theorem dX0_growth_1 : decode cX0_growth 1 = .ok (.getfield 59, 3) := by decide +kernel
theorem dX0_growth_4 : decode cX0_growth 4 = .ok (.iload_n 1, 1) := by decide +kernel
theorem dX0_growth_5 : decode cX0_growth 5 = .ok (.iaload, 1) := by decide +kernel
theorem dX0_growth_6 : decode cX0_growth 6 = .ok (.istore_n 2, 1) := by decide +kernel
theorem dX0_growth_7 : decode cX0_growth 7 = .ok (.iload_n 2, 1) := by decide +kernel
theorem dX0_growth_8 : decode cX0_growth 8 = .ok (.bipush (-4), 2) := by decide +kernel
theorem dX0_growth_10 : decode cX0_growth 10 = .ok (.if_icmp .ne 5, 3) := by decide +kernel
theorem dX0_growth_13 : decode cX0_growth 13 = .ok (.iconst 0, 1) := by decide +kernel
theorem dX0_growth_14 : decode cX0_growth 14 = .ok (.ireturn, 1) := by decide +kernel
theorem dX0_growth_15 : decode cX0_growth 15 = .ok (.aload_n 0, 1) := by decide +kernel
theorem dX0_growth_16 : decode cX0_growth 16 = .ok (.getfield 9, 3) := by decide +kernel
theorem dX0_growth_19 : decode cX0_growth 19 = .ok (.iload_n 2, 1) := by decide +kernel
theorem dX0_growth_20 : decode cX0_growth 20 = .ok (.iaload, 1) := by decide +kernel
theorem dX0_growth_21 : decode cX0_growth 21 = .ok (.tableswitch 70 1 4 #[31, 37, 42, 50], 31) := by decide +kernel
theorem dX0_growth_52 : decode cX0_growth 52 = .ok (.aload_n 0, 1) := by decide +kernel
theorem dX0_growth_53 : decode cX0_growth 53 = .ok (.iload_n 2, 1) := by decide +kernel
theorem dX0_growth_54 : decode cX0_growth 54 = .ok (.invokevirtual 68, 3) := by decide +kernel
theorem dX0_growth_57 : decode cX0_growth 57 = .ok (.ireturn, 1) := by decide +kernel
theorem dX0_growth_58 : decode cX0_growth 58 = .ok (.aload_n 0, 1) := by decide +kernel
theorem dX0_growth_59 : decode cX0_growth 59 = .ok (.invokevirtual 71, 3) := by decide +kernel
theorem dX0_growth_62 : decode cX0_growth 62 = .ok (.ireturn, 1) := by decide +kernel
theorem dX0_growth_63 : decode cX0_growth 63 = .ok (.iconst 2, 1) := by decide +kernel
theorem dX0_growth_64 : decode cX0_growth 64 = .ok (.aload_n 0, 1) := by decide +kernel
theorem dX0_growth_65 : decode cX0_growth 65 = .ok (.iload_n 2, 1) := by decide +kernel
theorem dX0_growth_66 : decode cX0_growth 66 = .ok (.invokevirtual 68, 3) := by decide +kernel
theorem dX0_growth_69 : decode cX0_growth 69 = .ok (.imul, 1) := by decide +kernel
theorem dX0_growth_70 : decode cX0_growth 70 = .ok (.ireturn, 1) := by decide +kernel
theorem dX0_growth_71 : decode cX0_growth 71 = .ok (.aload_n 0, 1) := by decide +kernel
theorem dX0_growth_72 : decode cX0_growth 72 = .ok (.iload_n 2, 1) := by decide +kernel
theorem dX0_growth_73 : decode cX0_growth 73 = .ok (.iload_n 1, 1) := by decide +kernel
theorem dX0_growth_74 : decode cX0_growth 74 = .ok (.invokevirtual 46, 3) := by decide +kernel
theorem dX0_growth_77 : decode cX0_growth 77 = .ok (.bipush 9, 2) := by decide +kernel
theorem dX0_growth_79 : decode cX0_growth 79 = .ok (.if_icmp .lt 7, 3) := by decide +kernel
theorem dX0_growth_82 : decode cX0_growth 82 = .ok (.iconst 0, 1) := by decide +kernel
theorem dX0_growth_83 : decode cX0_growth 83 = .ok (.goto 7, 3) := by decide +kernel
theorem dX0_growth_86 : decode cX0_growth 86 = .ok (.aload_n 0, 1) := by decide +kernel
theorem dX0_growth_87 : decode cX0_growth 87 = .ok (.invokevirtual 71, 3) := by decide +kernel
theorem dX0_growth_90 : decode cX0_growth 90 = .ok (.ireturn, 1) := by decide +kernel
theorem dX0_growth_91 : decode cX0_growth 91 = .ok (.iconst 1, 1) := by decide +kernel
theorem dX0_growth_92 : decode cX0_growth 92 = .ok (.ireturn, 1) := by decide +kernel
theorem dX0_curiosity_0 : decode cX0_curiosity 0 = .ok (.aload_n 0, 1) := by decide +kernel
theorem dX0_curiosity_1 : decode cX0_curiosity 1 = .ok (.iload_n 1, 1) := by decide +kernel
theorem dX0_curiosity_2 : decode cX0_curiosity 2 = .ok (.invokevirtual 62, 3) := by decide +kernel
theorem dX0_curiosity_5 : decode cX0_curiosity 5 = .ok (.invokestatic 75, 3) := by decide +kernel
theorem dX0_curiosity_8 : decode cX0_curiosity 8 = .ok (.ireturn, 1) := by decide +kernel
theorem dX0_warmth_0 : decode cX0_warmth 0 = .ok (.aload_n 0, 1) := by decide +kernel
theorem dX0_warmth_1 : decode cX0_warmth 1 = .ok (.getfield 80, 3) := by decide +kernel
theorem dX0_warmth_4 : decode cX0_warmth 4 = .ok (.iconst 2, 1) := by decide +kernel
theorem dX0_warmth_5 : decode cX0_warmth 5 = .ok (.irem, 1) := by decide +kernel
theorem dX0_warmth_6 : decode cX0_warmth 6 = .ok (.ifCond .ne 7, 3) := by decide +kernel
theorem dX0_warmth_9 : decode cX0_warmth 9 = .ok (.iconst 1, 1) := by decide +kernel
theorem dX0_warmth_10 : decode cX0_warmth 10 = .ok (.goto 4, 3) := by decide +kernel
theorem dX0_warmth_13 : decode cX0_warmth 13 = .ok (.iconst 0, 1) := by decide +kernel
theorem dX0_warmth_14 : decode cX0_warmth 14 = .ok (.ireturn, 1) := by decide +kernel
theorem dX0_passDays_0 : decode cX0_passDays 0 = .ok (.iconst 0, 1) := by decide +kernel
theorem dX0_passDays_1 : decode cX0_passDays 1 = .ok (.istore_n 2, 1) := by decide +kernel
theorem dX0_passDays_2 : decode cX0_passDays 2 = .ok (.iload_n 2, 1) := by decide +kernel
theorem dX0_passDays_3 : decode cX0_passDays 3 = .ok (.iload_n 1, 1) := by decide +kernel
theorem dX0_passDays_4 : decode cX0_passDays 4 = .ok (.if_icmp .ge 13, 3) := by decide +kernel
theorem dX0_passDays_7 : decode cX0_passDays 7 = .ok (.aload_n 0, 1) := by decide +kernel
theorem dX0_passDays_8 : decode cX0_passDays 8 = .ok (.invokevirtual 83, 3) := by decide +kernel
theorem dX0_passDays_11 : decode cX0_passDays 11 = .ok (.iinc 2 1, 3) := by decide +kernel
theorem dX0_passDays_14 : decode cX0_passDays 14 = .ok (.goto (-12), 3) := by decide +kernel
theorem dX0_passDays_17 : decode cX0_passDays 17 = .ok (.return_, 1) := by decide +kernel
theorem dX0_passDay_0 : decode cX0_passDay 0 = .ok (.iconst 0, 1) := by decide +kernel
theorem dX0_passDay_1 : decode cX0_passDay 1 = .ok (.istore_n 1, 1) := by decide +kernel
theorem dX0_passDay_2 : decode cX0_passDay 2 = .ok (.iload_n 1, 1) := by decide +kernel
theorem dX0_passDay_3 : decode cX0_passDay 3 = .ok (.iconst 4, 1) := by decide +kernel
theorem dX0_passDay_4 : decode cX0_passDay 4 = .ok (.if_icmp .ge 36, 3) := by decide +kernel
theorem dX0_passDay_7 : decode cX0_passDay 7 = .ok (.aload_n 0, 1) := by decide +kernel
theorem dX0_passDay_8 : decode cX0_passDay 8 = .ok (.getfield 59, 3) := by decide +kernel
theorem dX0_passDay_11 : decode cX0_passDay 11 = .ok (.iload_n 1, 1) := by decide +kernel
theorem dX0_passDay_12 : decode cX0_passDay 12 = .ok (.iaload, 1) := by decide +kernel
theorem dX0_passDay_13 : decode cX0_passDay 13 = .ok (.bipush (-4), 2) := by decide +kernel
theorem dX0_passDay_15 : decode cX0_passDay 15 = .ok (.if_icmp .eq 19, 3) := by decide +kernel
theorem dX0_passDay_18 : decode cX0_passDay 18 = .ok (.aload_n 0, 1) := by decide +kernel
theorem dX0_passDay_19 : decode cX0_passDay 19 = .ok (.aload_n 0, 1) := by decide +kernel
theorem dX0_passDay_20 : decode cX0_passDay 20 = .ok (.getfield 59, 3) := by decide +kernel
theorem dX0_passDay_23 : decode cX0_passDay 23 = .ok (.iload_n 1, 1) := by decide +kernel
theorem dX0_passDay_24 : decode cX0_passDay 24 = .ok (.iaload, 1) := by decide +kernel
theorem dX0_passDay_25 : decode cX0_passDay 25 = .ok (.iload_n 1, 1) := by decide +kernel
theorem dX0_passDay_26 : decode cX0_passDay 26 = .ok (.aload_n 0, 1) := by decide +kernel
theorem dX0_passDay_27 : decode cX0_passDay 27 = .ok (.iload_n 1, 1) := by decide +kernel
theorem dX0_passDay_28 : decode cX0_passDay 28 = .ok (.invokevirtual 86, 3) := by decide +kernel
theorem dX0_passDay_31 : decode cX0_passDay 31 = .ok (.invokevirtual 89, 3) := by decide +kernel
theorem dX0_passDay_34 : decode cX0_passDay 34 = .ok (.iinc 1 1, 3) := by decide +kernel
theorem dX0_passDay_37 : decode cX0_passDay 37 = .ok (.goto (-35), 3) := by decide +kernel
theorem dX0_passDay_40 : decode cX0_passDay 40 = .ok (.aload_n 0, 1) := by decide +kernel
theorem dX0_passDay_41 : decode cX0_passDay 41 = .ok (.iconst 0, 1) := by decide +kernel
theorem dX0_passDay_42 : decode cX0_passDay 42 = .ok (.putfield 22, 3) := by decide +kernel
theorem dX0_passDay_45 : decode cX0_passDay 45 = .ok (.iconst 0, 1) := by decide +kernel
theorem dX0_passDay_46 : decode cX0_passDay 46 = .ok (.istore_n 1, 1) := by decide +kernel
theorem dX0_passDay_47 : decode cX0_passDay 47 = .ok (.iload_n 1, 1) := by decide +kernel
theorem dX0_passDay_48 : decode cX0_passDay 48 = .ok (.iconst 4, 1) := by decide +kernel
theorem dX0_passDay_49 : decode cX0_passDay 49 = .ok (.if_icmp .ge 25, 3) := by decide +kernel
theorem dX0_passDay_52 : decode cX0_passDay 52 = .ok (.aload_n 0, 1) := by decide +kernel
theorem dX0_passDay_53 : decode cX0_passDay 53 = .ok (.getfield 59, 3) := by decide +kernel
theorem dX0_passDay_56 : decode cX0_passDay 56 = .ok (.iload_n 1, 1) := by decide +kernel
theorem dX0_passDay_57 : decode cX0_passDay 57 = .ok (.iaload, 1) := by decide +kernel
theorem dX0_passDay_58 : decode cX0_passDay 58 = .ok (.bipush (-4), 2) := by decide +kernel
theorem dX0_passDay_60 : decode cX0_passDay 60 = .ok (.if_icmp .eq 8, 3) := by decide +kernel
theorem dX0_passDay_63 : decode cX0_passDay 63 = .ok (.aload_n 0, 1) := by decide +kernel
theorem dX0_passDay_64 : decode cX0_passDay 64 = .ok (.iload_n 1, 1) := by decide +kernel
theorem dX0_passDay_65 : decode cX0_passDay 65 = .ok (.invokevirtual 92, 3) := by decide +kernel
theorem dX0_passDay_68 : decode cX0_passDay 68 = .ok (.iinc 1 1, 3) := by decide +kernel
theorem dX0_passDay_71 : decode cX0_passDay 71 = .ok (.goto (-24), 3) := by decide +kernel
theorem dX0_passDay_74 : decode cX0_passDay 74 = .ok (.aload_n 0, 1) := by decide +kernel
theorem dX0_passDay_75 : decode cX0_passDay 75 = .ok (.dup, 1) := by decide +kernel
theorem dX0_passDay_76 : decode cX0_passDay 76 = .ok (.getfield 80, 3) := by decide +kernel
theorem dX0_passDay_79 : decode cX0_passDay 79 = .ok (.iconst 1, 1) := by decide +kernel
theorem dX0_passDay_80 : decode cX0_passDay 80 = .ok (.iadd, 1) := by decide +kernel
theorem dX0_passDay_81 : decode cX0_passDay 81 = .ok (.putfield 80, 3) := by decide +kernel
theorem dX0_passDay_84 : decode cX0_passDay 84 = .ok (.return_, 1) := by decide +kernel
theorem dX0_testKeeper_0 : decode cX0_testKeeper 0 = .ok (.aload_n 0, 1) := by decide +kernel
theorem dX0_testKeeper_1 : decode cX0_testKeeper 1 = .ok (.getfield 59, 3) := by decide +kernel
theorem dX0_testKeeper_4 : decode cX0_testKeeper 4 = .ok (.iload_n 1, 1) := by decide +kernel
theorem dX0_testKeeper_5 : decode cX0_testKeeper 5 = .ok (.iaload, 1) := by decide +kernel
theorem dX0_testKeeper_6 : decode cX0_testKeeper 6 = .ok (.istore_n 2, 1) := by decide +kernel
theorem dX0_testKeeper_7 : decode cX0_testKeeper 7 = .ok (.aload_n 0, 1) := by decide +kernel
theorem dX0_testKeeper_8 : decode cX0_testKeeper 8 = .ok (.iload_n 2, 1) := by decide +kernel
theorem dX0_testKeeper_9 : decode cX0_testKeeper 9 = .ok (.iload_n 1, 1) := by decide +kernel
theorem dX0_testKeeper_10 : decode cX0_testKeeper 10 = .ok (.invokevirtual 46, 3) := by decide +kernel
theorem dX0_testKeeper_13 : decode cX0_testKeeper 13 = .ok (.istore_n 3, 1) := by decide +kernel
theorem dX0_testKeeper_14 : decode cX0_testKeeper 14 = .ok (.iload_n 3, 1) := by decide +kernel
theorem dX0_testKeeper_15 : decode cX0_testKeeper 15 = .ok (.aload_n 0, 1) := by decide +kernel
theorem dX0_testKeeper_16 : decode cX0_testKeeper 16 = .ok (.getfield 19, 3) := by decide +kernel
theorem dX0_testKeeper_19 : decode cX0_testKeeper 19 = .ok (.iconst 4, 1) := by decide +kernel
theorem dX0_testKeeper_20 : decode cX0_testKeeper 20 = .ok (.iadd, 1) := by decide +kernel
theorem dX0_testKeeper_21 : decode cX0_testKeeper 21 = .ok (.if_icmp .lt 35, 3) := by decide +kernel
theorem dX0_testKeeper_24 : decode cX0_testKeeper 24 = .ok (.aload_n 0, 1) := by decide +kernel
theorem dX0_testKeeper_25 : decode cX0_testKeeper 25 = .ok (.dup, 1) := by decide +kernel
theorem dX0_testKeeper_26 : decode cX0_testKeeper 26 = .ok (.getfield 96, 3) := by decide +kernel
theorem dX0_testKeeper_29 : decode cX0_testKeeper 29 = .ok (.iconst 1, 1) := by decide +kernel
theorem dX0_testKeeper_30 : decode cX0_testKeeper 30 = .ok (.iadd, 1) := by decide +kernel
theorem dX0_testKeeper_31 : decode cX0_testKeeper 31 = .ok (.putfield 96, 3) := by decide +kernel
theorem dX0_testKeeper_34 : decode cX0_testKeeper 34 = .ok (.aload_n 0, 1) := by decide +kernel
theorem dX0_testKeeper_35 : decode cX0_testKeeper 35 = .ok (.dup, 1) := by decide +kernel
theorem dX0_testKeeper_36 : decode cX0_testKeeper 36 = .ok (.getfield 22, 3) := by decide +kernel
theorem dX0_testKeeper_39 : decode cX0_testKeeper 39 = .ok (.iconst 1, 1) := by decide +kernel
theorem dX0_testKeeper_40 : decode cX0_testKeeper 40 = .ok (.iload_n 1, 1) := by decide +kernel
theorem dX0_testKeeper_41 : decode cX0_testKeeper 41 = .ok (.ishl, 1) := by decide +kernel
theorem dX0_testKeeper_42 : decode cX0_testKeeper 42 = .ok (.ior, 1) := by decide +kernel
theorem dX0_testKeeper_43 : decode cX0_testKeeper 43 = .ok (.putfield 22, 3) := by decide +kernel
theorem dX0_testKeeper_46 : decode cX0_testKeeper 46 = .ok (.aload_n 0, 1) := by decide +kernel
theorem dX0_testKeeper_47 : decode cX0_testKeeper 47 = .ok (.iload_n 2, 1) := by decide +kernel
theorem dX0_testKeeper_48 : decode cX0_testKeeper 48 = .ok (.iload_n 1, 1) := by decide +kernel
theorem dX0_testKeeper_49 : decode cX0_testKeeper 49 = .ok (.iconst 0, 1) := by decide +kernel
theorem dX0_testKeeper_50 : decode cX0_testKeeper 50 = .ok (.invokevirtual 39, 3) := by decide +kernel
theorem dX0_testKeeper_53 : decode cX0_testKeeper 53 = .ok (.goto 22, 3) := by decide +kernel
theorem dX0_testKeeper_56 : decode cX0_testKeeper 56 = .ok (.iload_n 3, 1) := by decide +kernel
theorem dX0_testKeeper_57 : decode cX0_testKeeper 57 = .ok (.aload_n 0, 1) := by decide +kernel
theorem dX0_testKeeper_58 : decode cX0_testKeeper 58 = .ok (.getfield 19, 3) := by decide +kernel
theorem dX0_testKeeper_61 : decode cX0_testKeeper 61 = .ok (.if_icmp .lt 14, 3) := by decide +kernel
theorem dX0_testKeeper_64 : decode cX0_testKeeper 64 = .ok (.aload_n 0, 1) := by decide +kernel
theorem dX0_testKeeper_65 : decode cX0_testKeeper 65 = .ok (.getfield 59, 3) := by decide +kernel
theorem dX0_testKeeper_68 : decode cX0_testKeeper 68 = .ok (.iload_n 1, 1) := by decide +kernel
theorem dX0_testKeeper_69 : decode cX0_testKeeper 69 = .ok (.aload_n 0, 1) := by decide +kernel
theorem dX0_testKeeper_70 : decode cX0_testKeeper 70 = .ok (.iload_n 1, 1) := by decide +kernel
theorem dX0_testKeeper_71 : decode cX0_testKeeper 71 = .ok (.invokevirtual 99, 3) := by decide +kernel
theorem dX0_testKeeper_74 : decode cX0_testKeeper 74 = .ok (.iastore, 1) := by decide +kernel
theorem dX0_testKeeper_75 : decode cX0_testKeeper 75 = .ok (.return_, 1) := by decide +kernel
theorem dX0_wasGone_0 : decode cX0_wasGone 0 = .ok (.aload_n 0, 1) := by decide +kernel
theorem dX0_wasGone_1 : decode cX0_wasGone 1 = .ok (.getfield 22, 3) := by decide +kernel
theorem dX0_wasGone_4 : decode cX0_wasGone 4 = .ok (.iload_n 1, 1) := by decide +kernel
theorem dX0_wasGone_5 : decode cX0_wasGone 5 = .ok (.ishr, 1) := by decide +kernel
theorem dX0_wasGone_6 : decode cX0_wasGone 6 = .ok (.iconst 1, 1) := by decide +kernel
theorem dX0_wasGone_7 : decode cX0_wasGone 7 = .ok (.iand, 1) := by decide +kernel
theorem dX0_wasGone_8 : decode cX0_wasGone 8 = .ok (.ifCond .eq 7, 3) := by decide +kernel
theorem dX0_wasGone_11 : decode cX0_wasGone 11 = .ok (.iconst 1, 1) := by decide +kernel
theorem dX0_wasGone_12 : decode cX0_wasGone 12 = .ok (.goto 4, 3) := by decide +kernel
theorem dX0_wasGone_15 : decode cX0_wasGone 15 = .ok (.iconst 0, 1) := by decide +kernel
theorem dX0_wasGone_16 : decode cX0_wasGone 16 = .ok (.ireturn, 1) := by decide +kernel
theorem dX0_firstGone_0 : decode cX0_firstGone 0 = .ok (.iconst 1, 1) := by decide +kernel
theorem dX0_firstGone_1 : decode cX0_firstGone 1 = .ok (.istore_n 3, 1) := by decide +kernel
theorem dX0_firstGone_2 : decode cX0_firstGone 2 = .ok (.iload_n 3, 1) := by decide +kernel
theorem dX0_firstGone_3 : decode cX0_firstGone 3 = .ok (.iload_n 2, 1) := by decide +kernel
theorem dX0_firstGone_4 : decode cX0_firstGone 4 = .ok (.if_icmp .gt 23, 3) := by decide +kernel
theorem dX0_firstGone_7 : decode cX0_firstGone 7 = .ok (.aload_n 0, 1) := by decide +kernel
theorem dX0_firstGone_8 : decode cX0_firstGone 8 = .ok (.invokevirtual 83, 3) := by decide +kernel
theorem dX0_firstGone_11 : decode cX0_firstGone 11 = .ok (.aload_n 0, 1) := by decide +kernel
theorem dX0_firstGone_12 : decode cX0_firstGone 12 = .ok (.iload_n 1, 1) := by decide +kernel
theorem dX0_firstGone_13 : decode cX0_firstGone 13 = .ok (.invokevirtual 102, 3) := by decide +kernel
theorem dX0_firstGone_16 : decode cX0_firstGone 16 = .ok (.ifCond .eq 5, 3) := by decide +kernel
theorem dX0_firstGone_19 : decode cX0_firstGone 19 = .ok (.iload_n 3, 1) := by decide +kernel
theorem dX0_firstGone_20 : decode cX0_firstGone 20 = .ok (.ireturn, 1) := by decide +kernel
theorem dX0_firstGone_21 : decode cX0_firstGone 21 = .ok (.iinc 3 1, 3) := by decide +kernel
theorem dX0_firstGone_24 : decode cX0_firstGone 24 = .ok (.goto (-22), 3) := by decide +kernel
theorem dX0_firstGone_27 : decode cX0_firstGone 27 = .ok (.bipush (-4), 2) := by decide +kernel
theorem dX0_firstGone_29 : decode cX0_firstGone 29 = .ok (.ireturn, 1) := by decide +kernel
theorem dX0_drawTalk_0 : decode cX0_drawTalk 0 = .ok (.aload_n 0, 1) := by decide +kernel
theorem dX0_drawTalk_1 : decode cX0_drawTalk 1 = .ok (.aload_n 0, 1) := by decide +kernel
theorem dX0_drawTalk_2 : decode cX0_drawTalk 2 = .ok (.getfield 106, 3) := by decide +kernel
theorem dX0_drawTalk_5 : decode cX0_drawTalk 5 = .ok (.i2l, 1) := by decide +kernel
theorem dX0_drawTalk_6 : decode cX0_drawTalk 6 = .ok (.ldc2_w 109, 3) := by decide +kernel
theorem dX0_drawTalk_9 : decode cX0_drawTalk 9 = .ok (.lmul, 1) := by decide +kernel
theorem dX0_drawTalk_10 : decode cX0_drawTalk 10 = .ok (.ldc2_w 111, 3) := by decide +kernel
theorem dX0_drawTalk_13 : decode cX0_drawTalk 13 = .ok (.ladd, 1) := by decide +kernel
theorem dX0_drawTalk_14 : decode cX0_drawTalk 14 = .ok (.ldc2_w 113, 3) := by decide +kernel
theorem dX0_drawTalk_17 : decode cX0_drawTalk 17 = .ok (.land, 1) := by decide +kernel
theorem dX0_drawTalk_18 : decode cX0_drawTalk 18 = .ok (.l2i, 1) := by decide +kernel
theorem dX0_drawTalk_19 : decode cX0_drawTalk 19 = .ok (.putfield 106, 3) := by decide +kernel
theorem dX0_drawTalk_22 : decode cX0_drawTalk 22 = .ok (.aload_n 0, 1) := by decide +kernel
theorem dX0_drawTalk_23 : decode cX0_drawTalk 23 = .ok (.getfield 15, 3) := by decide +kernel
theorem dX0_drawTalk_26 : decode cX0_drawTalk 26 = .ok (.ifCond .le 39, 3) := by decide +kernel
theorem dX0_drawTalk_29 : decode cX0_drawTalk 29 = .ok (.aload_n 0, 1) := by decide +kernel
theorem dX0_drawTalk_30 : decode cX0_drawTalk 30 = .ok (.aload_n 0, 1) := by decide +kernel
theorem dX0_drawTalk_31 : decode cX0_drawTalk 31 = .ok (.getfield 106, 3) := by decide +kernel
theorem dX0_drawTalk_34 : decode cX0_drawTalk 34 = .ok (.ldc 115, 2) := by decide +kernel
theorem dX0_drawTalk_36 : decode cX0_drawTalk 36 = .ok (.idiv, 1) := by decide +kernel
theorem dX0_drawTalk_37 : decode cX0_drawTalk 37 = .ok (.aload_n 0, 1) := by decide +kernel
theorem dX0_drawTalk_38 : decode cX0_drawTalk 38 = .ok (.getfield 15, 3) := by decide +kernel
theorem dX0_drawTalk_41 : decode cX0_drawTalk 41 = .ok (.irem, 1) := by decide +kernel
theorem dX0_drawTalk_42 : decode cX0_drawTalk 42 = .ok (.aload_n 0, 1) := by decide +kernel
theorem dX0_drawTalk_43 : decode cX0_drawTalk 43 = .ok (.getfield 106, 3) := by decide +kernel
theorem dX0_drawTalk_46 : decode cX0_drawTalk 46 = .ok (.sipush 256, 3) := by decide +kernel
theorem dX0_drawTalk_49 : decode cX0_drawTalk 49 = .ok (.idiv, 1) := by decide +kernel
theorem dX0_drawTalk_50 : decode cX0_drawTalk 50 = .ok (.iconst 4, 1) := by decide +kernel
theorem dX0_drawTalk_51 : decode cX0_drawTalk 51 = .ok (.irem, 1) := by decide +kernel
theorem dX0_drawTalk_52 : decode cX0_drawTalk 52 = .ok (.aload_n 0, 1) := by decide +kernel
theorem dX0_drawTalk_53 : decode cX0_drawTalk 53 = .ok (.getfield 106, 3) := by decide +kernel
theorem dX0_drawTalk_56 : decode cX0_drawTalk 56 = .ok (.sipush 1024, 3) := by decide +kernel
theorem dX0_drawTalk_59 : decode cX0_drawTalk 59 = .ok (.idiv, 1) := by decide +kernel
theorem dX0_drawTalk_60 : decode cX0_drawTalk 60 = .ok (.iconst 4, 1) := by decide +kernel
theorem dX0_drawTalk_61 : decode cX0_drawTalk 61 = .ok (.irem, 1) := by decide +kernel
theorem dX0_drawTalk_62 : decode cX0_drawTalk 62 = .ok (.invokevirtual 89, 3) := by decide +kernel
theorem dX0_drawTalk_65 : decode cX0_drawTalk 65 = .ok (.return_, 1) := by decide +kernel
theorem dX1_init_0 : decode cX1_init 0 = .ok (.aload_n 0, 1) := by decide +kernel
theorem dX1_init_1 : decode cX1_init 1 = .ok (.invokespecial 3, 3) := by decide +kernel
theorem dX1_init_4 : decode cX1_init 4 = .ok (.aload_n 0, 1) := by decide +kernel
theorem dX1_init_5 : decode cX1_init 5 = .ok (.bipush 20, 2) := by decide +kernel
theorem dX1_init_7 : decode cX1_init 7 = .ok (.newarray .int, 2) := by decide +kernel
theorem dX1_init_9 : decode cX1_init 9 = .ok (.putfield 9, 3) := by decide +kernel
theorem dX1_init_12 : decode cX1_init 12 = .ok (.aload_n 0, 1) := by decide +kernel
theorem dX1_init_13 : decode cX1_init 13 = .ok (.iconst 4, 1) := by decide +kernel
theorem dX1_init_14 : decode cX1_init 14 = .ok (.newarray .int, 2) := by decide +kernel
theorem dX1_init_16 : decode cX1_init 16 = .ok (.dup, 1) := by decide +kernel
theorem dX1_init_17 : decode cX1_init 17 = .ok (.iconst 0, 1) := by decide +kernel
theorem dX1_init_18 : decode cX1_init 18 = .ok (.bipush (-4), 2) := by decide +kernel
theorem dX1_init_20 : decode cX1_init 20 = .ok (.iastore, 1) := by decide +kernel
theorem dX1_init_21 : decode cX1_init 21 = .ok (.dup, 1) := by decide +kernel
theorem dX1_init_22 : decode cX1_init 22 = .ok (.iconst 1, 1) := by decide +kernel
theorem dX1_init_23 : decode cX1_init 23 = .ok (.bipush (-4), 2) := by decide +kernel
theorem dX1_init_25 : decode cX1_init 25 = .ok (.iastore, 1) := by decide +kernel
theorem dX1_init_26 : decode cX1_init 26 = .ok (.dup, 1) := by decide +kernel
theorem dX1_init_27 : decode cX1_init 27 = .ok (.iconst 2, 1) := by decide +kernel
theorem dX1_init_28 : decode cX1_init 28 = .ok (.bipush (-4), 2) := by decide +kernel
theorem dX1_init_30 : decode cX1_init 30 = .ok (.iastore, 1) := by decide +kernel
theorem dX1_init_31 : decode cX1_init 31 = .ok (.dup, 1) := by decide +kernel
theorem dX1_init_32 : decode cX1_init 32 = .ok (.iconst 3, 1) := by decide +kernel
theorem dX1_init_33 : decode cX1_init 33 = .ok (.bipush (-4), 2) := by decide +kernel
theorem dX1_init_35 : decode cX1_init 35 = .ok (.iastore, 1) := by decide +kernel
theorem dX1_init_36 : decode cX1_init 36 = .ok (.putfield 15, 3) := by decide +kernel
theorem dX1_init_39 : decode cX1_init 39 = .ok (.aload_n 0, 1) := by decide +kernel
theorem dX1_init_40 : decode cX1_init 40 = .ok (.iconst 0, 1) := by decide +kernel
theorem dX1_init_41 : decode cX1_init 41 = .ok (.putfield 18, 3) := by decide +kernel
theorem dX1_init_44 : decode cX1_init 44 = .ok (.aload_n 0, 1) := by decide +kernel
theorem dX1_init_45 : decode cX1_init 45 = .ok (.iconst 0, 1) := by decide +kernel
theorem dX1_init_46 : decode cX1_init 46 = .ok (.putfield 22, 3) := by decide +kernel
theorem dX1_init_49 : decode cX1_init 49 = .ok (.aload_n 0, 1) := by decide +kernel
theorem dX1_init_50 : decode cX1_init 50 = .ok (.iconst 1, 1) := by decide +kernel
theorem dX1_init_51 : decode cX1_init 51 = .ok (.putfield 25, 3) := by decide +kernel
theorem dX1_init_54 : decode cX1_init 54 = .ok (.return_, 1) := by decide +kernel
theorem dX1_recall_0 : decode cX1_recall 0 = .ok (.aload_n 1, 1) := by decide +kernel
theorem dX1_recall_1 : decode cX1_recall 1 = .ok (.getfield 9, 3) := by decide +kernel
theorem dX1_recall_4 : decode cX1_recall 4 = .ok (.iconst 0, 1) := by decide +kernel
theorem dX1_recall_5 : decode cX1_recall 5 = .ok (.aload_n 0, 1) := by decide +kernel
theorem dX1_recall_6 : decode cX1_recall 6 = .ok (.getfield 9, 3) := by decide +kernel
theorem dX1_recall_9 : decode cX1_recall 9 = .ok (.iconst 0, 1) := by decide +kernel
theorem dX1_recall_10 : decode cX1_recall 10 = .ok (.aload_n 0, 1) := by decide +kernel
theorem dX1_recall_11 : decode cX1_recall 11 = .ok (.getfield 9, 3) := by decide +kernel
theorem dX1_recall_14 : decode cX1_recall 14 = .ok (.arraylength, 1) := by decide +kernel
theorem dX1_recall_15 : decode cX1_recall 15 = .ok (.invokestatic 28, 3) := by decide +kernel
theorem dX1_recall_18 : decode cX1_recall 18 = .ok (.aload_n 1, 1) := by decide +kernel
theorem dX1_recall_19 : decode cX1_recall 19 = .ok (.getfield 15, 3) := by decide +kernel
theorem dX1_recall_22 : decode cX1_recall 22 = .ok (.iconst 0, 1) := by decide +kernel
theorem dX1_recall_23 : decode cX1_recall 23 = .ok (.aload_n 0, 1) := by decide +kernel
theorem dX1_recall_24 : decode cX1_recall 24 = .ok (.getfield 15, 3) := by decide +kernel
theorem dX1_recall_27 : decode cX1_recall 27 = .ok (.iconst 0, 1) := by decide +kernel
theorem dX1_recall_28 : decode cX1_recall 28 = .ok (.iconst 4, 1) := by decide +kernel
theorem dX1_recall_29 : decode cX1_recall 29 = .ok (.invokestatic 28, 3) := by decide +kernel
theorem dX1_recall_32 : decode cX1_recall 32 = .ok (.aload_n 0, 1) := by decide +kernel
theorem dX1_recall_33 : decode cX1_recall 33 = .ok (.aload_n 1, 1) := by decide +kernel
theorem dX1_recall_34 : decode cX1_recall 34 = .ok (.getfield 18, 3) := by decide +kernel
theorem dX1_recall_37 : decode cX1_recall 37 = .ok (.putfield 18, 3) := by decide +kernel
theorem dX1_recall_40 : decode cX1_recall 40 = .ok (.aload_n 0, 1) := by decide +kernel
theorem dX1_recall_41 : decode cX1_recall 41 = .ok (.aload_n 1, 1) := by decide +kernel
theorem dX1_recall_42 : decode cX1_recall 42 = .ok (.getfield 22, 3) := by decide +kernel
theorem dX1_recall_45 : decode cX1_recall 45 = .ok (.putfield 22, 3) := by decide +kernel
theorem dX1_recall_48 : decode cX1_recall 48 = .ok (.aload_n 0, 1) := by decide +kernel
theorem dX1_recall_49 : decode cX1_recall 49 = .ok (.aload_n 1, 1) := by decide +kernel
theorem dX1_recall_50 : decode cX1_recall 50 = .ok (.getfield 25, 3) := by decide +kernel
theorem dX1_recall_53 : decode cX1_recall 53 = .ok (.putfield 25, 3) := by decide +kernel
theorem dX1_recall_56 : decode cX1_recall 56 = .ok (.return_, 1) := by decide +kernel
theorem dX2_init_0 : decode cX2_init 0 = .ok (.aload_n 0, 1) := by decide +kernel
theorem dX2_init_1 : decode cX2_init 1 = .ok (.invokespecial 3, 3) := by decide +kernel
theorem dX2_init_4 : decode cX2_init 4 = .ok (.aload_n 0, 1) := by decide +kernel
theorem dX2_init_5 : decode cX2_init 5 = .ok (.bipush 8, 2) := by decide +kernel
theorem dX2_init_7 : decode cX2_init 7 = .ok (.anewarray 9, 3) := by decide +kernel
theorem dX2_init_10 : decode cX2_init 10 = .ok (.putfield 11, 3) := by decide +kernel
theorem dX2_init_13 : decode cX2_init 13 = .ok (.aload_n 0, 1) := by decide +kernel
theorem dX2_init_14 : decode cX2_init 14 = .ok (.iconst 0, 1) := by decide +kernel
theorem dX2_init_15 : decode cX2_init 15 = .ok (.putfield 17, 3) := by decide +kernel
theorem dX2_init_18 : decode cX2_init 18 = .ok (.iconst 0, 1) := by decide +kernel
theorem dX2_init_19 : decode cX2_init 19 = .ok (.istore_n 1, 1) := by decide +kernel
theorem dX2_init_20 : decode cX2_init 20 = .ok (.iload_n 1, 1) := by decide +kernel
theorem dX2_init_21 : decode cX2_init 21 = .ok (.bipush 8, 2) := by decide +kernel
theorem dX2_init_23 : decode cX2_init 23 = .ok (.if_icmp .ge 22, 3) := by decide +kernel
theorem dX2_init_26 : decode cX2_init 26 = .ok (.aload_n 0, 1) := by decide +kernel
theorem dX2_init_27 : decode cX2_init 27 = .ok (.getfield 11, 3) := by decide +kernel
theorem dX2_init_30 : decode cX2_init 30 = .ok (.iload_n 1, 1) := by decide +kernel
theorem dX2_init_31 : decode cX2_init 31 = .ok (.new 9, 3) := by decide +kernel
theorem dX2_init_34 : decode cX2_init 34 = .ok (.dup, 1) := by decide +kernel
theorem dX2_init_35 : decode cX2_init 35 = .ok (.invokespecial 21, 3) := by decide +kernel
theorem dX2_init_38 : decode cX2_init 38 = .ok (.aastore, 1) := by decide +kernel
theorem dX2_init_39 : decode cX2_init 39 = .ok (.iinc 1 1, 3) := by decide +kernel
theorem dX2_init_42 : decode cX2_init 42 = .ok (.goto (-22), 3) := by decide +kernel
theorem dX2_init_45 : decode cX2_init 45 = .ok (.return_, 1) := by decide +kernel
theorem dX2_remember_0 : decode cX2_remember 0 = .ok (.aload_n 0, 1) := by decide +kernel
theorem dX2_remember_1 : decode cX2_remember 1 = .ok (.getfield 17, 3) := by decide +kernel
theorem dX2_remember_4 : decode cX2_remember 4 = .ok (.bipush 8, 2) := by decide +kernel
theorem dX2_remember_6 : decode cX2_remember 6 = .ok (.if_icmp .ne 7, 3) := by decide +kernel
theorem dX2_remember_9 : decode cX2_remember 9 = .ok (.aload_n 0, 1) := by decide +kernel
theorem dX2_remember_10 : decode cX2_remember 10 = .ok (.invokevirtual 22, 3) := by decide +kernel
theorem dX2_remember_13 : decode cX2_remember 13 = .ok (.aload_n 0, 1) := by decide +kernel
theorem dX2_remember_14 : decode cX2_remember 14 = .ok (.getfield 11, 3) := by decide +kernel
theorem dX2_remember_17 : decode cX2_remember 17 = .ok (.aload_n 0, 1) := by decide +kernel
theorem dX2_remember_18 : decode cX2_remember 18 = .ok (.getfield 17, 3) := by decide +kernel
theorem dX2_remember_21 : decode cX2_remember 21 = .ok (.aaload, 1) := by decide +kernel
theorem dX2_remember_22 : decode cX2_remember 22 = .ok (.aload_n 1, 1) := by decide +kernel
theorem dX2_remember_23 : decode cX2_remember 23 = .ok (.invokevirtual 25, 3) := by decide +kernel
theorem dX2_remember_26 : decode cX2_remember 26 = .ok (.aload_n 0, 1) := by decide +kernel
theorem dX2_remember_27 : decode cX2_remember 27 = .ok (.dup, 1) := by decide +kernel
theorem dX2_remember_28 : decode cX2_remember 28 = .ok (.getfield 17, 3) := by decide +kernel
theorem dX2_remember_31 : decode cX2_remember 31 = .ok (.iconst 1, 1) := by decide +kernel
theorem dX2_remember_32 : decode cX2_remember 32 = .ok (.iadd, 1) := by decide +kernel
theorem dX2_remember_33 : decode cX2_remember 33 = .ok (.putfield 17, 3) := by decide +kernel
theorem dX2_remember_36 : decode cX2_remember 36 = .ok (.return_, 1) := by decide +kernel
theorem dX2_loseOldest_0 : decode cX2_loseOldest 0 = .ok (.aload_n 0, 1) := by decide +kernel
theorem dX2_loseOldest_1 : decode cX2_loseOldest 1 = .ok (.getfield 11, 3) := by decide +kernel
theorem dX2_loseOldest_4 : decode cX2_loseOldest 4 = .ok (.iconst 0, 1) := by decide +kernel
theorem dX2_loseOldest_5 : decode cX2_loseOldest 5 = .ok (.aaload, 1) := by decide +kernel
theorem dX2_loseOldest_6 : decode cX2_loseOldest 6 = .ok (.astore_n 1, 1) := by decide +kernel
theorem dX2_loseOldest_7 : decode cX2_loseOldest 7 = .ok (.iconst 1, 1) := by decide +kernel
theorem dX2_loseOldest_8 : decode cX2_loseOldest 8 = .ok (.istore_n 2, 1) := by decide +kernel
theorem dX2_loseOldest_9 : decode cX2_loseOldest 9 = .ok (.iload_n 2, 1) := by decide +kernel
theorem dX2_loseOldest_10 : decode cX2_loseOldest 10 = .ok (.bipush 8, 2) := by decide +kernel
theorem dX2_loseOldest_12 : decode cX2_loseOldest 12 = .ok (.if_icmp .ge 23, 3) := by decide +kernel
theorem dX2_loseOldest_15 : decode cX2_loseOldest 15 = .ok (.aload_n 0, 1) := by decide +kernel
theorem dX2_loseOldest_16 : decode cX2_loseOldest 16 = .ok (.getfield 11, 3) := by decide +kernel
theorem dX2_loseOldest_19 : decode cX2_loseOldest 19 = .ok (.iload_n 2, 1) := by decide +kernel
theorem dX2_loseOldest_20 : decode cX2_loseOldest 20 = .ok (.iconst 1, 1) := by decide +kernel
theorem dX2_loseOldest_21 : decode cX2_loseOldest 21 = .ok (.isub, 1) := by decide +kernel
theorem dX2_loseOldest_22 : decode cX2_loseOldest 22 = .ok (.aload_n 0, 1) := by decide +kernel
theorem dX2_loseOldest_23 : decode cX2_loseOldest 23 = .ok (.getfield 11, 3) := by decide +kernel
theorem dX2_loseOldest_26 : decode cX2_loseOldest 26 = .ok (.iload_n 2, 1) := by decide +kernel
theorem dX2_loseOldest_27 : decode cX2_loseOldest 27 = .ok (.aaload, 1) := by decide +kernel
theorem dX2_loseOldest_28 : decode cX2_loseOldest 28 = .ok (.aastore, 1) := by decide +kernel
theorem dX2_loseOldest_29 : decode cX2_loseOldest 29 = .ok (.iinc 2 1, 3) := by decide +kernel
theorem dX2_loseOldest_32 : decode cX2_loseOldest 32 = .ok (.goto (-23), 3) := by decide +kernel
theorem dX2_loseOldest_35 : decode cX2_loseOldest 35 = .ok (.aload_n 0, 1) := by decide +kernel
theorem dX2_loseOldest_36 : decode cX2_loseOldest 36 = .ok (.getfield 11, 3) := by decide +kernel
theorem dX2_loseOldest_39 : decode cX2_loseOldest 39 = .ok (.bipush 7, 2) := by decide +kernel
theorem dX2_loseOldest_41 : decode cX2_loseOldest 41 = .ok (.aload_n 1, 1) := by decide +kernel
theorem dX2_loseOldest_42 : decode cX2_loseOldest 42 = .ok (.aastore, 1) := by decide +kernel
theorem dX2_loseOldest_43 : decode cX2_loseOldest 43 = .ok (.aload_n 0, 1) := by decide +kernel
theorem dX2_loseOldest_44 : decode cX2_loseOldest 44 = .ok (.bipush 7, 2) := by decide +kernel
theorem dX2_loseOldest_46 : decode cX2_loseOldest 46 = .ok (.putfield 17, 3) := by decide +kernel
theorem dX2_loseOldest_49 : decode cX2_loseOldest 49 = .ok (.return_, 1) := by decide +kernel
theorem dX2_recall_0 : decode cX2_recall 0 = .ok (.aload_n 0, 1) := by decide +kernel
theorem dX2_recall_1 : decode cX2_recall 1 = .ok (.dup, 1) := by decide +kernel
theorem dX2_recall_2 : decode cX2_recall 2 = .ok (.getfield 17, 3) := by decide +kernel
theorem dX2_recall_5 : decode cX2_recall 5 = .ok (.iconst 1, 1) := by decide +kernel
theorem dX2_recall_6 : decode cX2_recall 6 = .ok (.isub, 1) := by decide +kernel
theorem dX2_recall_7 : decode cX2_recall 7 = .ok (.putfield 17, 3) := by decide +kernel
theorem dX2_recall_10 : decode cX2_recall 10 = .ok (.aload_n 1, 1) := by decide +kernel
theorem dX2_recall_11 : decode cX2_recall 11 = .ok (.aload_n 0, 1) := by decide +kernel
theorem dX2_recall_12 : decode cX2_recall 12 = .ok (.getfield 11, 3) := by decide +kernel
theorem dX2_recall_15 : decode cX2_recall 15 = .ok (.aload_n 0, 1) := by decide +kernel
theorem dX2_recall_16 : decode cX2_recall 16 = .ok (.getfield 17, 3) := by decide +kernel
theorem dX2_recall_19 : decode cX2_recall 19 = .ok (.aaload, 1) := by decide +kernel
theorem dX2_recall_20 : decode cX2_recall 20 = .ok (.invokevirtual 25, 3) := by decide +kernel
theorem dX2_recall_23 : decode cX2_recall 23 = .ok (.return_, 1) := by decide +kernel
theorem dX2_forget_0 : decode cX2_forget 0 = .ok (.aload_n 0, 1) := by decide +kernel
theorem dX2_forget_1 : decode cX2_forget 1 = .ok (.iconst 0, 1) := by decide +kernel
theorem dX2_forget_2 : decode cX2_forget 2 = .ok (.putfield 17, 3) := by decide +kernel
theorem dX2_forget_5 : decode cX2_forget 5 = .ok (.return_, 1) := by decide +kernel
theorem dX2_become_0 : decode cX2_become 0 = .ok (.aload_n 0, 1) := by decide +kernel
theorem dX2_become_1 : decode cX2_become 1 = .ok (.aload_n 1, 1) := by decide +kernel
theorem dX2_become_2 : decode cX2_become 2 = .ok (.getfield 17, 3) := by decide +kernel
theorem dX2_become_5 : decode cX2_become 5 = .ok (.putfield 17, 3) := by decide +kernel
theorem dX2_become_8 : decode cX2_become 8 = .ok (.iconst 0, 1) := by decide +kernel
theorem dX2_become_9 : decode cX2_become 9 = .ok (.istore_n 2, 1) := by decide +kernel
theorem dX2_become_10 : decode cX2_become 10 = .ok (.iload_n 2, 1) := by decide +kernel
theorem dX2_become_11 : decode cX2_become 11 = .ok (.aload_n 0, 1) := by decide +kernel
theorem dX2_become_12 : decode cX2_become 12 = .ok (.getfield 17, 3) := by decide +kernel
theorem dX2_become_15 : decode cX2_become 15 = .ok (.if_icmp .ge 24, 3) := by decide +kernel
theorem dX2_become_18 : decode cX2_become 18 = .ok (.aload_n 0, 1) := by decide +kernel
theorem dX2_become_19 : decode cX2_become 19 = .ok (.getfield 11, 3) := by decide +kernel
theorem dX2_become_22 : decode cX2_become 22 = .ok (.iload_n 2, 1) := by decide +kernel
theorem dX2_become_23 : decode cX2_become 23 = .ok (.aaload, 1) := by decide +kernel
theorem dX2_become_24 : decode cX2_become 24 = .ok (.aload_n 1, 1) := by decide +kernel
theorem dX2_become_25 : decode cX2_become 25 = .ok (.getfield 11, 3) := by decide +kernel
theorem dX2_become_28 : decode cX2_become 28 = .ok (.iload_n 2, 1) := by decide +kernel
theorem dX2_become_29 : decode cX2_become 29 = .ok (.aaload, 1) := by decide +kernel
theorem dX2_become_30 : decode cX2_become 30 = .ok (.invokevirtual 25, 3) := by decide +kernel
theorem dX2_become_33 : decode cX2_become 33 = .ok (.iinc 2 1, 3) := by decide +kernel
theorem dX2_become_36 : decode cX2_become 36 = .ok (.goto (-26), 3) := by decide +kernel
theorem dX2_become_39 : decode cX2_become 39 = .ok (.return_, 1) := by decide +kernel
theorem dX3_init_0 : decode cX3_init 0 = .ok (.aload_n 0, 1) := by decide +kernel
theorem dX3_init_1 : decode cX3_init 1 = .ok (.invokespecial 3, 3) := by decide +kernel
theorem dX3_init_4 : decode cX3_init 4 = .ok (.aload_n 0, 1) := by decide +kernel
theorem dX3_init_5 : decode cX3_init 5 = .ok (.iconst 4, 1) := by decide +kernel
theorem dX3_init_6 : decode cX3_init 6 = .ok (.newarray .int, 2) := by decide +kernel
theorem dX3_init_8 : decode cX3_init 8 = .ok (.putfield 9, 3) := by decide +kernel
theorem dX3_init_11 : decode cX3_init 11 = .ok (.aload_n 0, 1) := by decide +kernel
theorem dX3_init_12 : decode cX3_init 12 = .ok (.iconst 0, 1) := by decide +kernel
theorem dX3_init_13 : decode cX3_init 13 = .ok (.putfield 15, 3) := by decide +kernel
theorem dX3_init_16 : decode cX3_init 16 = .ok (.aload_n 0, 1) := by decide +kernel
theorem dX3_init_17 : decode cX3_init 17 = .ok (.iconst 0, 1) := by decide +kernel
theorem dX3_init_18 : decode cX3_init 18 = .ok (.putfield 19, 3) := by decide +kernel
theorem dX3_init_21 : decode cX3_init 21 = .ok (.return_, 1) := by decide +kernel
theorem dX3_seek_0 : decode cX3_seek 0 = .ok (.aload_n 0, 1) := by decide +kernel
theorem dX3_seek_1 : decode cX3_seek 1 = .ok (.bipush 121, 2) := by decide +kernel
theorem dX3_seek_3 : decode cX3_seek 3 = .ok (.putfield 15, 3) := by decide +kernel
theorem dX3_seek_6 : decode cX3_seek 6 = .ok (.aload_n 0, 1) := by decide +kernel
theorem dX3_seek_7 : decode cX3_seek 7 = .ok (.iconst 5, 1) := by decide +kernel
theorem dX3_seek_8 : decode cX3_seek 8 = .ok (.putfield 19, 3) := by decide +kernel
theorem dX3_seek_11 : decode cX3_seek 11 = .ok (.aload_n 1, 1) := by decide +kernel
theorem dX3_seek_12 : decode cX3_seek 12 = .ok (.getfield 22, 3) := by decide +kernel
theorem dX3_seek_15 : decode cX3_seek 15 = .ok (.aload_n 1, 1) := by decide +kernel
theorem dX3_seek_16 : decode cX3_seek 16 = .ok (.getfield 22, 3) := by decide +kernel
theorem dX3_seek_19 : decode cX3_seek 19 = .ok (.imul, 1) := by decide +kernel
theorem dX3_seek_20 : decode cX3_seek 20 = .ok (.aload_n 1, 1) := by decide +kernel
theorem dX3_seek_21 : decode cX3_seek 21 = .ok (.getfield 22, 3) := by decide +kernel
theorem dX3_seek_24 : decode cX3_seek 24 = .ok (.imul, 1) := by decide +kernel
theorem dX3_seek_25 : decode cX3_seek 25 = .ok (.aload_n 1, 1) := by decide +kernel
theorem dX3_seek_26 : decode cX3_seek 26 = .ok (.getfield 22, 3) := by decide +kernel
theorem dX3_seek_29 : decode cX3_seek 29 = .ok (.imul, 1) := by decide +kernel
theorem dX3_seek_30 : decode cX3_seek 30 = .ok (.istore 4, 2) := by decide +kernel
theorem dX3_seek_32 : decode cX3_seek 32 = .ok (.iconst 0, 1) := by decide +kernel
theorem dX3_seek_33 : decode cX3_seek 33 = .ok (.istore 5, 2) := by decide +kernel
theorem dX3_seek_35 : decode cX3_seek 35 = .ok (.iconst 0, 1) := by decide +kernel
theorem dX3_seek_36 : decode cX3_seek 36 = .ok (.istore 6, 2) := by decide +kernel
theorem dX3_seek_38 : decode cX3_seek 38 = .ok (.iload 6, 2) := by decide +kernel
theorem dX3_seek_40 : decode cX3_seek 40 = .ok (.iload 4, 2) := by decide +kernel
theorem dX3_seek_42 : decode cX3_seek 42 = .ok (.if_icmp .ge 41, 3) := by decide +kernel
theorem dX3_seek_45 : decode cX3_seek 45 = .ok (.aload_n 2, 1) := by decide +kernel
theorem dX3_seek_46 : decode cX3_seek 46 = .ok (.aload_n 1, 1) := by decide +kernel
theorem dX3_seek_47 : decode cX3_seek 47 = .ok (.invokevirtual 27, 3) := by decide +kernel
theorem dX3_seek_50 : decode cX3_seek 50 = .ok (.iload 6, 2) := by decide +kernel
theorem dX3_seek_52 : decode cX3_seek 52 = .ok (.aload_n 1, 1) := by decide +kernel
theorem dX3_seek_53 : decode cX3_seek 53 = .ok (.getfield 22, 3) := by decide +kernel
theorem dX3_seek_56 : decode cX3_seek 56 = .ok (.aload_n 2, 1) := by decide +kernel
theorem dX3_seek_57 : decode cX3_seek 57 = .ok (.getfield 31, 3) := by decide +kernel
theorem dX3_seek_60 : decode cX3_seek 60 = .ok (.invokestatic 32, 3) := by decide +kernel
theorem dX3_seek_63 : decode cX3_seek 63 = .ok (.aload_n 0, 1) := by decide +kernel
theorem dX3_seek_64 : decode cX3_seek 64 = .ok (.aload_n 1, 1) := by decide +kernel
theorem dX3_seek_65 : decode cX3_seek 65 = .ok (.aload_n 2, 1) := by decide +kernel
theorem dX3_seek_66 : decode cX3_seek 66 = .ok (.iload_n 3, 1) := by decide +kernel
theorem dX3_seek_67 : decode cX3_seek 67 = .ok (.invokevirtual 36, 3) := by decide +kernel
theorem dX3_seek_70 : decode cX3_seek 70 = .ok (.ifCond .eq 7, 3) := by decide +kernel
theorem dX3_seek_73 : decode cX3_seek 73 = .ok (.iload 6, 2) := by decide +kernel
theorem dX3_seek_75 : decode cX3_seek 75 = .ok (.istore 5, 2) := by decide +kernel
theorem dX3_seek_77 : decode cX3_seek 77 = .ok (.iinc 6 1, 3) := by decide +kernel
theorem dX3_seek_80 : decode cX3_seek 80 = .ok (.goto (-42), 3) := by decide +kernel
theorem dX3_seek_83 : decode cX3_seek 83 = .ok (.iload 5, 2) := by decide +kernel
theorem dX3_seek_85 : decode cX3_seek 85 = .ok (.aload_n 1, 1) := by decide +kernel
theorem dX3_seek_86 : decode cX3_seek 86 = .ok (.getfield 22, 3) := by decide +kernel
theorem dX3_seek_89 : decode cX3_seek 89 = .ok (.aload_n 0, 1) := by decide +kernel
theorem dX3_seek_90 : decode cX3_seek 90 = .ok (.getfield 9, 3) := by decide +kernel
theorem dX3_seek_93 : decode cX3_seek 93 = .ok (.invokestatic 32, 3) := by decide +kernel
theorem dX3_seek_96 : decode cX3_seek 96 = .ok (.return_, 1) := by decide +kernel
theorem dX3_spell_0 : decode cX3_spell 0 = .ok (.iload_n 1, 1) := by decide +kernel
theorem dX3_spell_1 : decode cX3_spell 1 = .ok (.ifCond .gt 4, 3) := by decide +kernel
theorem dX3_spell_4 : decode cX3_spell 4 = .ok (.return_, 1) := by decide +kernel
theorem dX3_spell_5 : decode cX3_spell 5 = .ok (.iload_n 0, 1) := by decide +kernel
theorem dX3_spell_6 : decode cX3_spell 6 = .ok (.istore_n 3, 1) := by decide +kernel
theorem dX3_spell_7 : decode cX3_spell 7 = .ok (.iconst 3, 1) := by decide +kernel
theorem dX3_spell_8 : decode cX3_spell 8 = .ok (.istore 4, 2) := by decide +kernel
theorem dX3_spell_10 : decode cX3_spell 10 = .ok (.iload 4, 2) := by decide +kernel
theorem dX3_spell_12 : decode cX3_spell 12 = .ok (.ifCond .lt 20, 3) := by decide +kernel
theorem dX3_spell_15 : decode cX3_spell 15 = .ok (.aload_n 2, 1) := by decide +kernel
theorem dX3_spell_16 : decode cX3_spell 16 = .ok (.iload 4, 2) := by decide +kernel
theorem dX3_spell_18 : decode cX3_spell 18 = .ok (.iload_n 3, 1) := by decide +kernel
theorem dX3_spell_19 : decode cX3_spell 19 = .ok (.iload_n 1, 1) := by decide +kernel
theorem dX3_spell_20 : decode cX3_spell 20 = .ok (.irem, 1) := by decide +kernel
theorem dX3_spell_21 : decode cX3_spell 21 = .ok (.iastore, 1) := by decide +kernel
theorem dX3_spell_22 : decode cX3_spell 22 = .ok (.iload_n 3, 1) := by decide +kernel
theorem dX3_spell_23 : decode cX3_spell 23 = .ok (.iload_n 1, 1) := by decide +kernel
theorem dX3_spell_24 : decode cX3_spell 24 = .ok (.idiv, 1) := by decide +kernel
theorem dX3_spell_25 : decode cX3_spell 25 = .ok (.istore_n 3, 1) := by decide +kernel
theorem dX3_spell_26 : decode cX3_spell 26 = .ok (.iinc 4 (-1), 3) := by decide +kernel
theorem dX3_spell_29 : decode cX3_spell 29 = .ok (.goto (-19), 3) := by decide +kernel
theorem dX3_spell_32 : decode cX3_spell 32 = .ok (.return_, 1) := by decide +kernel
theorem dX3_isBetter_0 : decode cX3_isBetter 0 = .ok (.iconst 0, 1) := by decide +kernel
theorem dX3_isBetter_1 : decode cX3_isBetter 1 = .ok (.istore 4, 2) := by decide +kernel
theorem dX3_isBetter_3 : decode cX3_isBetter 3 = .ok (.iconst 0, 1) := by decide +kernel
theorem dX3_isBetter_4 : decode cX3_isBetter 4 = .ok (.istore 5, 2) := by decide +kernel
theorem dX3_isBetter_6 : decode cX3_isBetter 6 = .ok (.iload 5, 2) := by decide +kernel
theorem dX3_isBetter_8 : decode cX3_isBetter 8 = .ok (.iconst 4, 1) := by decide +kernel
theorem dX3_isBetter_9 : decode cX3_isBetter 9 = .ok (.if_icmp .ge 36, 3) := by decide +kernel
theorem dX3_isBetter_12 : decode cX3_isBetter 12 = .ok (.iload 4, 2) := by decide +kernel
theorem dX3_isBetter_14 : decode cX3_isBetter 14 = .ok (.aload_n 2, 1) := by decide +kernel
theorem dX3_isBetter_15 : decode cX3_isBetter 15 = .ok (.getfield 31, 3) := by decide +kernel
theorem dX3_isBetter_18 : decode cX3_isBetter 18 = .ok (.iload 5, 2) := by decide +kernel
theorem dX3_isBetter_20 : decode cX3_isBetter 20 = .ok (.iaload, 1) := by decide +kernel
theorem dX3_isBetter_21 : decode cX3_isBetter 21 = .ok (.aload_n 1, 1) := by decide +kernel
theorem dX3_isBetter_22 : decode cX3_isBetter 22 = .ok (.getfield 31, 3) := by decide +kernel
theorem dX3_isBetter_25 : decode cX3_isBetter 25 = .ok (.iload 5, 2) := by decide +kernel
theorem dX3_isBetter_27 : decode cX3_isBetter 27 = .ok (.iaload, 1) := by decide +kernel
theorem dX3_isBetter_28 : decode cX3_isBetter 28 = .ok (.if_icmp .ne 7, 3) := by decide +kernel
theorem dX3_isBetter_31 : decode cX3_isBetter 31 = .ok (.iconst 0, 1) := by decide +kernel
theorem dX3_isBetter_32 : decode cX3_isBetter 32 = .ok (.goto 4, 3) := by decide +kernel
theorem dX3_isBetter_35 : decode cX3_isBetter 35 = .ok (.iconst 1, 1) := by decide +kernel
theorem dX3_isBetter_36 : decode cX3_isBetter 36 = .ok (.iadd, 1) := by decide +kernel
theorem dX3_isBetter_37 : decode cX3_isBetter 37 = .ok (.istore 4, 2) := by decide +kernel
theorem dX3_isBetter_39 : decode cX3_isBetter 39 = .ok (.iinc 5 1, 3) := by decide +kernel
theorem dX3_isBetter_42 : decode cX3_isBetter 42 = .ok (.goto (-36), 3) := by decide +kernel
theorem dX3_isBetter_45 : decode cX3_isBetter 45 = .ok (.aload_n 0, 1) := by decide +kernel
theorem dX3_isBetter_46 : decode cX3_isBetter 46 = .ok (.getfield 15, 3) := by decide +kernel
theorem dX3_isBetter_49 : decode cX3_isBetter 49 = .ok (.ifCond .ne 14, 3) := by decide +kernel
theorem dX3_isBetter_52 : decode cX3_isBetter 52 = .ok (.iload 4, 2) := by decide +kernel
theorem dX3_isBetter_54 : decode cX3_isBetter 54 = .ok (.aload_n 0, 1) := by decide +kernel
theorem dX3_isBetter_55 : decode cX3_isBetter 55 = .ok (.getfield 19, 3) := by decide +kernel
theorem dX3_isBetter_58 : decode cX3_isBetter 58 = .ok (.if_icmp .lt 5, 3) := by decide +kernel
theorem dX3_isBetter_61 : decode cX3_isBetter 61 = .ok (.iconst 0, 1) := by decide +kernel
theorem dX3_isBetter_62 : decode cX3_isBetter 62 = .ok (.ireturn, 1) := by decide +kernel
theorem dX3_isBetter_63 : decode cX3_isBetter 63 = .ok (.iconst 0, 1) := by decide +kernel
theorem dX3_isBetter_64 : decode cX3_isBetter 64 = .ok (.istore 5, 2) := by decide +kernel
theorem dX3_isBetter_66 : decode cX3_isBetter 66 = .ok (.iload 5, 2) := by decide +kernel
theorem dX3_isBetter_68 : decode cX3_isBetter 68 = .ok (.iload_n 3, 1) := by decide +kernel
theorem dX3_isBetter_69 : decode cX3_isBetter 69 = .ok (.if_icmp .ge 29, 3) := by decide +kernel
theorem dX3_isBetter_72 : decode cX3_isBetter 72 = .ok (.aload_n 2, 1) := by decide +kernel
theorem dX3_isBetter_73 : decode cX3_isBetter 73 = .ok (.getfield 40, 3) := by decide +kernel
theorem dX3_isBetter_76 : decode cX3_isBetter 76 = .ok (.aload_n 1, 1) := by decide +kernel
theorem dX3_isBetter_77 : decode cX3_isBetter 77 = .ok (.getfield 40, 3) := by decide +kernel
theorem dX3_isBetter_80 : decode cX3_isBetter 80 = .ok (.isub, 1) := by decide +kernel
theorem dX3_isBetter_81 : decode cX3_isBetter 81 = .ok (.aload_n 0, 1) := by decide +kernel
theorem dX3_isBetter_82 : decode cX3_isBetter 82 = .ok (.getfield 15, 3) := by decide +kernel
theorem dX3_isBetter_85 : decode cX3_isBetter 85 = .ok (.if_icmp .gt 13, 3) := by decide +kernel
theorem dX3_isBetter_88 : decode cX3_isBetter 88 = .ok (.aload_n 2, 1) := by decide +kernel
theorem dX3_isBetter_89 : decode cX3_isBetter 89 = .ok (.invokevirtual 41, 3) := by decide +kernel
theorem dX3_isBetter_92 : decode cX3_isBetter 92 = .ok (.iinc 5 1, 3) := by decide +kernel
theorem dX3_isBetter_95 : decode cX3_isBetter 95 = .ok (.goto (-29), 3) := by decide +kernel
theorem dX3_isBetter_98 : decode cX3_isBetter 98 = .ok (.aload_n 2, 1) := by decide +kernel
theorem dX3_isBetter_99 : decode cX3_isBetter 99 = .ok (.getfield 40, 3) := by decide +kernel
theorem dX3_isBetter_102 : decode cX3_isBetter 102 = .ok (.aload_n 1, 1) := by decide +kernel
theorem dX3_isBetter_103 : decode cX3_isBetter 103 = .ok (.getfield 40, 3) := by decide +kernel
theorem dX3_isBetter_106 : decode cX3_isBetter 106 = .ok (.isub, 1) := by decide +kernel
theorem dX3_isBetter_107 : decode cX3_isBetter 107 = .ok (.istore 5, 2) := by decide +kernel
theorem dX3_isBetter_109 : decode cX3_isBetter 109 = .ok (.iload 5, 2) := by decide +kernel
theorem dX3_isBetter_111 : decode cX3_isBetter 111 = .ok (.aload_n 0, 1) := by decide +kernel
theorem dX3_isBetter_112 : decode cX3_isBetter 112 = .ok (.getfield 15, 3) := by decide +kernel
theorem dX3_isBetter_115 : decode cX3_isBetter 115 = .ok (.if_icmp .gt 21, 3) := by decide +kernel
theorem dX3_isBetter_118 : decode cX3_isBetter 118 = .ok (.iload 5, 2) := by decide +kernel
theorem dX3_isBetter_120 : decode cX3_isBetter 120 = .ok (.aload_n 0, 1) := by decide +kernel
theorem dX3_isBetter_121 : decode cX3_isBetter 121 = .ok (.getfield 15, 3) := by decide +kernel
theorem dX3_isBetter_124 : decode cX3_isBetter 124 = .ok (.if_icmp .ne 14, 3) := by decide +kernel
theorem dX3_isBetter_127 : decode cX3_isBetter 127 = .ok (.iload 4, 2) := by decide +kernel
theorem dX3_isBetter_129 : decode cX3_isBetter 129 = .ok (.aload_n 0, 1) := by decide +kernel
theorem dX3_isBetter_130 : decode cX3_isBetter 130 = .ok (.getfield 19, 3) := by decide +kernel
theorem dX3_isBetter_133 : decode cX3_isBetter 133 = .ok (.if_icmp .lt 5, 3) := by decide +kernel
theorem dX3_isBetter_136 : decode cX3_isBetter 136 = .ok (.iconst 0, 1) := by decide +kernel
theorem dX3_isBetter_137 : decode cX3_isBetter 137 = .ok (.ireturn, 1) := by decide +kernel
theorem dX3_isBetter_138 : decode cX3_isBetter 138 = .ok (.aload_n 0, 1) := by decide +kernel
theorem dX3_isBetter_139 : decode cX3_isBetter 139 = .ok (.iload 5, 2) := by decide +kernel
theorem dX3_isBetter_141 : decode cX3_isBetter 141 = .ok (.putfield 15, 3) := by decide +kernel
theorem dX3_isBetter_144 : decode cX3_isBetter 144 = .ok (.aload_n 0, 1) := by decide +kernel
theorem dX3_isBetter_145 : decode cX3_isBetter 145 = .ok (.iload 4, 2) := by decide +kernel
theorem dX3_isBetter_147 : decode cX3_isBetter 147 = .ok (.putfield 19, 3) := by decide +kernel
theorem dX3_isBetter_150 : decode cX3_isBetter 150 = .ok (.iconst 1, 1) := by decide +kernel
theorem dX3_isBetter_151 : decode cX3_isBetter 151 = .ok (.ireturn, 1) := by decide +kernel
theorem dX4_init_0 : decode cX4_init 0 = .ok (.aload_n 0, 1) := by decide +kernel
theorem dX4_init_1 : decode cX4_init 1 = .ok (.invokespecial 3, 3) := by decide +kernel
theorem dX4_init_4 : decode cX4_init 4 = .ok (.aload_n 0, 1) := by decide +kernel
theorem dX4_init_5 : decode cX4_init 5 = .ok (.bipush 24, 2) := by decide +kernel
theorem dX4_init_7 : decode cX4_init 7 = .ok (.newarray .long, 2) := by decide +kernel
theorem dX4_init_9 : decode cX4_init 9 = .ok (.putfield 9, 3) := by decide +kernel
theorem dX4_init_12 : decode cX4_init 12 = .ok (.aload_n 0, 1) := by decide +kernel
theorem dX4_init_13 : decode cX4_init 13 = .ok (.iconst 0, 1) := by decide +kernel
theorem dX4_init_14 : decode cX4_init 14 = .ok (.putfield 15, 3) := by decide +kernel
theorem dX4_init_17 : decode cX4_init 17 = .ok (.aload_n 0, 1) := by decide +kernel
theorem dX4_init_18 : decode cX4_init 18 = .ok (.iconst (-1), 1) := by decide +kernel
theorem dX4_init_19 : decode cX4_init 19 = .ok (.putfield 19, 3) := by decide +kernel
theorem dX4_init_22 : decode cX4_init 22 = .ok (.return_, 1) := by decide +kernel
theorem dX4_isMissing_0 : decode cX4_isMissing 0 = .ok (.aload_n 0, 1) := by decide +kernel
theorem dX4_isMissing_1 : decode cX4_isMissing 1 = .ok (.getfield 19, 3) := by decide +kernel
theorem dX4_isMissing_4 : decode cX4_isMissing 4 = .ok (.iconst (-1), 1) := by decide +kernel
theorem dX4_isMissing_5 : decode cX4_isMissing 5 = .ok (.if_icmp .ne 7, 3) := by decide +kernel
theorem dX4_isMissing_8 : decode cX4_isMissing 8 = .ok (.iconst 1, 1) := by decide +kernel
theorem dX4_isMissing_9 : decode cX4_isMissing 9 = .ok (.goto 4, 3) := by decide +kernel
theorem dX4_isMissing_12 : decode cX4_isMissing 12 = .ok (.iconst 0, 1) := by decide +kernel
theorem dX4_isMissing_13 : decode cX4_isMissing 13 = .ok (.ireturn, 1) := by decide +kernel
theorem dX4_renew_0 : decode cX4_renew 0 = .ok (.aload_n 0, 1) := by decide +kernel
theorem dX4_renew_1 : decode cX4_renew 1 = .ok (.iload_n 1, 1) := by decide +kernel
theorem dX4_renew_2 : decode cX4_renew 2 = .ok (.putfield 15, 3) := by decide +kernel
theorem dX4_renew_5 : decode cX4_renew 5 = .ok (.aload_n 0, 1) := by decide +kernel
theorem dX4_renew_6 : decode cX4_renew 6 = .ok (.iload_n 2, 1) := by decide +kernel
theorem dX4_renew_7 : decode cX4_renew 7 = .ok (.putfield 19, 3) := by decide +kernel
theorem dX4_renew_10 : decode cX4_renew 10 = .ok (.iconst 0, 1) := by decide +kernel
theorem dX4_renew_11 : decode cX4_renew 11 = .ok (.istore_n 3, 1) := by decide +kernel
theorem dX4_renew_12 : decode cX4_renew 12 = .ok (.iload_n 3, 1) := by decide +kernel
theorem dX4_renew_13 : decode cX4_renew 13 = .ok (.bipush 24, 2) := by decide +kernel
theorem dX4_renew_15 : decode cX4_renew 15 = .ok (.if_icmp .ge 16, 3) := by decide +kernel
theorem dX4_renew_18 : decode cX4_renew 18 = .ok (.aload_n 0, 1) := by decide +kernel
theorem dX4_renew_19 : decode cX4_renew 19 = .ok (.getfield 9, 3) := by decide +kernel
theorem dX4_renew_22 : decode cX4_renew 22 = .ok (.iload_n 3, 1) := by decide +kernel
theorem dX4_renew_23 : decode cX4_renew 23 = .ok (.lconst 0, 1) := by decide +kernel
theorem dX4_renew_24 : decode cX4_renew 24 = .ok (.lastore, 1) := by decide +kernel
theorem dX4_renew_25 : decode cX4_renew 25 = .ok (.iinc 3 1, 3) := by decide +kernel
theorem dX4_renew_28 : decode cX4_renew 28 = .ok (.goto (-16), 3) := by decide +kernel
theorem dX4_renew_31 : decode cX4_renew 31 = .ok (.return_, 1) := by decide +kernel
theorem dX4_empty_0 : decode cX4_empty 0 = .ok (.aload_n 0, 1) := by decide +kernel
theorem dX4_empty_1 : decode cX4_empty 1 = .ok (.getfield 19, 3) := by decide +kernel
theorem dX4_empty_4 : decode cX4_empty 4 = .ok (.istore_n 1, 1) := by decide +kernel
theorem dX4_empty_5 : decode cX4_empty 5 = .ok (.aload_n 0, 1) := by decide +kernel
theorem dX4_empty_6 : decode cX4_empty 6 = .ok (.iconst (-1), 1) := by decide +kernel
theorem dX4_empty_7 : decode cX4_empty 7 = .ok (.putfield 19, 3) := by decide +kernel
theorem dX4_empty_10 : decode cX4_empty 10 = .ok (.iload_n 1, 1) := by decide +kernel
theorem dX4_empty_11 : decode cX4_empty 11 = .ok (.ireturn, 1) := by decide +kernel
theorem dX4_spans_0 : decode cX4_spans 0 = .ok (.iload_n 2, 1) := by decide +kernel
theorem dX4_spans_1 : decode cX4_spans 1 = .ok (.ifCond .lt 21, 3) := by decide +kernel
theorem dX4_spans_4 : decode cX4_spans 4 = .ok (.iload_n 1, 1) := by decide +kernel
theorem dX4_spans_5 : decode cX4_spans 5 = .ok (.ifCond .lt 17, 3) := by decide +kernel
theorem dX4_spans_8 : decode cX4_spans 8 = .ok (.iload_n 1, 1) := by decide +kernel
theorem dX4_spans_9 : decode cX4_spans 9 = .ok (.aload_n 0, 1) := by decide +kernel
theorem dX4_spans_10 : decode cX4_spans 10 = .ok (.getfield 19, 3) := by decide +kernel
theorem dX4_spans_13 : decode cX4_spans 13 = .ok (.iload_n 2, 1) := by decide +kernel
theorem dX4_spans_14 : decode cX4_spans 14 = .ok (.isub, 1) := by decide +kernel
theorem dX4_spans_15 : decode cX4_spans 15 = .ok (.if_icmp .gt 7, 3) := by decide +kernel
theorem dX4_spans_18 : decode cX4_spans 18 = .ok (.iconst 1, 1) := by decide +kernel
theorem dX4_spans_19 : decode cX4_spans 19 = .ok (.goto 4, 3) := by decide +kernel
theorem dX4_spans_22 : decode cX4_spans 22 = .ok (.iconst 0, 1) := by decide +kernel
theorem dX4_spans_23 : decode cX4_spans 23 = .ok (.ireturn, 1) := by decide +kernel
theorem dX4_refusal_0 : decode cX4_refusal 0 = .ok (.aload_n 0, 1) := by decide +kernel
theorem dX4_refusal_1 : decode cX4_refusal 1 = .ok (.invokevirtual 22, 3) := by decide +kernel
theorem dX4_refusal_4 : decode cX4_refusal 4 = .ok (.ifCond .eq 6, 3) := by decide +kernel
theorem dX4_refusal_7 : decode cX4_refusal 7 = .ok (.bipush (-11), 2) := by decide +kernel
theorem dX4_refusal_9 : decode cX4_refusal 9 = .ok (.ireturn, 1) := by decide +kernel
theorem dX4_refusal_10 : decode cX4_refusal 10 = .ok (.iload_n 1, 1) := by decide +kernel
theorem dX4_refusal_11 : decode cX4_refusal 11 = .ok (.aload_n 0, 1) := by decide +kernel
theorem dX4_refusal_12 : decode cX4_refusal 12 = .ok (.getfield 15, 3) := by decide +kernel
theorem dX4_refusal_15 : decode cX4_refusal 15 = .ok (.if_icmp .eq 6, 3) := by decide +kernel
theorem dX4_refusal_18 : decode cX4_refusal 18 = .ok (.bipush (-12), 2) := by decide +kernel
theorem dX4_refusal_20 : decode cX4_refusal 20 = .ok (.ireturn, 1) := by decide +kernel
theorem dX4_refusal_21 : decode cX4_refusal 21 = .ok (.aload_n 0, 1) := by decide +kernel
theorem dX4_refusal_22 : decode cX4_refusal 22 = .ok (.iload_n 2, 1) := by decide +kernel
theorem dX4_refusal_23 : decode cX4_refusal 23 = .ok (.iload_n 3, 1) := by decide +kernel
theorem dX4_refusal_24 : decode cX4_refusal 24 = .ok (.invokevirtual 26, 3) := by decide +kernel
theorem dX4_refusal_27 : decode cX4_refusal 27 = .ok (.ifCond .eq 7, 3) := by decide +kernel
theorem dX4_refusal_30 : decode cX4_refusal 30 = .ok (.iconst 0, 1) := by decide +kernel
theorem dX4_refusal_31 : decode cX4_refusal 31 = .ok (.goto 5, 3) := by decide +kernel
theorem dX4_refusal_34 : decode cX4_refusal 34 = .ok (.bipush (-13), 2) := by decide +kernel
theorem dX4_refusal_36 : decode cX4_refusal 36 = .ok (.ireturn, 1) := by decide +kernel
theorem dX4_put_0 : decode cX4_put 0 = .ok (.aload_n 0, 1) := by decide +kernel
theorem dX4_put_1 : decode cX4_put 1 = .ok (.getfield 15, 3) := by decide +kernel
theorem dX4_put_4 : decode cX4_put 4 = .ok (.tableswitch 66 0 2 #[28, 41, 54], 28) := by decide +kernel
theorem dX4_put_32 : decode cX4_put 32 = .ok (.aload_n 0, 1) := by decide +kernel
theorem dX4_put_33 : decode cX4_put 33 = .ok (.getfield 9, 3) := by decide +kernel
theorem dX4_put_36 : decode cX4_put 36 = .ok (.iload_n 1, 1) := by decide +kernel
theorem dX4_put_37 : decode cX4_put 37 = .ok (.lload_n 2, 1) := by decide +kernel
theorem dX4_put_38 : decode cX4_put 38 = .ok (.l2i, 1) := by decide +kernel
theorem dX4_put_39 : decode cX4_put 39 = .ok (.i2b, 1) := by decide +kernel
theorem dX4_put_40 : decode cX4_put 40 = .ok (.i2l, 1) := by decide +kernel
theorem dX4_put_41 : decode cX4_put 41 = .ok (.lastore, 1) := by decide +kernel
theorem dX4_put_42 : decode cX4_put 42 = .ok (.goto 35, 3) := by decide +kernel
theorem dX4_put_45 : decode cX4_put 45 = .ok (.aload_n 0, 1) := by decide +kernel
theorem dX4_put_46 : decode cX4_put 46 = .ok (.getfield 9, 3) := by decide +kernel
theorem dX4_put_49 : decode cX4_put 49 = .ok (.iload_n 1, 1) := by decide +kernel
theorem dX4_put_50 : decode cX4_put 50 = .ok (.lload_n 2, 1) := by decide +kernel
theorem dX4_put_51 : decode cX4_put 51 = .ok (.l2i, 1) := by decide +kernel
theorem dX4_put_52 : decode cX4_put 52 = .ok (.i2s, 1) := by decide +kernel
theorem dX4_put_53 : decode cX4_put 53 = .ok (.i2l, 1) := by decide +kernel
theorem dX4_put_54 : decode cX4_put 54 = .ok (.lastore, 1) := by decide +kernel
theorem dX4_put_55 : decode cX4_put 55 = .ok (.goto 22, 3) := by decide +kernel
theorem dX4_put_58 : decode cX4_put 58 = .ok (.aload_n 0, 1) := by decide +kernel
theorem dX4_put_59 : decode cX4_put 59 = .ok (.getfield 9, 3) := by decide +kernel
theorem dX4_put_62 : decode cX4_put 62 = .ok (.iload_n 1, 1) := by decide +kernel
theorem dX4_put_63 : decode cX4_put 63 = .ok (.lload_n 2, 1) := by decide +kernel
theorem dX4_put_64 : decode cX4_put 64 = .ok (.l2i, 1) := by decide +kernel
theorem dX4_put_65 : decode cX4_put 65 = .ok (.i2l, 1) := by decide +kernel
theorem dX4_put_66 : decode cX4_put 66 = .ok (.lastore, 1) := by decide +kernel
theorem dX4_put_67 : decode cX4_put 67 = .ok (.goto 10, 3) := by decide +kernel
theorem dX4_put_70 : decode cX4_put 70 = .ok (.aload_n 0, 1) := by decide +kernel
theorem dX4_put_71 : decode cX4_put 71 = .ok (.getfield 9, 3) := by decide +kernel
theorem dX4_put_74 : decode cX4_put 74 = .ok (.iload_n 1, 1) := by decide +kernel
theorem dX4_put_75 : decode cX4_put 75 = .ok (.lload_n 2, 1) := by decide +kernel
theorem dX4_put_76 : decode cX4_put 76 = .ok (.lastore, 1) := by decide +kernel
theorem dX4_put_77 : decode cX4_put 77 = .ok (.return_, 1) := by decide +kernel
theorem dX4_tells_0 : decode cX4_tells 0 = .ok (.iconst 0, 1) := by decide +kernel
theorem dX4_tells_1 : decode cX4_tells 1 = .ok (.istore 6, 2) := by decide +kernel
theorem dX4_tells_3 : decode cX4_tells 3 = .ok (.iload 6, 2) := by decide +kernel
theorem dX4_tells_5 : decode cX4_tells 5 = .ok (.iload 5, 2) := by decide +kernel
theorem dX4_tells_7 : decode cX4_tells 7 = .ok (.if_icmp .ge 36, 3) := by decide +kernel
theorem dX4_tells_10 : decode cX4_tells 10 = .ok (.aload_n 1, 1) := by decide +kernel
theorem dX4_tells_11 : decode cX4_tells 11 = .ok (.invokevirtual 30, 3) := by decide +kernel
theorem dX4_tells_14 : decode cX4_tells 14 = .ok (.aload_n 0, 1) := by decide +kernel
theorem dX4_tells_15 : decode cX4_tells 15 = .ok (.getfield 9, 3) := by decide +kernel
theorem dX4_tells_18 : decode cX4_tells 18 = .ok (.iload 4, 2) := by decide +kernel
theorem dX4_tells_20 : decode cX4_tells 20 = .ok (.iload 6, 2) := by decide +kernel
theorem dX4_tells_22 : decode cX4_tells 22 = .ok (.iadd, 1) := by decide +kernel
theorem dX4_tells_23 : decode cX4_tells 23 = .ok (.laload, 1) := by decide +kernel
theorem dX4_tells_24 : decode cX4_tells 24 = .ok (.aload_n 1, 1) := by decide +kernel
theorem dX4_tells_25 : decode cX4_tells 25 = .ok (.iload_n 2, 1) := by decide +kernel
theorem dX4_tells_26 : decode cX4_tells 26 = .ok (.iload_n 3, 1) := by decide +kernel
theorem dX4_tells_27 : decode cX4_tells 27 = .ok (.invokevirtual 35, 3) := by decide +kernel
theorem dX4_tells_30 : decode cX4_tells 30 = .ok (.i2l, 1) := by decide +kernel
theorem dX4_tells_31 : decode cX4_tells 31 = .ok (.lcmp, 1) := by decide +kernel
theorem dX4_tells_32 : decode cX4_tells 32 = .ok (.ifCond .eq 5, 3) := by decide +kernel
theorem dX4_tells_35 : decode cX4_tells 35 = .ok (.iconst 0, 1) := by decide +kernel
theorem dX4_tells_36 : decode cX4_tells 36 = .ok (.ireturn, 1) := by decide +kernel
theorem dX4_tells_37 : decode cX4_tells 37 = .ok (.iinc 6 1, 3) := by decide +kernel
theorem dX4_tells_40 : decode cX4_tells 40 = .ok (.goto (-37), 3) := by decide +kernel
theorem dX4_tells_43 : decode cX4_tells 43 = .ok (.iconst 1, 1) := by decide +kernel
theorem dX4_tells_44 : decode cX4_tells 44 = .ok (.ireturn, 1) := by decide +kernel
theorem dX5_init_0 : decode cX5_init 0 = .ok (.aload_n 0, 1) := by decide +kernel
theorem dX5_init_1 : decode cX5_init 1 = .ok (.invokespecial 3, 3) := by decide +kernel
theorem dX5_init_4 : decode cX5_init 4 = .ok (.aload_n 0, 1) := by decide +kernel
theorem dX5_init_5 : decode cX5_init 5 = .ok (.bipush 50, 2) := by decide +kernel
theorem dX5_init_7 : decode cX5_init 7 = .ok (.newarray .int, 2) := by decide +kernel
theorem dX5_init_9 : decode cX5_init 9 = .ok (.putfield 9, 3) := by decide +kernel
theorem dX5_init_12 : decode cX5_init 12 = .ok (.aload_n 0, 1) := by decide +kernel
theorem dX5_init_13 : decode cX5_init 13 = .ok (.iconst 0, 1) := by decide +kernel
theorem dX5_init_14 : decode cX5_init 14 = .ok (.putfield 15, 3) := by decide +kernel
theorem dX5_init_17 : decode cX5_init 17 = .ok (.aload_n 0, 1) := by decide +kernel
theorem dX5_init_18 : decode cX5_init 18 = .ok (.iconst 0, 1) := by decide +kernel
theorem dX5_init_19 : decode cX5_init 19 = .ok (.putfield 19, 3) := by decide +kernel
theorem dX5_init_22 : decode cX5_init 22 = .ok (.return_, 1) := by decide +kernel
theorem dX5_append_0 : decode cX5_append 0 = .ok (.aload_n 0, 1) := by decide +kernel
theorem dX5_append_1 : decode cX5_append 1 = .ok (.getfield 9, 3) := by decide +kernel
theorem dX5_append_4 : decode cX5_append 4 = .ok (.aload_n 0, 1) := by decide +kernel
theorem dX5_append_5 : decode cX5_append 5 = .ok (.getfield 15, 3) := by decide +kernel
theorem dX5_append_8 : decode cX5_append 8 = .ok (.iload_n 1, 1) := by decide +kernel
theorem dX5_append_9 : decode cX5_append 9 = .ok (.iastore, 1) := by decide +kernel
theorem dX5_append_10 : decode cX5_append 10 = .ok (.aload_n 0, 1) := by decide +kernel
theorem dX5_append_11 : decode cX5_append 11 = .ok (.dup, 1) := by decide +kernel
theorem dX5_append_12 : decode cX5_append 12 = .ok (.getfield 15, 3) := by decide +kernel
theorem dX5_append_15 : decode cX5_append 15 = .ok (.iconst 1, 1) := by decide +kernel
theorem dX5_append_16 : decode cX5_append 16 = .ok (.iadd, 1) := by decide +kernel
theorem dX5_append_17 : decode cX5_append 17 = .ok (.putfield 15, 3) := by decide +kernel
theorem dX5_append_20 : decode cX5_append 20 = .ok (.aload_n 0, 1) := by decide +kernel
theorem dX5_append_21 : decode cX5_append 21 = .ok (.getfield 15, 3) := by decide +kernel
theorem dX5_append_24 : decode cX5_append 24 = .ok (.ireturn, 1) := by decide +kernel
theorem dX5_read_0 : decode cX5_read 0 = .ok (.aload_n 0, 1) := by decide +kernel
theorem dX5_read_1 : decode cX5_read 1 = .ok (.iconst 0, 1) := by decide +kernel
theorem dX5_read_2 : decode cX5_read 2 = .ok (.putfield 19, 3) := by decide +kernel
theorem dX5_read_5 : decode cX5_read 5 = .ok (.aload_n 0, 1) := by decide +kernel
theorem dX5_read_6 : decode cX5_read 6 = .ok (.aload_n 1, 1) := by decide +kernel
theorem dX5_read_7 : decode cX5_read 7 = .ok (.invokevirtual 22, 3) := by decide +kernel
theorem dX5_read_10 : decode cX5_read 10 = .ok (.ifCond .eq 31, 3) := by decide +kernel
theorem dX5_read_13 : decode cX5_read 13 = .ok (.aload_n 0, 1) := by decide +kernel
theorem dX5_read_14 : decode cX5_read 14 = .ok (.aload_n 1, 1) := by decide +kernel
theorem dX5_read_15 : decode cX5_read 15 = .ok (.invokevirtual 26, 3) := by decide +kernel
theorem dX5_read_18 : decode cX5_read 18 = .ok (.ifCond .eq 23, 3) := by decide +kernel
theorem dX5_read_21 : decode cX5_read 21 = .ok (.aload_n 0, 1) := by decide +kernel
theorem dX5_read_22 : decode cX5_read 22 = .ok (.aload_n 1, 1) := by decide +kernel
theorem dX5_read_23 : decode cX5_read 23 = .ok (.invokevirtual 29, 3) := by decide +kernel
theorem dX5_read_26 : decode cX5_read 26 = .ok (.ifCond .eq 15, 3) := by decide +kernel
theorem dX5_read_29 : decode cX5_read 29 = .ok (.aload_n 0, 1) := by decide +kernel
theorem dX5_read_30 : decode cX5_read 30 = .ok (.invokevirtual 32, 3) := by decide +kernel
theorem dX5_read_33 : decode cX5_read 33 = .ok (.iconst (-1), 1) := by decide +kernel
theorem dX5_read_34 : decode cX5_read 34 = .ok (.if_icmp .ne 7, 3) := by decide +kernel
theorem dX5_read_37 : decode cX5_read 37 = .ok (.iconst 1, 1) := by decide +kernel
theorem dX5_read_38 : decode cX5_read 38 = .ok (.goto 4, 3) := by decide +kernel
theorem dX5_read_41 : decode cX5_read 41 = .ok (.iconst 0, 1) := by decide +kernel
theorem dX5_read_42 : decode cX5_read 42 = .ok (.istore_n 2, 1) := by decide +kernel
theorem dX5_read_43 : decode cX5_read 43 = .ok (.iload_n 2, 1) := by decide +kernel
theorem dX5_read_44 : decode cX5_read 44 = .ok (.ifCond .eq 7, 3) := by decide +kernel
theorem dX5_read_47 : decode cX5_read 47 = .ok (.iconst 0, 1) := by decide +kernel
theorem dX5_read_48 : decode cX5_read 48 = .ok (.goto 10, 3) := by decide +kernel
theorem dX5_read_51 : decode cX5_read 51 = .ok (.bipush (-20), 2) := by decide +kernel
theorem dX5_read_53 : decode cX5_read 53 = .ok (.aload_n 0, 1) := by decide +kernel
theorem dX5_read_54 : decode cX5_read 54 = .ok (.getfield 19, 3) := by decide +kernel
theorem dX5_read_57 : decode cX5_read 57 = .ok (.isub, 1) := by decide +kernel
theorem dX5_read_58 : decode cX5_read 58 = .ok (.ireturn, 1) := by decide +kernel
theorem dX5_nextLetter_0 : decode cX5_nextLetter 0 = .ok (.aload_n 0, 1) := by decide +kernel
theorem dX5_nextLetter_1 : decode cX5_nextLetter 1 = .ok (.getfield 19, 3) := by decide +kernel
theorem dX5_nextLetter_4 : decode cX5_nextLetter 4 = .ok (.aload_n 0, 1) := by decide +kernel
theorem dX5_nextLetter_5 : decode cX5_nextLetter 5 = .ok (.getfield 15, 3) := by decide +kernel
theorem dX5_nextLetter_8 : decode cX5_nextLetter 8 = .ok (.if_icmp .ge 30, 3) := by decide +kernel
theorem dX5_nextLetter_11 : decode cX5_nextLetter 11 = .ok (.aload_n 0, 1) := by decide +kernel
theorem dX5_nextLetter_12 : decode cX5_nextLetter 12 = .ok (.getfield 9, 3) := by decide +kernel
theorem dX5_nextLetter_15 : decode cX5_nextLetter 15 = .ok (.aload_n 0, 1) := by decide +kernel
theorem dX5_nextLetter_16 : decode cX5_nextLetter 16 = .ok (.getfield 19, 3) := by decide +kernel
theorem dX5_nextLetter_19 : decode cX5_nextLetter 19 = .ok (.iaload, 1) := by decide +kernel
theorem dX5_nextLetter_20 : decode cX5_nextLetter 20 = .ok (.bipush 32, 2) := by decide +kernel
theorem dX5_nextLetter_22 : decode cX5_nextLetter 22 = .ok (.if_icmp .ne 16, 3) := by decide +kernel
theorem dX5_nextLetter_25 : decode cX5_nextLetter 25 = .ok (.aload_n 0, 1) := by decide +kernel
theorem dX5_nextLetter_26 : decode cX5_nextLetter 26 = .ok (.dup, 1) := by decide +kernel
theorem dX5_nextLetter_27 : decode cX5_nextLetter 27 = .ok (.getfield 19, 3) := by decide +kernel
theorem dX5_nextLetter_30 : decode cX5_nextLetter 30 = .ok (.iconst 1, 1) := by decide +kernel
theorem dX5_nextLetter_31 : decode cX5_nextLetter 31 = .ok (.iadd, 1) := by decide +kernel
theorem dX5_nextLetter_32 : decode cX5_nextLetter 32 = .ok (.putfield 19, 3) := by decide +kernel
theorem dX5_nextLetter_35 : decode cX5_nextLetter 35 = .ok (.goto (-35), 3) := by decide +kernel
theorem dX5_nextLetter_38 : decode cX5_nextLetter 38 = .ok (.aload_n 0, 1) := by decide +kernel
theorem dX5_nextLetter_39 : decode cX5_nextLetter 39 = .ok (.invokevirtual 36, 3) := by decide +kernel
theorem dX5_nextLetter_42 : decode cX5_nextLetter 42 = .ok (.ireturn, 1) := by decide +kernel
theorem dX5_letterHere_0 : decode cX5_letterHere 0 = .ok (.aload_n 0, 1) := by decide +kernel
theorem dX5_letterHere_1 : decode cX5_letterHere 1 = .ok (.getfield 19, 3) := by decide +kernel
theorem dX5_letterHere_4 : decode cX5_letterHere 4 = .ok (.aload_n 0, 1) := by decide +kernel
theorem dX5_letterHere_5 : decode cX5_letterHere 5 = .ok (.getfield 15, 3) := by decide +kernel
theorem dX5_letterHere_8 : decode cX5_letterHere 8 = .ok (.if_icmp .ge 15, 3) := by decide +kernel
theorem dX5_letterHere_11 : decode cX5_letterHere 11 = .ok (.aload_n 0, 1) := by decide +kernel
theorem dX5_letterHere_12 : decode cX5_letterHere 12 = .ok (.getfield 9, 3) := by decide +kernel
theorem dX5_letterHere_15 : decode cX5_letterHere 15 = .ok (.aload_n 0, 1) := by decide +kernel
theorem dX5_letterHere_16 : decode cX5_letterHere 16 = .ok (.getfield 19, 3) := by decide +kernel
theorem dX5_letterHere_19 : decode cX5_letterHere 19 = .ok (.iaload, 1) := by decide +kernel
theorem dX5_letterHere_20 : decode cX5_letterHere 20 = .ok (.goto 4, 3) := by decide +kernel
theorem dX5_letterHere_23 : decode cX5_letterHere 23 = .ok (.iconst (-1), 1) := by decide +kernel
theorem dX5_letterHere_24 : decode cX5_letterHere 24 = .ok (.ireturn, 1) := by decide +kernel
theorem dX5_isDigit_0 : decode cX5_isDigit 0 = .ok (.iload_n 0, 1) := by decide +kernel
theorem dX5_isDigit_1 : decode cX5_isDigit 1 = .ok (.bipush 48, 2) := by decide +kernel
theorem dX5_isDigit_3 : decode cX5_isDigit 3 = .ok (.bipush 57, 2) := by decide +kernel
theorem dX5_isDigit_5 : decode cX5_isDigit 5 = .ok (.invokestatic 39, 3) := by decide +kernel
theorem dX5_isDigit_8 : decode cX5_isDigit 8 = .ok (.ireturn, 1) := by decide +kernel
theorem dX5_readRule_0 : decode cX5_readRule 0 = .ok (.iconst 0, 1) := by decide +kernel
theorem dX5_readRule_1 : decode cX5_readRule 1 = .ok (.istore_n 2, 1) := by decide +kernel
theorem dX5_readRule_2 : decode cX5_readRule 2 = .ok (.aload_n 0, 1) := by decide +kernel
theorem dX5_readRule_3 : decode cX5_readRule 3 = .ok (.invokevirtual 32, 3) := by decide +kernel
theorem dX5_readRule_6 : decode cX5_readRule 6 = .ok (.pop, 1) := by decide +kernel
theorem dX5_readRule_7 : decode cX5_readRule 7 = .ok (.aload_n 0, 1) := by decide +kernel
theorem dX5_readRule_8 : decode cX5_readRule 8 = .ok (.getfield 19, 3) := by decide +kernel
theorem dX5_readRule_11 : decode cX5_readRule 11 = .ok (.istore_n 3, 1) := by decide +kernel
theorem dX5_readRule_12 : decode cX5_readRule 12 = .ok (.aload_n 0, 1) := by decide +kernel
theorem dX5_readRule_13 : decode cX5_readRule 13 = .ok (.getfield 19, 3) := by decide +kernel
theorem dX5_readRule_16 : decode cX5_readRule 16 = .ok (.iload_n 3, 1) := by decide +kernel
theorem dX5_readRule_17 : decode cX5_readRule 17 = .ok (.iconst 2, 1) := by decide +kernel
theorem dX5_readRule_18 : decode cX5_readRule 18 = .ok (.iadd, 1) := by decide +kernel
theorem dX5_readRule_19 : decode cX5_readRule 19 = .ok (.if_icmp .ge 39, 3) := by decide +kernel
theorem dX5_readRule_22 : decode cX5_readRule 22 = .ok (.aload_n 0, 1) := by decide +kernel
theorem dX5_readRule_23 : decode cX5_readRule 23 = .ok (.invokevirtual 36, 3) := by decide +kernel
theorem dX5_readRule_26 : decode cX5_readRule 26 = .ok (.invokestatic 43, 3) := by decide +kernel
theorem dX5_readRule_29 : decode cX5_readRule 29 = .ok (.ifCond .eq 29, 3) := by decide +kernel
theorem dX5_readRule_32 : decode cX5_readRule 32 = .ok (.iload_n 2, 1) := by decide +kernel
theorem dX5_readRule_33 : decode cX5_readRule 33 = .ok (.bipush 10, 2) := by decide +kernel
theorem dX5_readRule_35 : decode cX5_readRule 35 = .ok (.imul, 1) := by decide +kernel
theorem dX5_readRule_36 : decode cX5_readRule 36 = .ok (.aload_n 0, 1) := by decide +kernel
theorem dX5_readRule_37 : decode cX5_readRule 37 = .ok (.invokevirtual 36, 3) := by decide +kernel
theorem dX5_readRule_40 : decode cX5_readRule 40 = .ok (.iadd, 1) := by decide +kernel
theorem dX5_readRule_41 : decode cX5_readRule 41 = .ok (.bipush 48, 2) := by decide +kernel
theorem dX5_readRule_43 : decode cX5_readRule 43 = .ok (.isub, 1) := by decide +kernel
theorem dX5_readRule_44 : decode cX5_readRule 44 = .ok (.istore_n 2, 1) := by decide +kernel
theorem dX5_readRule_45 : decode cX5_readRule 45 = .ok (.aload_n 0, 1) := by decide +kernel
theorem dX5_readRule_46 : decode cX5_readRule 46 = .ok (.dup, 1) := by decide +kernel
theorem dX5_readRule_47 : decode cX5_readRule 47 = .ok (.getfield 19, 3) := by decide +kernel
theorem dX5_readRule_50 : decode cX5_readRule 50 = .ok (.iconst 1, 1) := by decide +kernel
theorem dX5_readRule_51 : decode cX5_readRule 51 = .ok (.iadd, 1) := by decide +kernel
theorem dX5_readRule_52 : decode cX5_readRule 52 = .ok (.putfield 19, 3) := by decide +kernel
theorem dX5_readRule_55 : decode cX5_readRule 55 = .ok (.goto (-43), 3) := by decide +kernel
theorem dX5_readRule_58 : decode cX5_readRule 58 = .ok (.iload_n 2, 1) := by decide +kernel
theorem dX5_readRule_59 : decode cX5_readRule 59 = .ok (.iconst 1, 1) := by decide +kernel
theorem dX5_readRule_60 : decode cX5_readRule 60 = .ok (.bipush 20, 2) := by decide +kernel
theorem dX5_readRule_62 : decode cX5_readRule 62 = .ok (.invokestatic 39, 3) := by decide +kernel
theorem dX5_readRule_65 : decode cX5_readRule 65 = .ok (.ifCond .ne 10, 3) := by decide +kernel
theorem dX5_readRule_68 : decode cX5_readRule 68 = .ok (.aload_n 0, 1) := by decide +kernel
theorem dX5_readRule_69 : decode cX5_readRule 69 = .ok (.iload_n 3, 1) := by decide +kernel
theorem dX5_readRule_70 : decode cX5_readRule 70 = .ok (.putfield 19, 3) := by decide +kernel
theorem dX5_readRule_73 : decode cX5_readRule 73 = .ok (.iconst 0, 1) := by decide +kernel
theorem dX5_readRule_74 : decode cX5_readRule 74 = .ok (.ireturn, 1) := by decide +kernel
theorem dX5_readRule_75 : decode cX5_readRule 75 = .ok (.aload_n 1, 1) := by decide +kernel
theorem dX5_readRule_76 : decode cX5_readRule 76 = .ok (.iload_n 2, 1) := by decide +kernel
theorem dX5_readRule_77 : decode cX5_readRule 77 = .ok (.putfield 47, 3) := by decide +kernel
theorem dX5_readRule_80 : decode cX5_readRule 80 = .ok (.iconst 1, 1) := by decide +kernel
theorem dX5_readRule_81 : decode cX5_readRule 81 = .ok (.ireturn, 1) := by decide +kernel
theorem dX5_readPeople_0 : decode cX5_readPeople 0 = .ok (.aload_n 1, 1) := by decide +kernel
theorem dX5_readPeople_1 : decode cX5_readPeople 1 = .ok (.iconst 0, 1) := by decide +kernel
theorem dX5_readPeople_2 : decode cX5_readPeople 2 = .ok (.putfield 52, 3) := by decide +kernel
theorem dX5_readPeople_5 : decode cX5_readPeople 5 = .ok (.iconst 0, 1) := by decide +kernel
theorem dX5_readPeople_6 : decode cX5_readPeople 6 = .ok (.istore_n 2, 1) := by decide +kernel
theorem dX5_readPeople_7 : decode cX5_readPeople 7 = .ok (.iload_n 2, 1) := by decide +kernel
theorem dX5_readPeople_8 : decode cX5_readPeople 8 = .ok (.iconst 5, 1) := by decide +kernel
theorem dX5_readPeople_9 : decode cX5_readPeople 9 = .ok (.if_icmp .ge 38, 3) := by decide +kernel
theorem dX5_readPeople_12 : decode cX5_readPeople 12 = .ok (.aload_n 0, 1) := by decide +kernel
theorem dX5_readPeople_13 : decode cX5_readPeople 13 = .ok (.invokevirtual 32, 3) := by decide +kernel
theorem dX5_readPeople_16 : decode cX5_readPeople 16 = .ok (.bipush 47, 2) := by decide +kernel
theorem dX5_readPeople_18 : decode cX5_readPeople 18 = .ok (.if_icmp .ne 29, 3) := by decide +kernel
theorem dX5_readPeople_21 : decode cX5_readPeople 21 = .ok (.aload_n 0, 1) := by decide +kernel
theorem dX5_readPeople_22 : decode cX5_readPeople 22 = .ok (.dup, 1) := by decide +kernel
theorem dX5_readPeople_23 : decode cX5_readPeople 23 = .ok (.getfield 19, 3) := by decide +kernel
theorem dX5_readPeople_26 : decode cX5_readPeople 26 = .ok (.iconst 1, 1) := by decide +kernel
theorem dX5_readPeople_27 : decode cX5_readPeople 27 = .ok (.iadd, 1) := by decide +kernel
theorem dX5_readPeople_28 : decode cX5_readPeople 28 = .ok (.putfield 19, 3) := by decide +kernel
theorem dX5_readPeople_31 : decode cX5_readPeople 31 = .ok (.aload_n 0, 1) := by decide +kernel
theorem dX5_readPeople_32 : decode cX5_readPeople 32 = .ok (.aload_n 1, 1) := by decide +kernel
theorem dX5_readPeople_33 : decode cX5_readPeople 33 = .ok (.invokevirtual 55, 3) := by decide +kernel
theorem dX5_readPeople_36 : decode cX5_readPeople 36 = .ok (.ifCond .ne 5, 3) := by decide +kernel
theorem dX5_readPeople_39 : decode cX5_readPeople 39 = .ok (.iconst 0, 1) := by decide +kernel
theorem dX5_readPeople_40 : decode cX5_readPeople 40 = .ok (.ireturn, 1) := by decide +kernel
theorem dX5_readPeople_41 : decode cX5_readPeople 41 = .ok (.iinc 2 1, 3) := by decide +kernel
theorem dX5_readPeople_44 : decode cX5_readPeople 44 = .ok (.goto (-37), 3) := by decide +kernel
theorem dX5_readPeople_47 : decode cX5_readPeople 47 = .ok (.aload_n 1, 1) := by decide +kernel
theorem dX5_readPeople_48 : decode cX5_readPeople 48 = .ok (.getfield 52, 3) := by decide +kernel
theorem dX5_readPeople_51 : decode cX5_readPeople 51 = .ok (.ifCond .le 7, 3) := by decide +kernel
theorem dX5_readPeople_54 : decode cX5_readPeople 54 = .ok (.iconst 1, 1) := by decide +kernel
theorem dX5_readPeople_55 : decode cX5_readPeople 55 = .ok (.goto 4, 3) := by decide +kernel
theorem dX5_readPeople_58 : decode cX5_readPeople 58 = .ok (.iconst 0, 1) := by decide +kernel
theorem dX5_readPeople_59 : decode cX5_readPeople 59 = .ok (.ireturn, 1) := by decide +kernel
theorem dX5_readPerson_0 : decode cX5_readPerson 0 = .ok (.aload_n 0, 1) := by decide +kernel
theorem dX5_readPerson_1 : decode cX5_readPerson 1 = .ok (.invokevirtual 32, 3) := by decide +kernel
theorem dX5_readPerson_4 : decode cX5_readPerson 4 = .ok (.istore_n 2, 1) := by decide +kernel
theorem dX5_readPerson_5 : decode cX5_readPerson 5 = .ok (.iload_n 2, 1) := by decide +kernel
theorem dX5_readPerson_6 : decode cX5_readPerson 6 = .ok (.iconst (-1), 1) := by decide +kernel
theorem dX5_readPerson_7 : decode cX5_readPerson 7 = .ok (.if_icmp .ne 7, 3) := by decide +kernel
theorem dX5_readPerson_10 : decode cX5_readPerson 10 = .ok (.iconst (-1), 1) := by decide +kernel
theorem dX5_readPerson_11 : decode cX5_readPerson 11 = .ok (.goto 10, 3) := by decide +kernel
theorem dX5_readPerson_14 : decode cX5_readPerson 14 = .ok (.ldc 58, 2) := by decide +kernel
theorem dX5_readPerson_16 : decode cX5_readPerson 16 = .ok (.iload_n 2, 1) := by decide +kernel
theorem dX5_readPerson_17 : decode cX5_readPerson 17 = .ok (.i2c, 1) := by decide +kernel
theorem dX5_readPerson_18 : decode cX5_readPerson 18 = .ok (.invokevirtual 60, 3) := by decide +kernel
theorem dX5_readPerson_21 : decode cX5_readPerson 21 = .ok (.istore_n 3, 1) := by decide +kernel
theorem dX5_readPerson_22 : decode cX5_readPerson 22 = .ok (.iload_n 3, 1) := by decide +kernel
theorem dX5_readPerson_23 : decode cX5_readPerson 23 = .ok (.ifCond .ge 5, 3) := by decide +kernel
theorem dX5_readPerson_26 : decode cX5_readPerson 26 = .ok (.iconst 0, 1) := by decide +kernel
theorem dX5_readPerson_27 : decode cX5_readPerson 27 = .ok (.ireturn, 1) := by decide +kernel
theorem dX5_readPerson_28 : decode cX5_readPerson 28 = .ok (.aload_n 0, 1) := by decide +kernel
theorem dX5_readPerson_29 : decode cX5_readPerson 29 = .ok (.dup, 1) := by decide +kernel
theorem dX5_readPerson_30 : decode cX5_readPerson 30 = .ok (.getfield 19, 3) := by decide +kernel
theorem dX5_readPerson_33 : decode cX5_readPerson 33 = .ok (.iconst 1, 1) := by decide +kernel
theorem dX5_readPerson_34 : decode cX5_readPerson 34 = .ok (.iadd, 1) := by decide +kernel
theorem dX5_readPerson_35 : decode cX5_readPerson 35 = .ok (.putfield 19, 3) := by decide +kernel
theorem dX5_readPerson_38 : decode cX5_readPerson 38 = .ok (.aload_n 1, 1) := by decide +kernel
theorem dX5_readPerson_39 : decode cX5_readPerson 39 = .ok (.iload_n 3, 1) := by decide +kernel
theorem dX5_readPerson_40 : decode cX5_readPerson 40 = .ok (.iconst 0, 1) := by decide +kernel
theorem dX5_readPerson_41 : decode cX5_readPerson 41 = .ok (.invokevirtual 66, 3) := by decide +kernel
theorem dX5_readPerson_44 : decode cX5_readPerson 44 = .ok (.istore 4, 2) := by decide +kernel
theorem dX5_readPerson_46 : decode cX5_readPerson 46 = .ok (.iconst 0, 1) := by decide +kernel
theorem dX5_readPerson_47 : decode cX5_readPerson 47 = .ok (.istore 5, 2) := by decide +kernel
theorem dX5_readPerson_49 : decode cX5_readPerson 49 = .ok (.iload 5, 2) := by decide +kernel
theorem dX5_readPerson_51 : decode cX5_readPerson 51 = .ok (.iconst 4, 1) := by decide +kernel
theorem dX5_readPerson_52 : decode cX5_readPerson 52 = .ok (.if_icmp .ge 51, 3) := by decide +kernel
theorem dX5_readPerson_55 : decode cX5_readPerson 55 = .ok (.aload_n 0, 1) := by decide +kernel
theorem dX5_readPerson_56 : decode cX5_readPerson 56 = .ok (.invokevirtual 32, 3) := by decide +kernel
theorem dX5_readPerson_59 : decode cX5_readPerson 59 = .ok (.bipush 97, 2) := by decide +kernel
theorem dX5_readPerson_61 : decode cX5_readPerson 61 = .ok (.isub, 1) := by decide +kernel
theorem dX5_readPerson_62 : decode cX5_readPerson 62 = .ok (.istore 6, 2) := by decide +kernel
theorem dX5_readPerson_64 : decode cX5_readPerson 64 = .ok (.iload 6, 2) := by decide +kernel
theorem dX5_readPerson_66 : decode cX5_readPerson 66 = .ok (.iconst 0, 1) := by decide +kernel
theorem dX5_readPerson_67 : decode cX5_readPerson 67 = .ok (.bipush 20, 2) := by decide +kernel
theorem dX5_readPerson_69 : decode cX5_readPerson 69 = .ok (.invokestatic 39, 3) := by decide +kernel
theorem dX5_readPerson_72 : decode cX5_readPerson 72 = .ok (.ifCond .ne 5, 3) := by decide +kernel
theorem dX5_readPerson_75 : decode cX5_readPerson 75 = .ok (.iconst 0, 1) := by decide +kernel
theorem dX5_readPerson_76 : decode cX5_readPerson 76 = .ok (.ireturn, 1) := by decide +kernel
theorem dX5_readPerson_77 : decode cX5_readPerson 77 = .ok (.aload_n 1, 1) := by decide +kernel
theorem dX5_readPerson_78 : decode cX5_readPerson 78 = .ok (.iload 4, 2) := by decide +kernel
theorem dX5_readPerson_80 : decode cX5_readPerson 80 = .ok (.iload 5, 2) := by decide +kernel
theorem dX5_readPerson_82 : decode cX5_readPerson 82 = .ok (.iload 6, 2) := by decide +kernel
theorem dX5_readPerson_84 : decode cX5_readPerson 84 = .ok (.invokevirtual 70, 3) := by decide +kernel
theorem dX5_readPerson_87 : decode cX5_readPerson 87 = .ok (.aload_n 0, 1) := by decide +kernel
theorem dX5_readPerson_88 : decode cX5_readPerson 88 = .ok (.dup, 1) := by decide +kernel
theorem dX5_readPerson_89 : decode cX5_readPerson 89 = .ok (.getfield 19, 3) := by decide +kernel
theorem dX5_readPerson_92 : decode cX5_readPerson 92 = .ok (.iconst 1, 1) := by decide +kernel
theorem dX5_readPerson_93 : decode cX5_readPerson 93 = .ok (.iadd, 1) := by decide +kernel
theorem dX5_readPerson_94 : decode cX5_readPerson 94 = .ok (.putfield 19, 3) := by decide +kernel
theorem dX5_readPerson_97 : decode cX5_readPerson 97 = .ok (.iinc 5 1, 3) := by decide +kernel
theorem dX5_readPerson_100 : decode cX5_readPerson 100 = .ok (.goto (-51), 3) := by decide +kernel
theorem dX5_readPerson_103 : decode cX5_readPerson 103 = .ok (.iconst 1, 1) := by decide +kernel
theorem dX5_readPerson_104 : decode cX5_readPerson 104 = .ok (.ireturn, 1) := by decide +kernel
theorem dX5_readKeys_0 : decode cX5_readKeys 0 = .ok (.aload_n 0, 1) := by decide +kernel
theorem dX5_readKeys_1 : decode cX5_readKeys 1 = .ok (.invokevirtual 32, 3) := by decide +kernel
theorem dX5_readKeys_4 : decode cX5_readKeys 4 = .ok (.bipush 59, 2) := by decide +kernel
theorem dX5_readKeys_6 : decode cX5_readKeys 6 = .ok (.if_icmp .eq 5, 3) := by decide +kernel
theorem dX5_readKeys_9 : decode cX5_readKeys 9 = .ok (.iconst 0, 1) := by decide +kernel
theorem dX5_readKeys_10 : decode cX5_readKeys 10 = .ok (.ireturn, 1) := by decide +kernel
theorem dX5_readKeys_11 : decode cX5_readKeys 11 = .ok (.aload_n 0, 1) := by decide +kernel
theorem dX5_readKeys_12 : decode cX5_readKeys 12 = .ok (.dup, 1) := by decide +kernel
theorem dX5_readKeys_13 : decode cX5_readKeys 13 = .ok (.getfield 19, 3) := by decide +kernel
theorem dX5_readKeys_16 : decode cX5_readKeys 16 = .ok (.iconst 1, 1) := by decide +kernel
theorem dX5_readKeys_17 : decode cX5_readKeys 17 = .ok (.iadd, 1) := by decide +kernel
theorem dX5_readKeys_18 : decode cX5_readKeys 18 = .ok (.putfield 19, 3) := by decide +kernel
theorem dX5_readKeys_21 : decode cX5_readKeys 21 = .ok (.iconst 0, 1) := by decide +kernel
theorem dX5_readKeys_22 : decode cX5_readKeys 22 = .ok (.istore_n 2, 1) := by decide +kernel
theorem dX5_readKeys_23 : decode cX5_readKeys 23 = .ok (.iload_n 2, 1) := by decide +kernel
theorem dX5_readKeys_24 : decode cX5_readKeys 24 = .ok (.iconst 4, 1) := by decide +kernel
theorem dX5_readKeys_25 : decode cX5_readKeys 25 = .ok (.if_icmp .ge 64, 3) := by decide +kernel
theorem dX5_readKeys_28 : decode cX5_readKeys 28 = .ok (.aload_n 0, 1) := by decide +kernel
theorem dX5_readKeys_29 : decode cX5_readKeys 29 = .ok (.invokevirtual 32, 3) := by decide +kernel
theorem dX5_readKeys_32 : decode cX5_readKeys 32 = .ok (.istore_n 3, 1) := by decide +kernel
theorem dX5_readKeys_33 : decode cX5_readKeys 33 = .ok (.iload_n 3, 1) := by decide +kernel
theorem dX5_readKeys_34 : decode cX5_readKeys 34 = .ok (.bipush 45, 2) := by decide +kernel
theorem dX5_readKeys_36 : decode cX5_readKeys 36 = .ok (.if_icmp .eq 16, 3) := by decide +kernel
theorem dX5_readKeys_39 : decode cX5_readKeys 39 = .ok (.aload_n 1, 1) := by decide +kernel
theorem dX5_readKeys_40 : decode cX5_readKeys 40 = .ok (.iload_n 3, 1) := by decide +kernel
theorem dX5_readKeys_41 : decode cX5_readKeys 41 = .ok (.bipush 48, 2) := by decide +kernel
theorem dX5_readKeys_43 : decode cX5_readKeys 43 = .ok (.isub, 1) := by decide +kernel
theorem dX5_readKeys_44 : decode cX5_readKeys 44 = .ok (.invokevirtual 74, 3) := by decide +kernel
theorem dX5_readKeys_47 : decode cX5_readKeys 47 = .ok (.ifCond .ne 5, 3) := by decide +kernel
theorem dX5_readKeys_50 : decode cX5_readKeys 50 = .ok (.iconst 0, 1) := by decide +kernel
theorem dX5_readKeys_51 : decode cX5_readKeys 51 = .ok (.ireturn, 1) := by decide +kernel
theorem dX5_readKeys_52 : decode cX5_readKeys 52 = .ok (.aload_n 1, 1) := by decide +kernel
theorem dX5_readKeys_53 : decode cX5_readKeys 53 = .ok (.getfield 77, 3) := by decide +kernel
theorem dX5_readKeys_56 : decode cX5_readKeys 56 = .ok (.iload_n 2, 1) := by decide +kernel
theorem dX5_readKeys_57 : decode cX5_readKeys 57 = .ok (.iload_n 3, 1) := by decide +kernel
theorem dX5_readKeys_58 : decode cX5_readKeys 58 = .ok (.bipush 45, 2) := by decide +kernel
theorem dX5_readKeys_60 : decode cX5_readKeys 60 = .ok (.if_icmp .ne 8, 3) := by decide +kernel
theorem dX5_readKeys_63 : decode cX5_readKeys 63 = .ok (.bipush (-4), 2) := by decide +kernel
theorem dX5_readKeys_65 : decode cX5_readKeys 65 = .ok (.goto 7, 3) := by decide +kernel
theorem dX5_readKeys_68 : decode cX5_readKeys 68 = .ok (.iload_n 3, 1) := by decide +kernel
theorem dX5_readKeys_69 : decode cX5_readKeys 69 = .ok (.bipush 48, 2) := by decide +kernel
theorem dX5_readKeys_71 : decode cX5_readKeys 71 = .ok (.isub, 1) := by decide +kernel
theorem dX5_readKeys_72 : decode cX5_readKeys 72 = .ok (.iastore, 1) := by decide +kernel
theorem dX5_readKeys_73 : decode cX5_readKeys 73 = .ok (.aload_n 0, 1) := by decide +kernel
theorem dX5_readKeys_74 : decode cX5_readKeys 74 = .ok (.dup, 1) := by decide +kernel
theorem dX5_readKeys_75 : decode cX5_readKeys 75 = .ok (.getfield 19, 3) := by decide +kernel
theorem dX5_readKeys_78 : decode cX5_readKeys 78 = .ok (.iconst 1, 1) := by decide +kernel
theorem dX5_readKeys_79 : decode cX5_readKeys 79 = .ok (.iadd, 1) := by decide +kernel
theorem dX5_readKeys_80 : decode cX5_readKeys 80 = .ok (.putfield 19, 3) := by decide +kernel
theorem dX5_readKeys_83 : decode cX5_readKeys 83 = .ok (.iinc 2 1, 3) := by decide +kernel
theorem dX5_readKeys_86 : decode cX5_readKeys 86 = .ok (.goto (-63), 3) := by decide +kernel
theorem dX5_readKeys_89 : decode cX5_readKeys 89 = .ok (.iconst 1, 1) := by decide +kernel
theorem dX5_readKeys_90 : decode cX5_readKeys 90 = .ok (.ireturn, 1) := by decide +kernel
theorem dX6_init_0 : decode cX6_init 0 = .ok (.aload_n 0, 1) := by decide +kernel
theorem dX6_init_1 : decode cX6_init 1 = .ok (.invokespecial 1, 3) := by decide +kernel
theorem dX6_init_4 : decode cX6_init 4 = .ok (.aload_n 0, 1) := by decide +kernel
theorem dX6_init_5 : decode cX6_init 5 = .ok (.new 7, 3) := by decide +kernel
theorem dX6_init_8 : decode cX6_init 8 = .ok (.dup, 1) := by decide +kernel
theorem dX6_init_9 : decode cX6_init 9 = .ok (.invokespecial 9, 3) := by decide +kernel
theorem dX6_init_12 : decode cX6_init 12 = .ok (.putfield 10, 3) := by decide +kernel
theorem dX6_init_15 : decode cX6_init 15 = .ok (.aload_n 0, 1) := by decide +kernel
theorem dX6_init_16 : decode cX6_init 16 = .ok (.new 7, 3) := by decide +kernel
theorem dX6_init_19 : decode cX6_init 19 = .ok (.dup, 1) := by decide +kernel
theorem dX6_init_20 : decode cX6_init 20 = .ok (.invokespecial 9, 3) := by decide +kernel
theorem dX6_init_23 : decode cX6_init 23 = .ok (.putfield 16, 3) := by decide +kernel
theorem dX6_init_26 : decode cX6_init 26 = .ok (.aload_n 0, 1) := by decide +kernel
theorem dX6_init_27 : decode cX6_init 27 = .ok (.new 19, 3) := by decide +kernel
theorem dX6_init_30 : decode cX6_init 30 = .ok (.dup, 1) := by decide +kernel
theorem dX6_init_31 : decode cX6_init 31 = .ok (.invokespecial 21, 3) := by decide +kernel
theorem dX6_init_34 : decode cX6_init 34 = .ok (.putfield 22, 3) := by decide +kernel
theorem dX6_init_37 : decode cX6_init 37 = .ok (.aload_n 0, 1) := by decide +kernel
theorem dX6_init_38 : decode cX6_init 38 = .ok (.new 7, 3) := by decide +kernel
theorem dX6_init_41 : decode cX6_init 41 = .ok (.dup, 1) := by decide +kernel
theorem dX6_init_42 : decode cX6_init 42 = .ok (.invokespecial 9, 3) := by decide +kernel
theorem dX6_init_45 : decode cX6_init 45 = .ok (.putfield 26, 3) := by decide +kernel
theorem dX6_init_48 : decode cX6_init 48 = .ok (.aload_n 0, 1) := by decide +kernel
theorem dX6_init_49 : decode cX6_init 49 = .ok (.new 19, 3) := by decide +kernel
theorem dX6_init_52 : decode cX6_init 52 = .ok (.dup, 1) := by decide +kernel
theorem dX6_init_53 : decode cX6_init 53 = .ok (.invokespecial 21, 3) := by decide +kernel
theorem dX6_init_56 : decode cX6_init 56 = .ok (.putfield 29, 3) := by decide +kernel
theorem dX6_init_59 : decode cX6_init 59 = .ok (.aload_n 0, 1) := by decide +kernel
theorem dX6_init_60 : decode cX6_init 60 = .ok (.iconst 0, 1) := by decide +kernel
theorem dX6_init_61 : decode cX6_init 61 = .ok (.putfield 32, 3) := by decide +kernel
theorem dX6_init_64 : decode cX6_init 64 = .ok (.aload_n 0, 1) := by decide +kernel
theorem dX6_init_65 : decode cX6_init 65 = .ok (.new 36, 3) := by decide +kernel
theorem dX6_init_68 : decode cX6_init 68 = .ok (.dup, 1) := by decide +kernel
theorem dX6_init_69 : decode cX6_init 69 = .ok (.invokespecial 38, 3) := by decide +kernel
theorem dX6_init_72 : decode cX6_init 72 = .ok (.putfield 39, 3) := by decide +kernel
theorem dX6_init_75 : decode cX6_init 75 = .ok (.aload_n 0, 1) := by decide +kernel
theorem dX6_init_76 : decode cX6_init 76 = .ok (.new 43, 3) := by decide +kernel
theorem dX6_init_79 : decode cX6_init 79 = .ok (.dup, 1) := by decide +kernel
theorem dX6_init_80 : decode cX6_init 80 = .ok (.invokespecial 45, 3) := by decide +kernel
theorem dX6_init_83 : decode cX6_init 83 = .ok (.putfield 46, 3) := by decide +kernel
theorem dX6_init_86 : decode cX6_init 86 = .ok (.aload_n 0, 1) := by decide +kernel
theorem dX6_init_87 : decode cX6_init 87 = .ok (.iconst 4, 1) := by decide +kernel
theorem dX6_init_88 : decode cX6_init 88 = .ok (.anewarray 50, 3) := by decide +kernel
theorem dX6_init_91 : decode cX6_init 91 = .ok (.dup, 1) := by decide +kernel
theorem dX6_init_92 : decode cX6_init 92 = .ok (.iconst 0, 1) := by decide +kernel
theorem dX6_init_93 : decode cX6_init 93 = .ok (.new 50, 3) := by decide +kernel
theorem dX6_init_96 : decode cX6_init 96 = .ok (.dup, 1) := by decide +kernel
theorem dX6_init_97 : decode cX6_init 97 = .ok (.invokespecial 52, 3) := by decide +kernel
theorem dX6_init_100 : decode cX6_init 100 = .ok (.aastore, 1) := by decide +kernel
theorem dX6_init_101 : decode cX6_init 101 = .ok (.dup, 1) := by decide +kernel
theorem dX6_init_102 : decode cX6_init 102 = .ok (.iconst 1, 1) := by decide +kernel
theorem dX6_init_103 : decode cX6_init 103 = .ok (.new 50, 3) := by decide +kernel
theorem dX6_init_106 : decode cX6_init 106 = .ok (.dup, 1) := by decide +kernel
theorem dX6_init_107 : decode cX6_init 107 = .ok (.invokespecial 52, 3) := by decide +kernel
theorem dX6_init_110 : decode cX6_init 110 = .ok (.aastore, 1) := by decide +kernel
theorem dX6_init_111 : decode cX6_init 111 = .ok (.dup, 1) := by decide +kernel
theorem dX6_init_112 : decode cX6_init 112 = .ok (.iconst 2, 1) := by decide +kernel
theorem dX6_init_113 : decode cX6_init 113 = .ok (.new 50, 3) := by decide +kernel
theorem dX6_init_116 : decode cX6_init 116 = .ok (.dup, 1) := by decide +kernel
theorem dX6_init_117 : decode cX6_init 117 = .ok (.invokespecial 52, 3) := by decide +kernel
theorem dX6_init_120 : decode cX6_init 120 = .ok (.aastore, 1) := by decide +kernel
theorem dX6_init_121 : decode cX6_init 121 = .ok (.dup, 1) := by decide +kernel
theorem dX6_init_122 : decode cX6_init 122 = .ok (.iconst 3, 1) := by decide +kernel
theorem dX6_init_123 : decode cX6_init 123 = .ok (.new 50, 3) := by decide +kernel
theorem dX6_init_126 : decode cX6_init 126 = .ok (.dup, 1) := by decide +kernel
theorem dX6_init_127 : decode cX6_init 127 = .ok (.invokespecial 52, 3) := by decide +kernel
theorem dX6_init_130 : decode cX6_init 130 = .ok (.aastore, 1) := by decide +kernel
theorem dX6_init_131 : decode cX6_init 131 = .ok (.putfield 53, 3) := by decide +kernel
theorem dX6_init_134 : decode cX6_init 134 = .ok (.return_, 1) := by decide +kernel
theorem dX6_person_0 : decode cX6_person 0 = .ok (.iload_n 1, 1) := by decide +kernel
theorem dX6_person_1 : decode cX6_person 1 = .ok (.iconst 0, 1) := by decide +kernel
theorem dX6_person_2 : decode cX6_person 2 = .ok (.iconst 4, 1) := by decide +kernel
theorem dX6_person_3 : decode cX6_person 3 = .ok (.invokestatic 57, 3) := by decide +kernel
theorem dX6_person_6 : decode cX6_person 6 = .ok (.ifCond .eq 13, 3) := by decide +kernel
theorem dX6_person_9 : decode cX6_person 9 = .ok (.iload_n 2, 1) := by decide +kernel
theorem dX6_person_10 : decode cX6_person 10 = .ok (.iconst 0, 1) := by decide +kernel
theorem dX6_person_11 : decode cX6_person 11 = .ok (.bipush 20, 2) := by decide +kernel
theorem dX6_person_13 : decode cX6_person 13 = .ok (.invokestatic 57, 3) := by decide +kernel
theorem dX6_person_16 : decode cX6_person 16 = .ok (.ifCond .ne 5, 3) := by decide +kernel
theorem dX6_person_19 : decode cX6_person 19 = .ok (.iconst (-1), 1) := by decide +kernel
theorem dX6_person_20 : decode cX6_person 20 = .ok (.ireturn, 1) := by decide +kernel
theorem dX6_person_21 : decode cX6_person 21 = .ok (.aload_n 0, 1) := by decide +kernel
theorem dX6_person_22 : decode cX6_person 22 = .ok (.getfield 10, 3) := by decide +kernel
theorem dX6_person_25 : decode cX6_person 25 = .ok (.getfield 61, 3) := by decide +kernel
theorem dX6_person_28 : decode cX6_person 28 = .ok (.iconst 5, 1) := by decide +kernel
theorem dX6_person_29 : decode cX6_person 29 = .ok (.if_icmp .lt 6, 3) := by decide +kernel
theorem dX6_person_32 : decode cX6_person 32 = .ok (.bipush (-3), 2) := by decide +kernel
theorem dX6_person_34 : decode cX6_person 34 = .ok (.ireturn, 1) := by decide +kernel
theorem dX6_person_35 : decode cX6_person 35 = .ok (.aload_n 0, 1) := by decide +kernel
theorem dX6_person_36 : decode cX6_person 36 = .ok (.getfield 22, 3) := by decide +kernel
theorem dX6_person_39 : decode cX6_person 39 = .ok (.invokevirtual 65, 3) := by decide +kernel
theorem dX6_person_42 : decode cX6_person 42 = .ok (.aload_n 0, 1) := by decide +kernel
theorem dX6_person_43 : decode cX6_person 43 = .ok (.getfield 10, 3) := by decide +kernel
theorem dX6_person_46 : decode cX6_person 46 = .ok (.iload_n 1, 1) := by decide +kernel
theorem dX6_person_47 : decode cX6_person 47 = .ok (.iload_n 2, 1) := by decide +kernel
theorem dX6_person_48 : decode cX6_person 48 = .ok (.invokevirtual 68, 3) := by decide +kernel
theorem dX6_person_51 : decode cX6_person 51 = .ok (.ireturn, 1) := by decide +kernel
theorem dX6_rule_0 : decode cX6_rule 0 = .ok (.iload_n 1, 1) := by decide +kernel
theorem dX6_rule_1 : decode cX6_rule 1 = .ok (.iconst 1, 1) := by decide +kernel
theorem dX6_rule_2 : decode cX6_rule 2 = .ok (.bipush 20, 2) := by decide +kernel
theorem dX6_rule_4 : decode cX6_rule 4 = .ok (.invokestatic 57, 3) := by decide +kernel
theorem dX6_rule_7 : decode cX6_rule 7 = .ok (.ifCond .ne 5, 3) := by decide +kernel
theorem dX6_rule_10 : decode cX6_rule 10 = .ok (.iconst (-1), 1) := by decide +kernel
theorem dX6_rule_11 : decode cX6_rule 11 = .ok (.ireturn, 1) := by decide +kernel
theorem dX6_rule_12 : decode cX6_rule 12 = .ok (.aload_n 0, 1) := by decide +kernel
theorem dX6_rule_13 : decode cX6_rule 13 = .ok (.getfield 10, 3) := by decide +kernel
theorem dX6_rule_16 : decode cX6_rule 16 = .ok (.getfield 72, 3) := by decide +kernel
theorem dX6_rule_19 : decode cX6_rule 19 = .ok (.istore_n 2, 1) := by decide +kernel
theorem dX6_rule_20 : decode cX6_rule 20 = .ok (.aload_n 0, 1) := by decide +kernel
theorem dX6_rule_21 : decode cX6_rule 21 = .ok (.getfield 10, 3) := by decide +kernel
theorem dX6_rule_24 : decode cX6_rule 24 = .ok (.iload_n 1, 1) := by decide +kernel
theorem dX6_rule_25 : decode cX6_rule 25 = .ok (.putfield 72, 3) := by decide +kernel
theorem dX6_rule_28 : decode cX6_rule 28 = .ok (.iload_n 2, 1) := by decide +kernel
theorem dX6_rule_29 : decode cX6_rule 29 = .ok (.ireturn, 1) := by decide +kernel
theorem dX6_wants_0 : decode cX6_wants 0 = .ok (.aload_n 0, 1) := by decide +kernel
theorem dX6_wants_1 : decode cX6_wants 1 = .ok (.getfield 10, 3) := by decide +kernel
theorem dX6_wants_4 : decode cX6_wants 4 = .ok (.iload_n 1, 1) := by decide +kernel
theorem dX6_wants_5 : decode cX6_wants 5 = .ok (.invokevirtual 75, 3) := by decide +kernel
theorem dX6_wants_8 : decode cX6_wants 8 = .ok (.ifCond .eq 10, 3) := by decide +kernel
theorem dX6_wants_11 : decode cX6_wants 11 = .ok (.iload_n 2, 1) := by decide +kernel
theorem dX6_wants_12 : decode cX6_wants 12 = .ok (.invokestatic 79, 3) := by decide +kernel
theorem dX6_wants_15 : decode cX6_wants 15 = .ok (.ifCond .ne 5, 3) := by decide +kernel
theorem dX6_wants_18 : decode cX6_wants 18 = .ok (.iconst (-1), 1) := by decide +kernel
theorem dX6_wants_19 : decode cX6_wants 19 = .ok (.ireturn, 1) := by decide +kernel
theorem dX6_wants_20 : decode cX6_wants 20 = .ok (.aload_n 0, 1) := by decide +kernel
theorem dX6_wants_21 : decode cX6_wants 21 = .ok (.getfield 10, 3) := by decide +kernel
theorem dX6_wants_24 : decode cX6_wants 24 = .ok (.iload_n 1, 1) := by decide +kernel
theorem dX6_wants_25 : decode cX6_wants 25 = .ok (.iload_n 2, 1) := by decide +kernel
theorem dX6_wants_26 : decode cX6_wants 26 = .ok (.invokevirtual 82, 3) := by decide +kernel
theorem dX6_wants_29 : decode cX6_wants 29 = .ok (.ireturn, 1) := by decide +kernel
theorem dX6_of_0 : decode cX6_of 0 = .ok (.aload_n 0, 1) := by decide +kernel
theorem dX6_of_1 : decode cX6_of 1 = .ok (.getfield 10, 3) := by decide +kernel
theorem dX6_of_4 : decode cX6_of 4 = .ok (.iload_n 1, 1) := by decide +kernel
theorem dX6_of_5 : decode cX6_of 5 = .ok (.invokevirtual 75, 3) := by decide +kernel
theorem dX6_of_8 : decode cX6_of 8 = .ok (.ifCond .ne 5, 3) := by decide +kernel
theorem dX6_of_11 : decode cX6_of 11 = .ok (.iconst (-1), 1) := by decide +kernel
theorem dX6_of_12 : decode cX6_of 12 = .ok (.ireturn, 1) := by decide +kernel
theorem dX6_of_13 : decode cX6_of 13 = .ok (.iload_n 2, 1) := by decide +kernel
theorem dX6_of_14 : decode cX6_of 14 = .ok (.tableswitch 54 0 2 #[26, 36, 45], 26) := by decide +kernel
theorem dX6_of_40 : decode cX6_of 40 = .ok (.aload_n 0, 1) := by decide +kernel
theorem dX6_of_41 : decode cX6_of 41 = .ok (.getfield 10, 3) := by decide +kernel
theorem dX6_of_44 : decode cX6_of 44 = .ok (.getfield 85, 3) := by decide +kernel
theorem dX6_of_47 : decode cX6_of 47 = .ok (.iload_n 1, 1) := by decide +kernel
theorem dX6_of_48 : decode cX6_of 48 = .ok (.iaload, 1) := by decide +kernel
theorem dX6_of_49 : decode cX6_of 49 = .ok (.ireturn, 1) := by decide +kernel
theorem dX6_of_50 : decode cX6_of 50 = .ok (.aload_n 0, 1) := by decide +kernel
theorem dX6_of_51 : decode cX6_of 51 = .ok (.getfield 10, 3) := by decide +kernel
theorem dX6_of_54 : decode cX6_of 54 = .ok (.iload_n 1, 1) := by decide +kernel
theorem dX6_of_55 : decode cX6_of 55 = .ok (.invokevirtual 89, 3) := by decide +kernel
theorem dX6_of_58 : decode cX6_of 58 = .ok (.ireturn, 1) := by decide +kernel
theorem dX6_of_59 : decode cX6_of 59 = .ok (.aload_n 0, 1) := by decide +kernel
theorem dX6_of_60 : decode cX6_of 60 = .ok (.getfield 10, 3) := by decide +kernel
theorem dX6_of_63 : decode cX6_of 63 = .ok (.iload_n 1, 1) := by decide +kernel
theorem dX6_of_64 : decode cX6_of 64 = .ok (.invokevirtual 93, 3) := by decide +kernel
theorem dX6_of_67 : decode cX6_of 67 = .ok (.ireturn, 1) := by decide +kernel
theorem dX6_of_68 : decode cX6_of 68 = .ok (.iconst (-1), 1) := by decide +kernel
theorem dX6_of_69 : decode cX6_of 69 = .ok (.ireturn, 1) := by decide +kernel
theorem dX6_at_0 : decode cX6_at 0 = .ok (.iload_n 1, 1) := by decide +kernel
theorem dX6_at_1 : decode cX6_at 1 = .ok (.invokestatic 79, 3) := by decide +kernel
theorem dX6_at_4 : decode cX6_at 4 = .ok (.ifCond .ne 5, 3) := by decide +kernel
theorem dX6_at_7 : decode cX6_at 7 = .ok (.iconst (-1), 1) := by decide +kernel
theorem dX6_at_8 : decode cX6_at 8 = .ok (.ireturn, 1) := by decide +kernel
theorem dX6_at_9 : decode cX6_at 9 = .ok (.iload_n 2, 1) := by decide +kernel
theorem dX6_at_10 : decode cX6_at 10 = .ok (.tableswitch 54 0 2 #[26, 36, 45], 26) := by decide +kernel
theorem dX6_at_36 : decode cX6_at 36 = .ok (.aload_n 0, 1) := by decide +kernel
theorem dX6_at_37 : decode cX6_at 37 = .ok (.getfield 10, 3) := by decide +kernel
theorem dX6_at_40 : decode cX6_at 40 = .ok (.getfield 96, 3) := by decide +kernel
theorem dX6_at_43 : decode cX6_at 43 = .ok (.iload_n 1, 1) := by decide +kernel
theorem dX6_at_44 : decode cX6_at 44 = .ok (.iaload, 1) := by decide +kernel
theorem dX6_at_45 : decode cX6_at 45 = .ok (.ireturn, 1) := by decide +kernel
theorem dX6_at_46 : decode cX6_at 46 = .ok (.aload_n 0, 1) := by decide +kernel
theorem dX6_at_47 : decode cX6_at 47 = .ok (.getfield 10, 3) := by decide +kernel
theorem dX6_at_50 : decode cX6_at 50 = .ok (.iload_n 1, 1) := by decide +kernel
theorem dX6_at_51 : decode cX6_at 51 = .ok (.invokevirtual 99, 3) := by decide +kernel
theorem dX6_at_54 : decode cX6_at 54 = .ok (.ireturn, 1) := by decide +kernel
theorem dX6_at_55 : decode cX6_at 55 = .ok (.aload_n 0, 1) := by decide +kernel
theorem dX6_at_56 : decode cX6_at 56 = .ok (.getfield 10, 3) := by decide +kernel
theorem dX6_at_59 : decode cX6_at 59 = .ok (.iload_n 1, 1) := by decide +kernel
theorem dX6_at_60 : decode cX6_at 60 = .ok (.invokevirtual 102, 3) := by decide +kernel
theorem dX6_at_63 : decode cX6_at 63 = .ok (.ireturn, 1) := by decide +kernel
theorem dX6_at_64 : decode cX6_at 64 = .ok (.iconst (-1), 1) := by decide +kernel
theorem dX6_at_65 : decode cX6_at 65 = .ok (.ireturn, 1) := by decide +kernel
theorem dX6_type_0 : decode cX6_type 0 = .ok (.iload_n 1, 1) := by decide +kernel
theorem dX6_type_1 : decode cX6_type 1 = .ok (.bipush 32, 2) := by decide +kernel
theorem dX6_type_3 : decode cX6_type 3 = .ok (.bipush 126, 2) := by decide +kernel
theorem dX6_type_5 : decode cX6_type 5 = .ok (.invokestatic 57, 3) := by decide +kernel
theorem dX6_type_8 : decode cX6_type 8 = .ok (.ifCond .ne 5, 3) := by decide +kernel
theorem dX6_type_11 : decode cX6_type 11 = .ok (.iconst (-1), 1) := by decide +kernel
theorem dX6_type_12 : decode cX6_type 12 = .ok (.ireturn, 1) := by decide +kernel
theorem dX6_type_13 : decode cX6_type 13 = .ok (.aload_n 0, 1) := by decide +kernel
theorem dX6_type_14 : decode cX6_type 14 = .ok (.getfield 39, 3) := by decide +kernel
theorem dX6_type_17 : decode cX6_type 17 = .ok (.getfield 105, 3) := by decide +kernel
theorem dX6_type_20 : decode cX6_type 20 = .ok (.bipush 50, 2) := by decide +kernel
theorem dX6_type_22 : decode cX6_type 22 = .ok (.if_icmp .lt 6, 3) := by decide +kernel
theorem dX6_type_25 : decode cX6_type 25 = .ok (.bipush (-3), 2) := by decide +kernel
theorem dX6_type_27 : decode cX6_type 27 = .ok (.ireturn, 1) := by decide +kernel
theorem dX6_type_28 : decode cX6_type 28 = .ok (.aload_n 0, 1) := by decide +kernel
theorem dX6_type_29 : decode cX6_type 29 = .ok (.getfield 39, 3) := by decide +kernel
theorem dX6_type_32 : decode cX6_type 32 = .ok (.iload_n 1, 1) := by decide +kernel
theorem dX6_type_33 : decode cX6_type 33 = .ok (.invokevirtual 108, 3) := by decide +kernel
theorem dX6_type_36 : decode cX6_type 36 = .ok (.ireturn, 1) := by decide +kernel
theorem dX6_college_0 : decode cX6_college 0 = .ok (.aload_n 0, 1) := by decide +kernel
theorem dX6_college_1 : decode cX6_college 1 = .ok (.getfield 39, 3) := by decide +kernel
theorem dX6_college_4 : decode cX6_college 4 = .ok (.aload_n 0, 1) := by decide +kernel
theorem dX6_college_5 : decode cX6_college 5 = .ok (.getfield 16, 3) := by decide +kernel
theorem dX6_college_8 : decode cX6_college 8 = .ok (.invokevirtual 111, 3) := by decide +kernel
theorem dX6_college_11 : decode cX6_college 11 = .ok (.istore_n 1, 1) := by decide +kernel
theorem dX6_college_12 : decode cX6_college 12 = .ok (.aload_n 0, 1) := by decide +kernel
theorem dX6_college_13 : decode cX6_college 13 = .ok (.getfield 39, 3) := by decide +kernel
theorem dX6_college_16 : decode cX6_college 16 = .ok (.iconst 0, 1) := by decide +kernel
theorem dX6_college_17 : decode cX6_college 17 = .ok (.putfield 105, 3) := by decide +kernel
theorem dX6_college_20 : decode cX6_college 20 = .ok (.iload_n 1, 1) := by decide +kernel
theorem dX6_college_21 : decode cX6_college 21 = .ok (.ifCond .eq 5, 3) := by decide +kernel
theorem dX6_college_24 : decode cX6_college 24 = .ok (.iload_n 1, 1) := by decide +kernel
theorem dX6_college_25 : decode cX6_college 25 = .ok (.ireturn, 1) := by decide +kernel
theorem dX6_college_26 : decode cX6_college 26 = .ok (.aload_n 0, 1) := by decide +kernel
theorem dX6_college_27 : decode cX6_college 27 = .ok (.getfield 16, 3) := by decide +kernel
theorem dX6_college_30 : decode cX6_college 30 = .ok (.iconst 0, 1) := by decide +kernel
theorem dX6_college_31 : decode cX6_college 31 = .ok (.putfield 115, 3) := by decide +kernel
theorem dX6_college_34 : decode cX6_college 34 = .ok (.aload_n 0, 1) := by decide +kernel
theorem dX6_college_35 : decode cX6_college 35 = .ok (.getfield 16, 3) := by decide +kernel
theorem dX6_college_38 : decode cX6_college 38 = .ok (.iconst 0, 1) := by decide +kernel
theorem dX6_college_39 : decode cX6_college 39 = .ok (.putfield 118, 3) := by decide +kernel
theorem dX6_college_42 : decode cX6_college 42 = .ok (.aload_n 0, 1) := by decide +kernel
theorem dX6_college_43 : decode cX6_college 43 = .ok (.getfield 16, 3) := by decide +kernel
theorem dX6_college_46 : decode cX6_college 46 = .ok (.aload_n 0, 1) := by decide +kernel
theorem dX6_college_47 : decode cX6_college 47 = .ok (.getfield 10, 3) := by decide +kernel
theorem dX6_college_50 : decode cX6_college 50 = .ok (.getfield 121, 3) := by decide +kernel
theorem dX6_college_53 : decode cX6_college 53 = .ok (.putfield 121, 3) := by decide +kernel
theorem dX6_college_56 : decode cX6_college 56 = .ok (.aload_n 0, 1) := by decide +kernel
theorem dX6_college_57 : decode cX6_college 57 = .ok (.getfield 10, 3) := by decide +kernel
theorem dX6_college_60 : decode cX6_college 60 = .ok (.aload_n 0, 1) := by decide +kernel
theorem dX6_college_61 : decode cX6_college 61 = .ok (.getfield 16, 3) := by decide +kernel
theorem dX6_college_64 : decode cX6_college 64 = .ok (.invokevirtual 124, 3) := by decide +kernel
theorem dX6_college_67 : decode cX6_college 67 = .ok (.aload_n 0, 1) := by decide +kernel
theorem dX6_college_68 : decode cX6_college 68 = .ok (.getfield 22, 3) := by decide +kernel
theorem dX6_college_71 : decode cX6_college 71 = .ok (.invokevirtual 65, 3) := by decide +kernel
theorem dX6_college_74 : decode cX6_college 74 = .ok (.aload_n 0, 1) := by decide +kernel
theorem dX6_college_75 : decode cX6_college 75 = .ok (.getfield 10, 3) := by decide +kernel
theorem dX6_college_78 : decode cX6_college 78 = .ok (.getfield 61, 3) := by decide +kernel
theorem dX6_college_81 : decode cX6_college 81 = .ok (.ireturn, 1) := by decide +kernel
theorem dX6_count_0 : decode cX6_count 0 = .ok (.iload_n 1, 1) := by decide +kernel
theorem dX6_count_1 : decode cX6_count 1 = .ok (.tableswitch 111 0 7 #[47, 55, 63, 71, 79, 87, 95, 103], 47) := by decide +kernel
theorem dX6_count_48 : decode cX6_count 48 = .ok (.aload_n 0, 1) := by decide +kernel
theorem dX6_count_49 : decode cX6_count 49 = .ok (.getfield 10, 3) := by decide +kernel
theorem dX6_count_52 : decode cX6_count 52 = .ok (.getfield 61, 3) := by decide +kernel
theorem dX6_count_55 : decode cX6_count 55 = .ok (.ireturn, 1) := by decide +kernel
theorem dX6_count_56 : decode cX6_count 56 = .ok (.aload_n 0, 1) := by decide +kernel
theorem dX6_count_57 : decode cX6_count 57 = .ok (.getfield 10, 3) := by decide +kernel
theorem dX6_count_60 : decode cX6_count 60 = .ok (.getfield 115, 3) := by decide +kernel
theorem dX6_count_63 : decode cX6_count 63 = .ok (.ireturn, 1) := by decide +kernel
theorem dX6_count_64 : decode cX6_count 64 = .ok (.aload_n 0, 1) := by decide +kernel
theorem dX6_count_65 : decode cX6_count 65 = .ok (.getfield 10, 3) := by decide +kernel
theorem dX6_count_68 : decode cX6_count 68 = .ok (.getfield 72, 3) := by decide +kernel
theorem dX6_count_71 : decode cX6_count 71 = .ok (.ireturn, 1) := by decide +kernel
theorem dX6_count_72 : decode cX6_count 72 = .ok (.aload_n 0, 1) := by decide +kernel
theorem dX6_count_73 : decode cX6_count 73 = .ok (.getfield 10, 3) := by decide +kernel
theorem dX6_count_76 : decode cX6_count 76 = .ok (.getfield 118, 3) := by decide +kernel
theorem dX6_count_79 : decode cX6_count 79 = .ok (.ireturn, 1) := by decide +kernel
theorem dX6_count_80 : decode cX6_count 80 = .ok (.aload_n 0, 1) := by decide +kernel
theorem dX6_count_81 : decode cX6_count 81 = .ok (.getfield 10, 3) := by decide +kernel
theorem dX6_count_84 : decode cX6_count 84 = .ok (.invokevirtual 128, 3) := by decide +kernel
theorem dX6_count_87 : decode cX6_count 87 = .ok (.ireturn, 1) := by decide +kernel
theorem dX6_count_88 : decode cX6_count 88 = .ok (.aload_n 0, 1) := by decide +kernel
theorem dX6_count_89 : decode cX6_count 89 = .ok (.getfield 10, 3) := by decide +kernel
theorem dX6_count_92 : decode cX6_count 92 = .ok (.invokevirtual 132, 3) := by decide +kernel
theorem dX6_count_95 : decode cX6_count 95 = .ok (.ireturn, 1) := by decide +kernel
theorem dX6_count_96 : decode cX6_count 96 = .ok (.aload_n 0, 1) := by decide +kernel
theorem dX6_count_97 : decode cX6_count 97 = .ok (.getfield 10, 3) := by decide +kernel
theorem dX6_count_100 : decode cX6_count 100 = .ok (.invokevirtual 135, 3) := by decide +kernel
theorem dX6_count_103 : decode cX6_count 103 = .ok (.ireturn, 1) := by decide +kernel
theorem dX6_count_104 : decode cX6_count 104 = .ok (.aload_n 0, 1) := by decide +kernel
theorem dX6_count_105 : decode cX6_count 105 = .ok (.getfield 22, 3) := by decide +kernel
theorem dX6_count_108 : decode cX6_count 108 = .ok (.getfield 138, 3) := by decide +kernel
theorem dX6_count_111 : decode cX6_count 111 = .ok (.ireturn, 1) := by decide +kernel
theorem dX6_count_112 : decode cX6_count 112 = .ok (.iconst (-1), 1) := by decide +kernel
theorem dX6_count_113 : decode cX6_count 113 = .ok (.ireturn, 1) := by decide +kernel
theorem dX6_days_0 : decode cX6_days 0 = .ok (.aload_n 0, 1) := by decide +kernel
theorem dX6_days_1 : decode cX6_days 1 = .ok (.iload_n 1, 1) := by decide +kernel
theorem dX6_days_2 : decode cX6_days 2 = .ok (.iconst 0, 1) := by decide +kernel
theorem dX6_days_3 : decode cX6_days 3 = .ok (.invokevirtual 141, 3) := by decide +kernel
theorem dX6_days_6 : decode cX6_days 6 = .ok (.ireturn, 1) := by decide +kernel
theorem dX6_talk_0 : decode cX6_talk 0 = .ok (.aload_n 0, 1) := by decide +kernel
theorem dX6_talk_1 : decode cX6_talk 1 = .ok (.getfield 10, 3) := by decide +kernel
theorem dX6_talk_4 : decode cX6_talk 4 = .ok (.iload_n 1, 1) := by decide +kernel
theorem dX6_talk_5 : decode cX6_talk 5 = .ok (.invokevirtual 75, 3) := by decide +kernel
theorem dX6_talk_8 : decode cX6_talk 8 = .ok (.ifCond .eq 20, 3) := by decide +kernel
theorem dX6_talk_11 : decode cX6_talk 11 = .ok (.iload_n 2, 1) := by decide +kernel
theorem dX6_talk_12 : decode cX6_talk 12 = .ok (.invokestatic 79, 3) := by decide +kernel
theorem dX6_talk_15 : decode cX6_talk 15 = .ok (.ifCond .eq 13, 3) := by decide +kernel
theorem dX6_talk_18 : decode cX6_talk 18 = .ok (.iload_n 3, 1) := by decide +kernel
theorem dX6_talk_19 : decode cX6_talk 19 = .ok (.iconst 1, 1) := by decide +kernel
theorem dX6_talk_20 : decode cX6_talk 20 = .ok (.bipush 20, 2) := by decide +kernel
theorem dX6_talk_22 : decode cX6_talk 22 = .ok (.invokestatic 57, 3) := by decide +kernel
theorem dX6_talk_25 : decode cX6_talk 25 = .ok (.ifCond .ne 5, 3) := by decide +kernel
theorem dX6_talk_28 : decode cX6_talk 28 = .ok (.iconst (-1), 1) := by decide +kernel
theorem dX6_talk_29 : decode cX6_talk 29 = .ok (.ireturn, 1) := by decide +kernel
theorem dX6_talk_30 : decode cX6_talk 30 = .ok (.aload_n 0, 1) := by decide +kernel
theorem dX6_talk_31 : decode cX6_talk 31 = .ok (.getfield 10, 3) := by decide +kernel
theorem dX6_talk_34 : decode cX6_talk 34 = .ok (.iload_n 1, 1) := by decide +kernel
theorem dX6_talk_35 : decode cX6_talk 35 = .ok (.iload_n 2, 1) := by decide +kernel
theorem dX6_talk_36 : decode cX6_talk 36 = .ok (.invokevirtual 82, 3) := by decide +kernel
theorem dX6_talk_39 : decode cX6_talk 39 = .ok (.bipush 20, 2) := by decide +kernel
theorem dX6_talk_41 : decode cX6_talk 41 = .ok (.if_icmp .lt 6, 3) := by decide +kernel
theorem dX6_talk_44 : decode cX6_talk 44 = .ok (.bipush (-2), 2) := by decide +kernel
theorem dX6_talk_46 : decode cX6_talk 46 = .ok (.ireturn, 1) := by decide +kernel
theorem dX6_talk_47 : decode cX6_talk 47 = .ok (.aload_n 0, 1) := by decide +kernel
theorem dX6_talk_48 : decode cX6_talk 48 = .ok (.getfield 22, 3) := by decide +kernel
theorem dX6_talk_51 : decode cX6_talk 51 = .ok (.aload_n 0, 1) := by decide +kernel
theorem dX6_talk_52 : decode cX6_talk 52 = .ok (.getfield 10, 3) := by decide +kernel
theorem dX6_talk_55 : decode cX6_talk 55 = .ok (.invokevirtual 145, 3) := by decide +kernel
theorem dX6_talk_58 : decode cX6_talk 58 = .ok (.aload_n 0, 1) := by decide +kernel
theorem dX6_talk_59 : decode cX6_talk 59 = .ok (.getfield 10, 3) := by decide +kernel
theorem dX6_talk_62 : decode cX6_talk 62 = .ok (.iload_n 1, 1) := by decide +kernel
theorem dX6_talk_63 : decode cX6_talk 63 = .ok (.iload_n 2, 1) := by decide +kernel
theorem dX6_talk_64 : decode cX6_talk 64 = .ok (.iload_n 3, 1) := by decide +kernel
theorem dX6_talk_65 : decode cX6_talk 65 = .ok (.invokevirtual 149, 3) := by decide +kernel
theorem dX6_talk_68 : decode cX6_talk 68 = .ok (.aload_n 0, 1) := by decide +kernel
theorem dX6_talk_69 : decode cX6_talk 69 = .ok (.getfield 10, 3) := by decide +kernel
theorem dX6_talk_72 : decode cX6_talk 72 = .ok (.iload_n 1, 1) := by decide +kernel
theorem dX6_talk_73 : decode cX6_talk 73 = .ok (.iload_n 2, 1) := by decide +kernel
theorem dX6_talk_74 : decode cX6_talk 74 = .ok (.invokevirtual 82, 3) := by decide +kernel
theorem dX6_talk_77 : decode cX6_talk 77 = .ok (.ireturn, 1) := by decide +kernel
theorem dX6_give_0 : decode cX6_give 0 = .ok (.iload_n 1, 1) := by decide +kernel
theorem dX6_give_1 : decode cX6_give 1 = .ok (.invokestatic 79, 3) := by decide +kernel
theorem dX6_give_4 : decode cX6_give 4 = .ok (.ifCond .eq 20, 3) := by decide +kernel
theorem dX6_give_7 : decode cX6_give 7 = .ok (.iload_n 2, 1) := by decide +kernel
theorem dX6_give_8 : decode cX6_give 8 = .ok (.bipush (-4), 2) := by decide +kernel
theorem dX6_give_10 : decode cX6_give 10 = .ok (.if_icmp .eq 16, 3) := by decide +kernel
theorem dX6_give_13 : decode cX6_give 13 = .ok (.aload_n 0, 1) := by decide +kernel
theorem dX6_give_14 : decode cX6_give 14 = .ok (.getfield 10, 3) := by decide +kernel
theorem dX6_give_17 : decode cX6_give 17 = .ok (.iload_n 2, 1) := by decide +kernel
theorem dX6_give_18 : decode cX6_give 18 = .ok (.invokevirtual 75, 3) := by decide +kernel
theorem dX6_give_21 : decode cX6_give 21 = .ok (.ifCond .ne 5, 3) := by decide +kernel
theorem dX6_give_24 : decode cX6_give 24 = .ok (.iconst (-1), 1) := by decide +kernel
theorem dX6_give_25 : decode cX6_give 25 = .ok (.ireturn, 1) := by decide +kernel
theorem dX6_give_26 : decode cX6_give 26 = .ok (.aload_n 0, 1) := by decide +kernel
theorem dX6_give_27 : decode cX6_give 27 = .ok (.getfield 10, 3) := by decide +kernel
theorem dX6_give_30 : decode cX6_give 30 = .ok (.getfield 96, 3) := by decide +kernel
theorem dX6_give_33 : decode cX6_give 33 = .ok (.iload_n 1, 1) := by decide +kernel
theorem dX6_give_34 : decode cX6_give 34 = .ok (.iaload, 1) := by decide +kernel
theorem dX6_give_35 : decode cX6_give 35 = .ok (.istore_n 3, 1) := by decide +kernel
theorem dX6_give_36 : decode cX6_give 36 = .ok (.iload_n 3, 1) := by decide +kernel
theorem dX6_give_37 : decode cX6_give 37 = .ok (.iload_n 2, 1) := by decide +kernel
theorem dX6_give_38 : decode cX6_give 38 = .ok (.if_icmp .ne 6, 3) := by decide +kernel
theorem dX6_give_41 : decode cX6_give 41 = .ok (.bipush (-2), 2) := by decide +kernel
theorem dX6_give_43 : decode cX6_give 43 = .ok (.ireturn, 1) := by decide +kernel
theorem dX6_give_44 : decode cX6_give 44 = .ok (.aload_n 0, 1) := by decide +kernel
theorem dX6_give_45 : decode cX6_give 45 = .ok (.getfield 22, 3) := by decide +kernel
theorem dX6_give_48 : decode cX6_give 48 = .ok (.aload_n 0, 1) := by decide +kernel
theorem dX6_give_49 : decode cX6_give 49 = .ok (.getfield 10, 3) := by decide +kernel
theorem dX6_give_52 : decode cX6_give 52 = .ok (.invokevirtual 145, 3) := by decide +kernel
theorem dX6_give_55 : decode cX6_give 55 = .ok (.aload_n 0, 1) := by decide +kernel
theorem dX6_give_56 : decode cX6_give 56 = .ok (.getfield 10, 3) := by decide +kernel
theorem dX6_give_59 : decode cX6_give 59 = .ok (.getfield 96, 3) := by decide +kernel
theorem dX6_give_62 : decode cX6_give 62 = .ok (.iload_n 1, 1) := by decide +kernel
theorem dX6_give_63 : decode cX6_give 63 = .ok (.iload_n 2, 1) := by decide +kernel
theorem dX6_give_64 : decode cX6_give 64 = .ok (.iastore, 1) := by decide +kernel
theorem dX6_give_65 : decode cX6_give 65 = .ok (.iload_n 3, 1) := by decide +kernel
theorem dX6_give_66 : decode cX6_give 66 = .ok (.ireturn, 1) := by decide +kernel
theorem dX6_drift_0 : decode cX6_drift 0 = .ok (.aload_n 0, 1) := by decide +kernel
theorem dX6_drift_1 : decode cX6_drift 1 = .ok (.iload_n 1, 1) := by decide +kernel
theorem dX6_drift_2 : decode cX6_drift 2 = .ok (.iconst 1, 1) := by decide +kernel
theorem dX6_drift_3 : decode cX6_drift 3 = .ok (.invokevirtual 141, 3) := by decide +kernel
theorem dX6_drift_6 : decode cX6_drift 6 = .ok (.ireturn, 1) := by decide +kernel
theorem dX6_undo_0 : decode cX6_undo 0 = .ok (.aload_n 0, 1) := by decide +kernel
theorem dX6_undo_1 : decode cX6_undo 1 = .ok (.getfield 22, 3) := by decide +kernel
theorem dX6_undo_4 : decode cX6_undo 4 = .ok (.getfield 138, 3) := by decide +kernel
theorem dX6_undo_7 : decode cX6_undo 7 = .ok (.ifCond .ne 6, 3) := by decide +kernel
theorem dX6_undo_10 : decode cX6_undo 10 = .ok (.bipush (-4), 2) := by decide +kernel
theorem dX6_undo_12 : decode cX6_undo 12 = .ok (.ireturn, 1) := by decide +kernel
theorem dX6_undo_13 : decode cX6_undo 13 = .ok (.aload_n 0, 1) := by decide +kernel
theorem dX6_undo_14 : decode cX6_undo 14 = .ok (.getfield 22, 3) := by decide +kernel
theorem dX6_undo_17 : decode cX6_undo 17 = .ok (.aload_n 0, 1) := by decide +kernel
theorem dX6_undo_18 : decode cX6_undo 18 = .ok (.getfield 10, 3) := by decide +kernel
theorem dX6_undo_21 : decode cX6_undo 21 = .ok (.invokevirtual 153, 3) := by decide +kernel
theorem dX6_undo_24 : decode cX6_undo 24 = .ok (.aload_n 0, 1) := by decide +kernel
theorem dX6_undo_25 : decode cX6_undo 25 = .ok (.getfield 22, 3) := by decide +kernel
theorem dX6_undo_28 : decode cX6_undo 28 = .ok (.getfield 138, 3) := by decide +kernel
theorem dX6_undo_31 : decode cX6_undo 31 = .ok (.ireturn, 1) := by decide +kernel
theorem dX6_seed_0 : decode cX6_seed 0 = .ok (.iload_n 1, 1) := by decide +kernel
theorem dX6_seed_1 : decode cX6_seed 1 = .ok (.ifCond .ge 5, 3) := by decide +kernel
theorem dX6_seed_4 : decode cX6_seed 4 = .ok (.iconst (-1), 1) := by decide +kernel
theorem dX6_seed_5 : decode cX6_seed 5 = .ok (.ireturn, 1) := by decide +kernel
theorem dX6_seed_6 : decode cX6_seed 6 = .ok (.aload_n 0, 1) := by decide +kernel
theorem dX6_seed_7 : decode cX6_seed 7 = .ok (.getfield 10, 3) := by decide +kernel
theorem dX6_seed_10 : decode cX6_seed 10 = .ok (.getfield 121, 3) := by decide +kernel
theorem dX6_seed_13 : decode cX6_seed 13 = .ok (.istore_n 2, 1) := by decide +kernel
theorem dX6_seed_14 : decode cX6_seed 14 = .ok (.aload_n 0, 1) := by decide +kernel
theorem dX6_seed_15 : decode cX6_seed 15 = .ok (.getfield 10, 3) := by decide +kernel
theorem dX6_seed_18 : decode cX6_seed 18 = .ok (.iload_n 1, 1) := by decide +kernel
theorem dX6_seed_19 : decode cX6_seed 19 = .ok (.putfield 121, 3) := by decide +kernel
theorem dX6_seed_22 : decode cX6_seed 22 = .ok (.iload_n 2, 1) := by decide +kernel
theorem dX6_seed_23 : decode cX6_seed 23 = .ok (.ireturn, 1) := by decide +kernel
theorem dX6_keeper_0 : decode cX6_keeper 0 = .ok (.iload_n 1, 1) := by decide +kernel
theorem dX6_keeper_1 : decode cX6_keeper 1 = .ok (.invokestatic 79, 3) := by decide +kernel
theorem dX6_keeper_4 : decode cX6_keeper 4 = .ok (.ifCond .eq 13, 3) := by decide +kernel
theorem dX6_keeper_7 : decode cX6_keeper 7 = .ok (.iload_n 2, 1) := by decide +kernel
theorem dX6_keeper_8 : decode cX6_keeper 8 = .ok (.iconst 0, 1) := by decide +kernel
theorem dX6_keeper_9 : decode cX6_keeper 9 = .ok (.bipush 60, 2) := by decide +kernel
theorem dX6_keeper_11 : decode cX6_keeper 11 = .ok (.invokestatic 57, 3) := by decide +kernel
theorem dX6_keeper_14 : decode cX6_keeper 14 = .ok (.ifCond .ne 5, 3) := by decide +kernel
theorem dX6_keeper_17 : decode cX6_keeper 17 = .ok (.iconst (-1), 1) := by decide +kernel
theorem dX6_keeper_18 : decode cX6_keeper 18 = .ok (.ireturn, 1) := by decide +kernel
theorem dX6_keeper_19 : decode cX6_keeper 19 = .ok (.aload_n 0, 1) := by decide +kernel
theorem dX6_keeper_20 : decode cX6_keeper 20 = .ok (.iload_n 2, 1) := by decide +kernel
theorem dX6_keeper_21 : decode cX6_keeper 21 = .ok (.invokevirtual 156, 3) := by decide +kernel
theorem dX6_keeper_24 : decode cX6_keeper 24 = .ok (.aload_n 0, 1) := by decide +kernel
theorem dX6_keeper_25 : decode cX6_keeper 25 = .ok (.getfield 16, 3) := by decide +kernel
theorem dX6_keeper_28 : decode cX6_keeper 28 = .ok (.getfield 96, 3) := by decide +kernel
theorem dX6_keeper_31 : decode cX6_keeper 31 = .ok (.iload_n 1, 1) := by decide +kernel
theorem dX6_keeper_32 : decode cX6_keeper 32 = .ok (.iaload, 1) := by decide +kernel
theorem dX6_keeper_33 : decode cX6_keeper 33 = .ok (.ireturn, 1) := by decide +kernel
theorem dX6_ahead_0 : decode cX6_ahead 0 = .ok (.aload_n 0, 1) := by decide +kernel
theorem dX6_ahead_1 : decode cX6_ahead 1 = .ok (.getfield 10, 3) := by decide +kernel
theorem dX6_ahead_4 : decode cX6_ahead 4 = .ok (.iload_n 1, 1) := by decide +kernel
theorem dX6_ahead_5 : decode cX6_ahead 5 = .ok (.invokevirtual 75, 3) := by decide +kernel
theorem dX6_ahead_8 : decode cX6_ahead 8 = .ok (.ifCond .eq 20, 3) := by decide +kernel
theorem dX6_ahead_11 : decode cX6_ahead 11 = .ok (.iload_n 2, 1) := by decide +kernel
theorem dX6_ahead_12 : decode cX6_ahead 12 = .ok (.invokestatic 79, 3) := by decide +kernel
theorem dX6_ahead_15 : decode cX6_ahead 15 = .ok (.ifCond .eq 13, 3) := by decide +kernel
theorem dX6_ahead_18 : decode cX6_ahead 18 = .ok (.iload_n 3, 1) := by decide +kernel
theorem dX6_ahead_19 : decode cX6_ahead 19 = .ok (.iconst 0, 1) := by decide +kernel
theorem dX6_ahead_20 : decode cX6_ahead 20 = .ok (.bipush 60, 2) := by decide +kernel
theorem dX6_ahead_22 : decode cX6_ahead 22 = .ok (.invokestatic 57, 3) := by decide +kernel
theorem dX6_ahead_25 : decode cX6_ahead 25 = .ok (.ifCond .ne 5, 3) := by decide +kernel
theorem dX6_ahead_28 : decode cX6_ahead 28 = .ok (.iconst (-1), 1) := by decide +kernel
theorem dX6_ahead_29 : decode cX6_ahead 29 = .ok (.ireturn, 1) := by decide +kernel
theorem dX6_ahead_30 : decode cX6_ahead 30 = .ok (.aload_n 0, 1) := by decide +kernel
theorem dX6_ahead_31 : decode cX6_ahead 31 = .ok (.iload_n 3, 1) := by decide +kernel
theorem dX6_ahead_32 : decode cX6_ahead 32 = .ok (.invokevirtual 156, 3) := by decide +kernel
theorem dX6_ahead_35 : decode cX6_ahead 35 = .ok (.aload_n 0, 1) := by decide +kernel
theorem dX6_ahead_36 : decode cX6_ahead 36 = .ok (.getfield 16, 3) := by decide +kernel
theorem dX6_ahead_39 : decode cX6_ahead 39 = .ok (.iload_n 1, 1) := by decide +kernel
theorem dX6_ahead_40 : decode cX6_ahead 40 = .ok (.iload_n 2, 1) := by decide +kernel
theorem dX6_ahead_41 : decode cX6_ahead 41 = .ok (.invokevirtual 82, 3) := by decide +kernel
theorem dX6_ahead_44 : decode cX6_ahead 44 = .ok (.ireturn, 1) := by decide +kernel
theorem dX6_then_0 : decode cX6_then 0 = .ok (.iload_n 1, 1) := by decide +kernel
theorem dX6_then_1 : decode cX6_then 1 = .ok (.iconst 0, 1) := by decide +kernel
theorem dX6_then_2 : decode cX6_then 2 = .ok (.bipush 60, 2) := by decide +kernel
theorem dX6_then_4 : decode cX6_then 4 = .ok (.invokestatic 57, 3) := by decide +kernel
theorem dX6_then_7 : decode cX6_then 7 = .ok (.ifCond .ne 5, 3) := by decide +kernel
theorem dX6_then_10 : decode cX6_then 10 = .ok (.iconst (-1), 1) := by decide +kernel
theorem dX6_then_11 : decode cX6_then 11 = .ok (.ireturn, 1) := by decide +kernel
theorem dX6_then_12 : decode cX6_then 12 = .ok (.aload_n 0, 1) := by decide +kernel
theorem dX6_then_13 : decode cX6_then 13 = .ok (.iload_n 1, 1) := by decide +kernel
theorem dX6_then_14 : decode cX6_then 14 = .ok (.invokevirtual 156, 3) := by decide +kernel
theorem dX6_then_17 : decode cX6_then 17 = .ok (.aload_n 0, 1) := by decide +kernel
theorem dX6_then_18 : decode cX6_then 18 = .ok (.getfield 16, 3) := by decide +kernel
theorem dX6_then_21 : decode cX6_then 21 = .ok (.getfield 118, 3) := by decide +kernel
theorem dX6_then_24 : decode cX6_then 24 = .ok (.ireturn, 1) := by decide +kernel
theorem dX6_in_0 : decode cX6_in 0 = .ok (.iload_n 1, 1) := by decide +kernel
theorem dX6_in_1 : decode cX6_in 1 = .ok (.invokestatic 79, 3) := by decide +kernel
theorem dX6_in_4 : decode cX6_in 4 = .ok (.ifCond .ne 5, 3) := by decide +kernel
theorem dX6_in_7 : decode cX6_in 7 = .ok (.iconst (-1), 1) := by decide +kernel
theorem dX6_in_8 : decode cX6_in 8 = .ok (.ireturn, 1) := by decide +kernel
theorem dX6_in_9 : decode cX6_in 9 = .ok (.aload_n 0, 1) := by decide +kernel
theorem dX6_in_10 : decode cX6_in 10 = .ok (.getfield 16, 3) := by decide +kernel
theorem dX6_in_13 : decode cX6_in 13 = .ok (.aload_n 0, 1) := by decide +kernel
theorem dX6_in_14 : decode cX6_in 14 = .ok (.getfield 10, 3) := by decide +kernel
theorem dX6_in_17 : decode cX6_in 17 = .ok (.invokevirtual 124, 3) := by decide +kernel
theorem dX6_in_20 : decode cX6_in 20 = .ok (.aload_n 0, 1) := by decide +kernel
theorem dX6_in_21 : decode cX6_in 21 = .ok (.getfield 16, 3) := by decide +kernel
theorem dX6_in_24 : decode cX6_in 24 = .ok (.iload_n 1, 1) := by decide +kernel
theorem dX6_in_25 : decode cX6_in 25 = .ok (.bipush 60, 2) := by decide +kernel
theorem dX6_in_27 : decode cX6_in 27 = .ok (.invokevirtual 160, 3) := by decide +kernel
theorem dX6_in_30 : decode cX6_in 30 = .ok (.ireturn, 1) := by decide +kernel
theorem dX6_holds_0 : decode cX6_holds 0 = .ok (.iload_n 1, 1) := by decide +kernel
theorem dX6_holds_1 : decode cX6_holds 1 = .ok (.invokestatic 79, 3) := by decide +kernel
theorem dX6_holds_4 : decode cX6_holds 4 = .ok (.ifCond .ne 5, 3) := by decide +kernel
theorem dX6_holds_7 : decode cX6_holds 7 = .ok (.iconst (-1), 1) := by decide +kernel
theorem dX6_holds_8 : decode cX6_holds 8 = .ok (.ireturn, 1) := by decide +kernel
theorem dX6_holds_9 : decode cX6_holds 9 = .ok (.aload_n 0, 1) := by decide +kernel
theorem dX6_holds_10 : decode cX6_holds 10 = .ok (.getfield 16, 3) := by decide +kernel
theorem dX6_holds_13 : decode cX6_holds 13 = .ok (.aload_n 0, 1) := by decide +kernel
theorem dX6_holds_14 : decode cX6_holds 14 = .ok (.getfield 10, 3) := by decide +kernel
theorem dX6_holds_17 : decode cX6_holds 17 = .ok (.invokevirtual 124, 3) := by decide +kernel
theorem dX6_holds_20 : decode cX6_holds 20 = .ok (.iconst 1, 1) := by decide +kernel
theorem dX6_holds_21 : decode cX6_holds 21 = .ok (.istore_n 2, 1) := by decide +kernel
theorem dX6_holds_22 : decode cX6_holds 22 = .ok (.iload_n 2, 1) := by decide +kernel
theorem dX6_holds_23 : decode cX6_holds 23 = .ok (.bipush 60, 2) := by decide +kernel
theorem dX6_holds_25 : decode cX6_holds 25 = .ok (.if_icmp .gt 50, 3) := by decide +kernel
theorem dX6_holds_28 : decode cX6_holds 28 = .ok (.aload_n 0, 1) := by decide +kernel
theorem dX6_holds_29 : decode cX6_holds 29 = .ok (.getfield 16, 3) := by decide +kernel
theorem dX6_holds_32 : decode cX6_holds 32 = .ok (.invokevirtual 163, 3) := by decide +kernel
theorem dX6_holds_35 : decode cX6_holds 35 = .ok (.aload_n 0, 1) := by decide +kernel
theorem dX6_holds_36 : decode cX6_holds 36 = .ok (.getfield 16, 3) := by decide +kernel
theorem dX6_holds_39 : decode cX6_holds 39 = .ok (.iload_n 1, 1) := by decide +kernel
theorem dX6_holds_40 : decode cX6_holds 40 = .ok (.invokevirtual 166, 3) := by decide +kernel
theorem dX6_holds_43 : decode cX6_holds 43 = .ok (.ifCond .ne 24, 3) := by decide +kernel
theorem dX6_holds_46 : decode cX6_holds 46 = .ok (.aload_n 0, 1) := by decide +kernel
theorem dX6_holds_47 : decode cX6_holds 47 = .ok (.getfield 16, 3) := by decide +kernel
theorem dX6_holds_50 : decode cX6_holds 50 = .ok (.getfield 96, 3) := by decide +kernel
theorem dX6_holds_53 : decode cX6_holds 53 = .ok (.iload_n 1, 1) := by decide +kernel
theorem dX6_holds_54 : decode cX6_holds 54 = .ok (.iaload, 1) := by decide +kernel
theorem dX6_holds_55 : decode cX6_holds 55 = .ok (.aload_n 0, 1) := by decide +kernel
theorem dX6_holds_56 : decode cX6_holds 56 = .ok (.getfield 10, 3) := by decide +kernel
theorem dX6_holds_59 : decode cX6_holds 59 = .ok (.getfield 96, 3) := by decide +kernel
theorem dX6_holds_62 : decode cX6_holds 62 = .ok (.iload_n 1, 1) := by decide +kernel
theorem dX6_holds_63 : decode cX6_holds 63 = .ok (.iaload, 1) := by decide +kernel
theorem dX6_holds_64 : decode cX6_holds 64 = .ok (.if_icmp .eq 5, 3) := by decide +kernel
theorem dX6_holds_67 : decode cX6_holds 67 = .ok (.iload_n 2, 1) := by decide +kernel
theorem dX6_holds_68 : decode cX6_holds 68 = .ok (.ireturn, 1) := by decide +kernel
theorem dX6_holds_69 : decode cX6_holds 69 = .ok (.iinc 2 1, 3) := by decide +kernel
theorem dX6_holds_72 : decode cX6_holds 72 = .ok (.goto (-50), 3) := by decide +kernel
theorem dX6_holds_75 : decode cX6_holds 75 = .ok (.bipush (-4), 2) := by decide +kernel
theorem dX6_holds_77 : decode cX6_holds 77 = .ok (.ireturn, 1) := by decide +kernel
theorem dX6_had_0 : decode cX6_had 0 = .ok (.iload_n 1, 1) := by decide +kernel
theorem dX6_had_1 : decode cX6_had 1 = .ok (.invokestatic 79, 3) := by decide +kernel
theorem dX6_had_4 : decode cX6_had 4 = .ok (.ifCond .eq 13, 3) := by decide +kernel
theorem dX6_had_7 : decode cX6_had 7 = .ok (.iload_n 2, 1) := by decide +kernel
theorem dX6_had_8 : decode cX6_had 8 = .ok (.iconst 0, 1) := by decide +kernel
theorem dX6_had_9 : decode cX6_had 9 = .ok (.bipush 60, 2) := by decide +kernel
theorem dX6_had_11 : decode cX6_had 11 = .ok (.invokestatic 57, 3) := by decide +kernel
theorem dX6_had_14 : decode cX6_had 14 = .ok (.ifCond .ne 5, 3) := by decide +kernel
theorem dX6_had_17 : decode cX6_had 17 = .ok (.iconst (-1), 1) := by decide +kernel
theorem dX6_had_18 : decode cX6_had 18 = .ok (.ireturn, 1) := by decide +kernel
theorem dX6_had_19 : decode cX6_had 19 = .ok (.aload_n 0, 1) := by decide +kernel
theorem dX6_had_20 : decode cX6_had 20 = .ok (.getfield 16, 3) := by decide +kernel
theorem dX6_had_23 : decode cX6_had 23 = .ok (.aload_n 0, 1) := by decide +kernel
theorem dX6_had_24 : decode cX6_had 24 = .ok (.getfield 10, 3) := by decide +kernel
theorem dX6_had_27 : decode cX6_had 27 = .ok (.invokevirtual 124, 3) := by decide +kernel
theorem dX6_had_30 : decode cX6_had 30 = .ok (.aload_n 0, 1) := by decide +kernel
theorem dX6_had_31 : decode cX6_had 31 = .ok (.getfield 16, 3) := by decide +kernel
theorem dX6_had_34 : decode cX6_had 34 = .ok (.iload_n 1, 1) := by decide +kernel
theorem dX6_had_35 : decode cX6_had 35 = .ok (.invokevirtual 169, 3) := by decide +kernel
theorem dX6_had_38 : decode cX6_had 38 = .ok (.istore_n 3, 1) := by decide +kernel
theorem dX6_had_39 : decode cX6_had 39 = .ok (.iconst 1, 1) := by decide +kernel
theorem dX6_had_40 : decode cX6_had 40 = .ok (.istore 4, 2) := by decide +kernel
theorem dX6_had_42 : decode cX6_had 42 = .ok (.iload 4, 2) := by decide +kernel
theorem dX6_had_44 : decode cX6_had 44 = .ok (.iload_n 2, 1) := by decide +kernel
theorem dX6_had_45 : decode cX6_had 45 = .ok (.if_icmp .gt 27, 3) := by decide +kernel
theorem dX6_had_48 : decode cX6_had 48 = .ok (.aload_n 0, 1) := by decide +kernel
theorem dX6_had_49 : decode cX6_had 49 = .ok (.getfield 16, 3) := by decide +kernel
theorem dX6_had_52 : decode cX6_had 52 = .ok (.invokevirtual 163, 3) := by decide +kernel
theorem dX6_had_55 : decode cX6_had 55 = .ok (.iload_n 3, 1) := by decide +kernel
theorem dX6_had_56 : decode cX6_had 56 = .ok (.aload_n 0, 1) := by decide +kernel
theorem dX6_had_57 : decode cX6_had 57 = .ok (.getfield 16, 3) := by decide +kernel
theorem dX6_had_60 : decode cX6_had 60 = .ok (.iload_n 1, 1) := by decide +kernel
theorem dX6_had_61 : decode cX6_had 61 = .ok (.invokevirtual 169, 3) := by decide +kernel
theorem dX6_had_64 : decode cX6_had 64 = .ok (.ior, 1) := by decide +kernel
theorem dX6_had_65 : decode cX6_had 65 = .ok (.istore_n 3, 1) := by decide +kernel
theorem dX6_had_66 : decode cX6_had 66 = .ok (.iinc 4 1, 3) := by decide +kernel
theorem dX6_had_69 : decode cX6_had 69 = .ok (.goto (-27), 3) := by decide +kernel
theorem dX6_had_72 : decode cX6_had 72 = .ok (.iload_n 3, 1) := by decide +kernel
theorem dX6_had_73 : decode cX6_had 73 = .ok (.ireturn, 1) := by decide +kernel
theorem dX6_keep_0 : decode cX6_keep 0 = .ok (.iload_n 1, 1) := by decide +kernel
theorem dX6_keep_1 : decode cX6_keep 1 = .ok (.iconst 1, 1) := by decide +kernel
theorem dX6_keep_2 : decode cX6_keep 2 = .ok (.bipush 30, 2) := by decide +kernel
theorem dX6_keep_4 : decode cX6_keep 4 = .ok (.invokestatic 57, 3) := by decide +kernel
theorem dX6_keep_7 : decode cX6_keep 7 = .ok (.ifCond .eq 13, 3) := by decide +kernel
theorem dX6_keep_10 : decode cX6_keep 10 = .ok (.iload_n 2, 1) := by decide +kernel
theorem dX6_keep_11 : decode cX6_keep 11 = .ok (.bipush (-2), 2) := by decide +kernel
theorem dX6_keep_13 : decode cX6_keep 13 = .ok (.iconst 3, 1) := by decide +kernel
theorem dX6_keep_14 : decode cX6_keep 14 = .ok (.invokestatic 57, 3) := by decide +kernel
theorem dX6_keep_17 : decode cX6_keep 17 = .ok (.ifCond .ne 5, 3) := by decide +kernel
theorem dX6_keep_20 : decode cX6_keep 20 = .ok (.iconst (-1), 1) := by decide +kernel
theorem dX6_keep_21 : decode cX6_keep 21 = .ok (.ireturn, 1) := by decide +kernel
theorem dX6_keep_22 : decode cX6_keep 22 = .ok (.aload_n 0, 1) := by decide +kernel
theorem dX6_keep_23 : decode cX6_keep 23 = .ok (.getfield 10, 3) := by decide +kernel
theorem dX6_keep_26 : decode cX6_keep 26 = .ok (.getfield 61, 3) := by decide +kernel
theorem dX6_keep_29 : decode cX6_keep 29 = .ok (.ifCond .ne 6, 3) := by decide +kernel
theorem dX6_keep_32 : decode cX6_keep 32 = .ok (.bipush (-4), 2) := by decide +kernel
theorem dX6_keep_34 : decode cX6_keep 34 = .ok (.ireturn, 1) := by decide +kernel
theorem dX6_keep_35 : decode cX6_keep 35 = .ok (.aload_n 0, 1) := by decide +kernel
theorem dX6_keep_36 : decode cX6_keep 36 = .ok (.getfield 46, 3) := by decide +kernel
theorem dX6_keep_39 : decode cX6_keep 39 = .ok (.aload_n 0, 1) := by decide +kernel
theorem dX6_keep_40 : decode cX6_keep 40 = .ok (.getfield 10, 3) := by decide +kernel
theorem dX6_keep_43 : decode cX6_keep 43 = .ok (.aload_n 0, 1) := by decide +kernel
theorem dX6_keep_44 : decode cX6_keep 44 = .ok (.getfield 16, 3) := by decide +kernel
theorem dX6_keep_47 : decode cX6_keep 47 = .ok (.iload_n 1, 1) := by decide +kernel
theorem dX6_keep_48 : decode cX6_keep 48 = .ok (.invokevirtual 172, 3) := by decide +kernel
theorem dX6_keep_51 : decode cX6_keep 51 = .ok (.iload_n 2, 1) := by decide +kernel
theorem dX6_keep_52 : decode cX6_keep 52 = .ok (.lookupswitch 44 #[(-2, 36), (-1, 28)], 28) := by decide +kernel
theorem dX6_keep_80 : decode cX6_keep 80 = .ok (.aload_n 0, 1) := by decide +kernel
theorem dX6_keep_81 : decode cX6_keep 81 = .ok (.getfield 46, 3) := by decide +kernel
theorem dX6_keep_84 : decode cX6_keep 84 = .ok (.getfield 176, 3) := by decide +kernel
theorem dX6_keep_87 : decode cX6_keep 87 = .ok (.ireturn, 1) := by decide +kernel
theorem dX6_keep_88 : decode cX6_keep 88 = .ok (.aload_n 0, 1) := by decide +kernel
theorem dX6_keep_89 : decode cX6_keep 89 = .ok (.getfield 46, 3) := by decide +kernel
theorem dX6_keep_92 : decode cX6_keep 92 = .ok (.getfield 177, 3) := by decide +kernel
theorem dX6_keep_95 : decode cX6_keep 95 = .ok (.ireturn, 1) := by decide +kernel
theorem dX6_keep_96 : decode cX6_keep 96 = .ok (.aload_n 0, 1) := by decide +kernel
theorem dX6_keep_97 : decode cX6_keep 97 = .ok (.getfield 46, 3) := by decide +kernel
theorem dX6_keep_100 : decode cX6_keep 100 = .ok (.getfield 180, 3) := by decide +kernel
theorem dX6_keep_103 : decode cX6_keep 103 = .ok (.iload_n 2, 1) := by decide +kernel
theorem dX6_keep_104 : decode cX6_keep 104 = .ok (.iaload, 1) := by decide +kernel
theorem dX6_keep_105 : decode cX6_keep 105 = .ok (.ireturn, 1) := by decide +kernel
theorem dX6_tempt_0 : decode cX6_tempt 0 = .ok (.iload_n 1, 1) := by decide +kernel
theorem dX6_tempt_1 : decode cX6_tempt 1 = .ok (.invokestatic 79, 3) := by decide +kernel
theorem dX6_tempt_4 : decode cX6_tempt 4 = .ok (.ifCond .eq 13, 3) := by decide +kernel
theorem dX6_tempt_7 : decode cX6_tempt 7 = .ok (.iload_n 2, 1) := by decide +kernel
theorem dX6_tempt_8 : decode cX6_tempt 8 = .ok (.iconst 1, 1) := by decide +kernel
theorem dX6_tempt_9 : decode cX6_tempt 9 = .ok (.bipush 30, 2) := by decide +kernel
theorem dX6_tempt_11 : decode cX6_tempt 11 = .ok (.invokestatic 57, 3) := by decide +kernel
theorem dX6_tempt_14 : decode cX6_tempt 14 = .ok (.ifCond .ne 5, 3) := by decide +kernel
theorem dX6_tempt_17 : decode cX6_tempt 17 = .ok (.iconst (-1), 1) := by decide +kernel
theorem dX6_tempt_18 : decode cX6_tempt 18 = .ok (.ireturn, 1) := by decide +kernel
theorem dX6_tempt_19 : decode cX6_tempt 19 = .ok (.aload_n 0, 1) := by decide +kernel
theorem dX6_tempt_20 : decode cX6_tempt 20 = .ok (.getfield 10, 3) := by decide +kernel
theorem dX6_tempt_23 : decode cX6_tempt 23 = .ok (.getfield 96, 3) := by decide +kernel
theorem dX6_tempt_26 : decode cX6_tempt 26 = .ok (.iload_n 1, 1) := by decide +kernel
theorem dX6_tempt_27 : decode cX6_tempt 27 = .ok (.iaload, 1) := by decide +kernel
theorem dX6_tempt_28 : decode cX6_tempt 28 = .ok (.istore_n 3, 1) := by decide +kernel
theorem dX6_tempt_29 : decode cX6_tempt 29 = .ok (.iload_n 3, 1) := by decide +kernel
theorem dX6_tempt_30 : decode cX6_tempt 30 = .ok (.bipush (-4), 2) := by decide +kernel
theorem dX6_tempt_32 : decode cX6_tempt 32 = .ok (.if_icmp .ne 6, 3) := by decide +kernel
theorem dX6_tempt_35 : decode cX6_tempt 35 = .ok (.bipush (-4), 2) := by decide +kernel
theorem dX6_tempt_37 : decode cX6_tempt 37 = .ok (.ireturn, 1) := by decide +kernel
theorem dX6_tempt_38 : decode cX6_tempt 38 = .ok (.iconst 0, 1) := by decide +kernel
theorem dX6_tempt_39 : decode cX6_tempt 39 = .ok (.istore 4, 2) := by decide +kernel
theorem dX6_tempt_41 : decode cX6_tempt 41 = .ok (.iload 4, 2) := by decide +kernel
theorem dX6_tempt_43 : decode cX6_tempt 43 = .ok (.bipush 20, 2) := by decide +kernel
theorem dX6_tempt_45 : decode cX6_tempt 45 = .ok (.if_icmp .gt 48, 3) := by decide +kernel
theorem dX6_tempt_48 : decode cX6_tempt 48 = .ok (.aload_n 0, 1) := by decide +kernel
theorem dX6_tempt_49 : decode cX6_tempt 49 = .ok (.getfield 16, 3) := by decide +kernel
theorem dX6_tempt_52 : decode cX6_tempt 52 = .ok (.aload_n 0, 1) := by decide +kernel
theorem dX6_tempt_53 : decode cX6_tempt 53 = .ok (.getfield 10, 3) := by decide +kernel
theorem dX6_tempt_56 : decode cX6_tempt 56 = .ok (.invokevirtual 124, 3) := by decide +kernel
theorem dX6_tempt_59 : decode cX6_tempt 59 = .ok (.aload_n 0, 1) := by decide +kernel
theorem dX6_tempt_60 : decode cX6_tempt 60 = .ok (.getfield 16, 3) := by decide +kernel
theorem dX6_tempt_63 : decode cX6_tempt 63 = .ok (.iload_n 3, 1) := by decide +kernel
theorem dX6_tempt_64 : decode cX6_tempt 64 = .ok (.iload_n 1, 1) := by decide +kernel
theorem dX6_tempt_65 : decode cX6_tempt 65 = .ok (.iload 4, 2) := by decide +kernel
theorem dX6_tempt_67 : decode cX6_tempt 67 = .ok (.invokevirtual 149, 3) := by decide +kernel
theorem dX6_tempt_70 : decode cX6_tempt 70 = .ok (.aload_n 0, 1) := by decide +kernel
theorem dX6_tempt_71 : decode cX6_tempt 71 = .ok (.getfield 16, 3) := by decide +kernel
theorem dX6_tempt_74 : decode cX6_tempt 74 = .ok (.iload_n 1, 1) := by decide +kernel
theorem dX6_tempt_75 : decode cX6_tempt 75 = .ok (.iload_n 2, 1) := by decide +kernel
theorem dX6_tempt_76 : decode cX6_tempt 76 = .ok (.invokevirtual 160, 3) := by decide +kernel
theorem dX6_tempt_79 : decode cX6_tempt 79 = .ok (.bipush (-4), 2) := by decide +kernel
theorem dX6_tempt_81 : decode cX6_tempt 81 = .ok (.if_icmp .eq 6, 3) := by decide +kernel
theorem dX6_tempt_84 : decode cX6_tempt 84 = .ok (.iload 4, 2) := by decide +kernel
theorem dX6_tempt_86 : decode cX6_tempt 86 = .ok (.ireturn, 1) := by decide +kernel
theorem dX6_tempt_87 : decode cX6_tempt 87 = .ok (.iinc 4 1, 3) := by decide +kernel
theorem dX6_tempt_90 : decode cX6_tempt 90 = .ok (.goto (-49), 3) := by decide +kernel
theorem dX6_tempt_93 : decode cX6_tempt 93 = .ok (.bipush (-4), 2) := by decide +kernel
theorem dX6_tempt_95 : decode cX6_tempt 95 = .ok (.ireturn, 1) := by decide +kernel
theorem dX6_strict_0 : decode cX6_strict 0 = .ok (.iload_n 1, 1) := by decide +kernel
theorem dX6_strict_1 : decode cX6_strict 1 = .ok (.iconst 1, 1) := by decide +kernel
theorem dX6_strict_2 : decode cX6_strict 2 = .ok (.bipush 30, 2) := by decide +kernel
theorem dX6_strict_4 : decode cX6_strict 4 = .ok (.invokestatic 57, 3) := by decide +kernel
theorem dX6_strict_7 : decode cX6_strict 7 = .ok (.ifCond .ne 5, 3) := by decide +kernel
theorem dX6_strict_10 : decode cX6_strict 10 = .ok (.iconst (-1), 1) := by decide +kernel
theorem dX6_strict_11 : decode cX6_strict 11 = .ok (.ireturn, 1) := by decide +kernel
theorem dX6_strict_12 : decode cX6_strict 12 = .ok (.bipush 20, 2) := by decide +kernel
theorem dX6_strict_14 : decode cX6_strict 14 = .ok (.istore_n 2, 1) := by decide +kernel
theorem dX6_strict_15 : decode cX6_strict 15 = .ok (.iload_n 2, 1) := by decide +kernel
theorem dX6_strict_16 : decode cX6_strict 16 = .ok (.iconst 1, 1) := by decide +kernel
theorem dX6_strict_17 : decode cX6_strict 17 = .ok (.if_icmp .lt 55, 3) := by decide +kernel
theorem dX6_strict_20 : decode cX6_strict 20 = .ok (.aload_n 0, 1) := by decide +kernel
theorem dX6_strict_21 : decode cX6_strict 21 = .ok (.getfield 16, 3) := by decide +kernel
theorem dX6_strict_24 : decode cX6_strict 24 = .ok (.aload_n 0, 1) := by decide +kernel
theorem dX6_strict_25 : decode cX6_strict 25 = .ok (.getfield 10, 3) := by decide +kernel
theorem dX6_strict_28 : decode cX6_strict 28 = .ok (.invokevirtual 124, 3) := by decide +kernel
theorem dX6_strict_31 : decode cX6_strict 31 = .ok (.aload_n 0, 1) := by decide +kernel
theorem dX6_strict_32 : decode cX6_strict 32 = .ok (.getfield 16, 3) := by decide +kernel
theorem dX6_strict_35 : decode cX6_strict 35 = .ok (.iload_n 2, 1) := by decide +kernel
theorem dX6_strict_36 : decode cX6_strict 36 = .ok (.putfield 72, 3) := by decide +kernel
theorem dX6_strict_39 : decode cX6_strict 39 = .ok (.aload_n 0, 1) := by decide +kernel
theorem dX6_strict_40 : decode cX6_strict 40 = .ok (.getfield 16, 3) := by decide +kernel
theorem dX6_strict_43 : decode cX6_strict 43 = .ok (.iload_n 1, 1) := by decide +kernel
theorem dX6_strict_44 : decode cX6_strict 44 = .ok (.invokevirtual 181, 3) := by decide +kernel
theorem dX6_strict_47 : decode cX6_strict 47 = .ok (.aload_n 0, 1) := by decide +kernel
theorem dX6_strict_48 : decode cX6_strict 48 = .ok (.getfield 16, 3) := by decide +kernel
theorem dX6_strict_51 : decode cX6_strict 51 = .ok (.getfield 118, 3) := by decide +kernel
theorem dX6_strict_54 : decode cX6_strict 54 = .ok (.aload_n 0, 1) := by decide +kernel
theorem dX6_strict_55 : decode cX6_strict 55 = .ok (.getfield 10, 3) := by decide +kernel
theorem dX6_strict_58 : decode cX6_strict 58 = .ok (.getfield 118, 3) := by decide +kernel
theorem dX6_strict_61 : decode cX6_strict 61 = .ok (.if_icmp .ne 5, 3) := by decide +kernel
theorem dX6_strict_64 : decode cX6_strict 64 = .ok (.iload_n 2, 1) := by decide +kernel
theorem dX6_strict_65 : decode cX6_strict 65 = .ok (.ireturn, 1) := by decide +kernel
theorem dX6_strict_66 : decode cX6_strict 66 = .ok (.iinc 2 (-1), 3) := by decide +kernel
theorem dX6_strict_69 : decode cX6_strict 69 = .ok (.goto (-54), 3) := by decide +kernel
theorem dX6_strict_72 : decode cX6_strict 72 = .ok (.bipush (-4), 2) := by decide +kernel
theorem dX6_strict_74 : decode cX6_strict 74 = .ok (.ireturn, 1) := by decide +kernel
theorem dX6_yawn_0 : decode cX6_yawn 0 = .ok (.iload_n 1, 1) := by decide +kernel
theorem dX6_yawn_1 : decode cX6_yawn 1 = .ok (.invokestatic 79, 3) := by decide +kernel
theorem dX6_yawn_4 : decode cX6_yawn 4 = .ok (.ifCond .eq 22, 3) := by decide +kernel
theorem dX6_yawn_7 : decode cX6_yawn 7 = .ok (.iload_n 2, 1) := by decide +kernel
theorem dX6_yawn_8 : decode cX6_yawn 8 = .ok (.iconst 0, 1) := by decide +kernel
theorem dX6_yawn_9 : decode cX6_yawn 9 = .ok (.bipush 10, 2) := by decide +kernel
theorem dX6_yawn_11 : decode cX6_yawn 11 = .ok (.invokestatic 57, 3) := by decide +kernel
theorem dX6_yawn_14 : decode cX6_yawn 14 = .ok (.ifCond .eq 12, 3) := by decide +kernel
theorem dX6_yawn_17 : decode cX6_yawn 17 = .ok (.iload_n 3, 1) := by decide +kernel
theorem dX6_yawn_18 : decode cX6_yawn 18 = .ok (.iconst 0, 1) := by decide +kernel
theorem dX6_yawn_19 : decode cX6_yawn 19 = .ok (.iconst 1, 1) := by decide +kernel
theorem dX6_yawn_20 : decode cX6_yawn 20 = .ok (.invokestatic 57, 3) := by decide +kernel
theorem dX6_yawn_23 : decode cX6_yawn 23 = .ok (.ifCond .ne 5, 3) := by decide +kernel
theorem dX6_yawn_26 : decode cX6_yawn 26 = .ok (.iconst (-1), 1) := by decide +kernel
theorem dX6_yawn_27 : decode cX6_yawn 27 = .ok (.ireturn, 1) := by decide +kernel
theorem dX6_yawn_28 : decode cX6_yawn 28 = .ok (.iconst 1, 1) := by decide +kernel
theorem dX6_yawn_29 : decode cX6_yawn 29 = .ok (.istore 4, 2) := by decide +kernel
theorem dX6_yawn_31 : decode cX6_yawn 31 = .ok (.iconst 1, 1) := by decide +kernel
theorem dX6_yawn_32 : decode cX6_yawn 32 = .ok (.istore 5, 2) := by decide +kernel
theorem dX6_yawn_34 : decode cX6_yawn 34 = .ok (.iconst 0, 1) := by decide +kernel
theorem dX6_yawn_35 : decode cX6_yawn 35 = .ok (.istore 6, 2) := by decide +kernel
theorem dX6_yawn_37 : decode cX6_yawn 37 = .ok (.iload 6, 2) := by decide +kernel
theorem dX6_yawn_39 : decode cX6_yawn 39 = .ok (.aload_n 0, 1) := by decide +kernel
theorem dX6_yawn_40 : decode cX6_yawn 40 = .ok (.getfield 10, 3) := by decide +kernel
theorem dX6_yawn_43 : decode cX6_yawn 43 = .ok (.getfield 61, 3) := by decide +kernel
theorem dX6_yawn_46 : decode cX6_yawn 46 = .ok (.if_icmp .ge 45, 3) := by decide +kernel
theorem dX6_yawn_49 : decode cX6_yawn 49 = .ok (.aload_n 0, 1) := by decide +kernel
theorem dX6_yawn_50 : decode cX6_yawn 50 = .ok (.getfield 10, 3) := by decide +kernel
theorem dX6_yawn_53 : decode cX6_yawn 53 = .ok (.iload 6, 2) := by decide +kernel
theorem dX6_yawn_55 : decode cX6_yawn 55 = .ok (.iload_n 1, 1) := by decide +kernel
theorem dX6_yawn_56 : decode cX6_yawn 56 = .ok (.invokevirtual 82, 3) := by decide +kernel
theorem dX6_yawn_59 : decode cX6_yawn 59 = .ok (.aload_n 0, 1) := by decide +kernel
theorem dX6_yawn_60 : decode cX6_yawn 60 = .ok (.getfield 10, 3) := by decide +kernel
theorem dX6_yawn_63 : decode cX6_yawn 63 = .ok (.getfield 72, 3) := by decide +kernel
theorem dX6_yawn_66 : decode cX6_yawn 66 = .ok (.if_icmp .lt 19, 3) := by decide +kernel
theorem dX6_yawn_69 : decode cX6_yawn 69 = .ok (.iload 4, 2) := by decide +kernel
theorem dX6_yawn_71 : decode cX6_yawn 71 = .ok (.bipush 10, 2) := by decide +kernel
theorem dX6_yawn_73 : decode cX6_yawn 73 = .ok (.iload_n 2, 1) := by decide +kernel
theorem dX6_yawn_74 : decode cX6_yawn 74 = .ok (.isub, 1) := by decide +kernel
theorem dX6_yawn_75 : decode cX6_yawn 75 = .ok (.imul, 1) := by decide +kernel
theorem dX6_yawn_76 : decode cX6_yawn 76 = .ok (.istore 4, 2) := by decide +kernel
theorem dX6_yawn_78 : decode cX6_yawn 78 = .ok (.iload 5, 2) := by decide +kernel
theorem dX6_yawn_80 : decode cX6_yawn 80 = .ok (.bipush 10, 2) := by decide +kernel
theorem dX6_yawn_82 : decode cX6_yawn 82 = .ok (.imul, 1) := by decide +kernel
theorem dX6_yawn_83 : decode cX6_yawn 83 = .ok (.istore 5, 2) := by decide +kernel
theorem dX6_yawn_85 : decode cX6_yawn 85 = .ok (.iinc 6 1, 3) := by decide +kernel
theorem dX6_yawn_88 : decode cX6_yawn 88 = .ok (.goto (-51), 3) := by decide +kernel
theorem dX6_yawn_91 : decode cX6_yawn 91 = .ok (.iload 4, 2) := by decide +kernel
theorem dX6_yawn_93 : decode cX6_yawn 93 = .ok (.iload 5, 2) := by decide +kernel
theorem dX6_yawn_95 : decode cX6_yawn 95 = .ok (.invokestatic 184, 3) := by decide +kernel
theorem dX6_yawn_98 : decode cX6_yawn 98 = .ok (.istore 6, 2) := by decide +kernel
theorem dX6_yawn_100 : decode cX6_yawn 100 = .ok (.iload_n 3, 1) := by decide +kernel
theorem dX6_yawn_101 : decode cX6_yawn 101 = .ok (.ifCond .ne 8, 3) := by decide +kernel
theorem dX6_yawn_104 : decode cX6_yawn 104 = .ok (.iload 4, 2) := by decide +kernel
theorem dX6_yawn_106 : decode cX6_yawn 106 = .ok (.goto 5, 3) := by decide +kernel
theorem dX6_yawn_109 : decode cX6_yawn 109 = .ok (.iload 5, 2) := by decide +kernel
theorem dX6_yawn_111 : decode cX6_yawn 111 = .ok (.iload 6, 2) := by decide +kernel
theorem dX6_yawn_113 : decode cX6_yawn 113 = .ok (.idiv, 1) := by decide +kernel
theorem dX6_yawn_114 : decode cX6_yawn 114 = .ok (.ireturn, 1) := by decide +kernel
theorem dX6_image_0 : decode cX6_image 0 = .ok (.aload_n 0, 1) := by decide +kernel
theorem dX6_image_1 : decode cX6_image 1 = .ok (.getfield 26, 3) := by decide +kernel
theorem dX6_image_4 : decode cX6_image 4 = .ok (.aload_n 0, 1) := by decide +kernel
theorem dX6_image_5 : decode cX6_image 5 = .ok (.getfield 10, 3) := by decide +kernel
theorem dX6_image_8 : decode cX6_image 8 = .ok (.invokevirtual 124, 3) := by decide +kernel
theorem dX6_image_11 : decode cX6_image 11 = .ok (.aload_n 0, 1) := by decide +kernel
theorem dX6_image_12 : decode cX6_image 12 = .ok (.getfield 29, 3) := by decide +kernel
theorem dX6_image_15 : decode cX6_image 15 = .ok (.aload_n 0, 1) := by decide +kernel
theorem dX6_image_16 : decode cX6_image 16 = .ok (.getfield 22, 3) := by decide +kernel
theorem dX6_image_19 : decode cX6_image 19 = .ok (.invokevirtual 187, 3) := by decide +kernel
theorem dX6_image_22 : decode cX6_image 22 = .ok (.aload_n 0, 1) := by decide +kernel
theorem dX6_image_23 : decode cX6_image 23 = .ok (.iconst 1, 1) := by decide +kernel
theorem dX6_image_24 : decode cX6_image 24 = .ok (.putfield 32, 3) := by decide +kernel
theorem dX6_image_27 : decode cX6_image 27 = .ok (.iconst 1, 1) := by decide +kernel
theorem dX6_image_28 : decode cX6_image 28 = .ok (.ireturn, 1) := by decide +kernel
theorem dX6_restore_0 : decode cX6_restore 0 = .ok (.aload_n 0, 1) := by decide +kernel
theorem dX6_restore_1 : decode cX6_restore 1 = .ok (.getfield 32, 3) := by decide +kernel
theorem dX6_restore_4 : decode cX6_restore 4 = .ok (.ifCond .ne 6, 3) := by decide +kernel
theorem dX6_restore_7 : decode cX6_restore 7 = .ok (.bipush (-4), 2) := by decide +kernel
theorem dX6_restore_9 : decode cX6_restore 9 = .ok (.ireturn, 1) := by decide +kernel
theorem dX6_restore_10 : decode cX6_restore 10 = .ok (.aload_n 0, 1) := by decide +kernel
theorem dX6_restore_11 : decode cX6_restore 11 = .ok (.getfield 10, 3) := by decide +kernel
theorem dX6_restore_14 : decode cX6_restore 14 = .ok (.aload_n 0, 1) := by decide +kernel
theorem dX6_restore_15 : decode cX6_restore 15 = .ok (.getfield 26, 3) := by decide +kernel
theorem dX6_restore_18 : decode cX6_restore 18 = .ok (.invokevirtual 124, 3) := by decide +kernel
theorem dX6_restore_21 : decode cX6_restore 21 = .ok (.aload_n 0, 1) := by decide +kernel
theorem dX6_restore_22 : decode cX6_restore 22 = .ok (.getfield 22, 3) := by decide +kernel
theorem dX6_restore_25 : decode cX6_restore 25 = .ok (.aload_n 0, 1) := by decide +kernel
theorem dX6_restore_26 : decode cX6_restore 26 = .ok (.getfield 29, 3) := by decide +kernel
theorem dX6_restore_29 : decode cX6_restore 29 = .ok (.invokevirtual 187, 3) := by decide +kernel
theorem dX6_restore_32 : decode cX6_restore 32 = .ok (.iconst 1, 1) := by decide +kernel
theorem dX6_restore_33 : decode cX6_restore 33 = .ok (.ireturn, 1) := by decide +kernel
theorem dX6_told_0 : decode cX6_told 0 = .ok (.aload_n 0, 1) := by decide +kernel
theorem dX6_told_1 : decode cX6_told 1 = .ok (.getfield 10, 3) := by decide +kernel
theorem dX6_told_4 : decode cX6_told 4 = .ok (.iload_n 1, 1) := by decide +kernel
theorem dX6_told_5 : decode cX6_told 5 = .ok (.invokevirtual 75, 3) := by decide +kernel
theorem dX6_told_8 : decode cX6_told 8 = .ok (.ifCond .eq 46, 3) := by decide +kernel
theorem dX6_told_11 : decode cX6_told 11 = .ok (.iload_n 2, 1) := by decide +kernel
theorem dX6_told_12 : decode cX6_told 12 = .ok (.invokestatic 79, 3) := by decide +kernel
theorem dX6_told_15 : decode cX6_told 15 = .ok (.ifCond .eq 39, 3) := by decide +kernel
theorem dX6_told_18 : decode cX6_told 18 = .ok (.iload_n 3, 1) := by decide +kernel
theorem dX6_told_19 : decode cX6_told 19 = .ok (.invokestatic 190, 3) := by decide +kernel
theorem dX6_told_22 : decode cX6_told 22 = .ok (.ifCond .eq 32, 3) := by decide +kernel
theorem dX6_told_25 : decode cX6_told 25 = .ok (.iload 4, 2) := by decide +kernel
theorem dX6_told_27 : decode cX6_told 27 = .ok (.invokestatic 193, 3) := by decide +kernel
theorem dX6_told_30 : decode cX6_told 30 = .ok (.ifCond .eq 24, 3) := by decide +kernel
theorem dX6_told_33 : decode cX6_told 33 = .ok (.iload 6, 2) := by decide +kernel
theorem dX6_told_35 : decode cX6_told 35 = .ok (.iconst 1, 1) := by decide +kernel
theorem dX6_told_36 : decode cX6_told 36 = .ok (.bipush 8, 2) := by decide +kernel
theorem dX6_told_38 : decode cX6_told 38 = .ok (.invokestatic 57, 3) := by decide +kernel
theorem dX6_told_41 : decode cX6_told 41 = .ok (.ifCond .eq 13, 3) := by decide +kernel
theorem dX6_told_44 : decode cX6_told 44 = .ok (.iload 7, 2) := by decide +kernel
theorem dX6_told_46 : decode cX6_told 46 = .ok (.iconst 0, 1) := by decide +kernel
theorem dX6_told_47 : decode cX6_told 47 = .ok (.iconst 2, 1) := by decide +kernel
theorem dX6_told_48 : decode cX6_told 48 = .ok (.invokestatic 57, 3) := by decide +kernel
theorem dX6_told_51 : decode cX6_told 51 = .ok (.ifCond .ne 5, 3) := by decide +kernel
theorem dX6_told_54 : decode cX6_told 54 = .ok (.iconst (-1), 1) := by decide +kernel
theorem dX6_told_55 : decode cX6_told 55 = .ok (.ireturn, 1) := by decide +kernel
theorem dX6_told_56 : decode cX6_told 56 = .ok (.aload_n 0, 1) := by decide +kernel
theorem dX6_told_57 : decode cX6_told 57 = .ok (.getfield 53, 3) := by decide +kernel
theorem dX6_told_60 : decode cX6_told 60 = .ok (.iload_n 3, 1) := by decide +kernel
theorem dX6_told_61 : decode cX6_told 61 = .ok (.aaload, 1) := by decide +kernel
theorem dX6_told_62 : decode cX6_told 62 = .ok (.iload 4, 2) := by decide +kernel
theorem dX6_told_64 : decode cX6_told 64 = .ok (.iload 5, 2) := by decide +kernel
theorem dX6_told_66 : decode cX6_told 66 = .ok (.iload 6, 2) := by decide +kernel
theorem dX6_told_68 : decode cX6_told 68 = .ok (.invokevirtual 196, 3) := by decide +kernel
theorem dX6_told_71 : decode cX6_told 71 = .ok (.istore 8, 2) := by decide +kernel
theorem dX6_told_73 : decode cX6_told 73 = .ok (.iload 8, 2) := by decide +kernel
theorem dX6_told_75 : decode cX6_told 75 = .ok (.ifCond .eq 6, 3) := by decide +kernel
theorem dX6_told_78 : decode cX6_told 78 = .ok (.iload 8, 2) := by decide +kernel
theorem dX6_told_80 : decode cX6_told 80 = .ok (.ireturn, 1) := by decide +kernel
theorem dX6_told_81 : decode cX6_told 81 = .ok (.iload 7, 2) := by decide +kernel
theorem dX6_told_83 : decode cX6_told 83 = .ok (.iconst 2, 1) := by decide +kernel
theorem dX6_told_84 : decode cX6_told 84 = .ok (.if_icmp .ne 7, 3) := by decide +kernel
theorem dX6_told_87 : decode cX6_told 87 = .ok (.iconst 1, 1) := by decide +kernel
theorem dX6_told_88 : decode cX6_told 88 = .ok (.goto 4, 3) := by decide +kernel
theorem dX6_told_91 : decode cX6_told 91 = .ok (.iconst 0, 1) := by decide +kernel
theorem dX6_told_92 : decode cX6_told 92 = .ok (.istore 9, 2) := by decide +kernel
theorem dX6_told_94 : decode cX6_told 94 = .ok (.iload 7, 2) := by decide +kernel
theorem dX6_told_96 : decode cX6_told 96 = .ok (.ifCond .ne 7, 3) := by decide +kernel
theorem dX6_told_99 : decode cX6_told 99 = .ok (.iconst 4, 1) := by decide +kernel
theorem dX6_told_100 : decode cX6_told 100 = .ok (.goto 5, 3) := by decide +kernel
theorem dX6_told_103 : decode cX6_told 103 = .ok (.bipush 20, 2) := by decide +kernel
theorem dX6_told_105 : decode cX6_told 105 = .ok (.istore 10, 2) := by decide +kernel
theorem dX6_told_107 : decode cX6_told 107 = .ok (.iconst 0, 1) := by decide +kernel
theorem dX6_told_108 : decode cX6_told 108 = .ok (.istore 11, 2) := by decide +kernel
theorem dX6_told_110 : decode cX6_told 110 = .ok (.iload 9, 2) := by decide +kernel
theorem dX6_told_112 : decode cX6_told 112 = .ok (.istore 12, 2) := by decide +kernel
theorem dX6_told_114 : decode cX6_told 114 = .ok (.iload 12, 2) := by decide +kernel
theorem dX6_told_116 : decode cX6_told 116 = .ok (.iload 10, 2) := by decide +kernel
theorem dX6_told_118 : decode cX6_told 118 = .ok (.if_icmp .gt 50, 3) := by decide +kernel
theorem dX6_told_121 : decode cX6_told 121 = .ok (.aload_n 0, 1) := by decide +kernel
theorem dX6_told_122 : decode cX6_told 122 = .ok (.iload_n 1, 1) := by decide +kernel
theorem dX6_told_123 : decode cX6_told 123 = .ok (.iload_n 2, 1) := by decide +kernel
theorem dX6_told_124 : decode cX6_told 124 = .ok (.iload 7, 2) := by decide +kernel
theorem dX6_told_126 : decode cX6_told 126 = .ok (.iload 12, 2) := by decide +kernel
theorem dX6_told_128 : decode cX6_told 128 = .ok (.invokevirtual 200, 3) := by decide +kernel
theorem dX6_told_131 : decode cX6_told 131 = .ok (.aload_n 0, 1) := by decide +kernel
theorem dX6_told_132 : decode cX6_told 132 = .ok (.getfield 53, 3) := by decide +kernel
theorem dX6_told_135 : decode cX6_told 135 = .ok (.iload_n 3, 1) := by decide +kernel
theorem dX6_told_136 : decode cX6_told 136 = .ok (.aaload, 1) := by decide +kernel
theorem dX6_told_137 : decode cX6_told 137 = .ok (.aload_n 0, 1) := by decide +kernel
theorem dX6_told_138 : decode cX6_told 138 = .ok (.getfield 16, 3) := by decide +kernel
theorem dX6_told_141 : decode cX6_told 141 = .ok (.iload_n 1, 1) := by decide +kernel
theorem dX6_told_142 : decode cX6_told 142 = .ok (.iload_n 2, 1) := by decide +kernel
theorem dX6_told_143 : decode cX6_told 143 = .ok (.iload 5, 2) := by decide +kernel
theorem dX6_told_145 : decode cX6_told 145 = .ok (.iload 6, 2) := by decide +kernel
theorem dX6_told_147 : decode cX6_told 147 = .ok (.invokevirtual 204, 3) := by decide +kernel
theorem dX6_told_150 : decode cX6_told 150 = .ok (.ifCond .eq 12, 3) := by decide +kernel
theorem dX6_told_153 : decode cX6_told 153 = .ok (.iload 11, 2) := by decide +kernel
theorem dX6_told_155 : decode cX6_told 155 = .ok (.iconst 1, 1) := by decide +kernel
theorem dX6_told_156 : decode cX6_told 156 = .ok (.iload 12, 2) := by decide +kernel
theorem dX6_told_158 : decode cX6_told 158 = .ok (.ishl, 1) := by decide +kernel
theorem dX6_told_159 : decode cX6_told 159 = .ok (.ior, 1) := by decide +kernel
theorem dX6_told_160 : decode cX6_told 160 = .ok (.istore 11, 2) := by decide +kernel
theorem dX6_told_162 : decode cX6_told 162 = .ok (.iinc 12 1, 3) := by decide +kernel
theorem dX6_told_165 : decode cX6_told 165 = .ok (.goto (-51), 3) := by decide +kernel
theorem dX6_told_168 : decode cX6_told 168 = .ok (.iload 11, 2) := by decide +kernel
theorem dX6_told_170 : decode cX6_told 170 = .ok (.ireturn, 1) := by decide +kernel
theorem dX6_film_0 : decode cX6_film 0 = .ok (.aload_n 0, 1) := by decide +kernel
theorem dX6_film_1 : decode cX6_film 1 = .ok (.getfield 10, 3) := by decide +kernel
theorem dX6_film_4 : decode cX6_film 4 = .ok (.iload_n 1, 1) := by decide +kernel
theorem dX6_film_5 : decode cX6_film 5 = .ok (.invokevirtual 75, 3) := by decide +kernel
theorem dX6_film_8 : decode cX6_film 8 = .ok (.ifCond .eq 36, 3) := by decide +kernel
theorem dX6_film_11 : decode cX6_film 11 = .ok (.iload_n 2, 1) := by decide +kernel
theorem dX6_film_12 : decode cX6_film 12 = .ok (.invokestatic 79, 3) := by decide +kernel
theorem dX6_film_15 : decode cX6_film 15 = .ok (.ifCond .eq 29, 3) := by decide +kernel
theorem dX6_film_18 : decode cX6_film 18 = .ok (.iload 4, 2) := by decide +kernel
theorem dX6_film_20 : decode cX6_film 20 = .ok (.invokestatic 190, 3) := by decide +kernel
theorem dX6_film_23 : decode cX6_film 23 = .ok (.ifCond .eq 21, 3) := by decide +kernel
theorem dX6_film_26 : decode cX6_film 26 = .ok (.iload 5, 2) := by decide +kernel
theorem dX6_film_28 : decode cX6_film 28 = .ok (.invokestatic 193, 3) := by decide +kernel
theorem dX6_film_31 : decode cX6_film 31 = .ok (.ifCond .eq 13, 3) := by decide +kernel
theorem dX6_film_34 : decode cX6_film 34 = .ok (.iload_n 3, 1) := by decide +kernel
theorem dX6_film_35 : decode cX6_film 35 = .ok (.iconst 1, 1) := by decide +kernel
theorem dX6_film_36 : decode cX6_film 36 = .ok (.bipush 24, 2) := by decide +kernel
theorem dX6_film_38 : decode cX6_film 38 = .ok (.invokestatic 57, 3) := by decide +kernel
theorem dX6_film_41 : decode cX6_film 41 = .ok (.ifCond .ne 5, 3) := by decide +kernel
theorem dX6_film_44 : decode cX6_film 44 = .ok (.iconst (-1), 1) := by decide +kernel
theorem dX6_film_45 : decode cX6_film 45 = .ok (.ireturn, 1) := by decide +kernel
theorem dX6_film_46 : decode cX6_film 46 = .ok (.aload_n 0, 1) := by decide +kernel
theorem dX6_film_47 : decode cX6_film 47 = .ok (.getfield 53, 3) := by decide +kernel
theorem dX6_film_50 : decode cX6_film 50 = .ok (.iload 4, 2) := by decide +kernel
theorem dX6_film_52 : decode cX6_film 52 = .ok (.aaload, 1) := by decide +kernel
theorem dX6_film_53 : decode cX6_film 53 = .ok (.iload 5, 2) := by decide +kernel
theorem dX6_film_55 : decode cX6_film 55 = .ok (.iload 6, 2) := by decide +kernel
theorem dX6_film_57 : decode cX6_film 57 = .ok (.iload_n 3, 1) := by decide +kernel
theorem dX6_film_58 : decode cX6_film 58 = .ok (.invokevirtual 196, 3) := by decide +kernel
theorem dX6_film_61 : decode cX6_film 61 = .ok (.istore 7, 2) := by decide +kernel
theorem dX6_film_63 : decode cX6_film 63 = .ok (.iload 7, 2) := by decide +kernel
theorem dX6_film_65 : decode cX6_film 65 = .ok (.ifCond .eq 6, 3) := by decide +kernel
theorem dX6_film_68 : decode cX6_film 68 = .ok (.iload 7, 2) := by decide +kernel
theorem dX6_film_70 : decode cX6_film 70 = .ok (.ireturn, 1) := by decide +kernel
theorem dX6_film_71 : decode cX6_film 71 = .ok (.aload_n 0, 1) := by decide +kernel
theorem dX6_film_72 : decode cX6_film 72 = .ok (.getfield 16, 3) := by decide +kernel
theorem dX6_film_75 : decode cX6_film 75 = .ok (.aload_n 0, 1) := by decide +kernel
theorem dX6_film_76 : decode cX6_film 76 = .ok (.getfield 10, 3) := by decide +kernel
theorem dX6_film_79 : decode cX6_film 79 = .ok (.invokevirtual 124, 3) := by decide +kernel
theorem dX6_film_82 : decode cX6_film 82 = .ok (.iconst 0, 1) := by decide +kernel
theorem dX6_film_83 : decode cX6_film 83 = .ok (.istore 8, 2) := by decide +kernel
theorem dX6_film_85 : decode cX6_film 85 = .ok (.iload 8, 2) := by decide +kernel
theorem dX6_film_87 : decode cX6_film 87 = .ok (.iload_n 3, 1) := by decide +kernel
theorem dX6_film_88 : decode cX6_film 88 = .ok (.if_icmp .ge 41, 3) := by decide +kernel
theorem dX6_film_91 : decode cX6_film 91 = .ok (.aload_n 0, 1) := by decide +kernel
theorem dX6_film_92 : decode cX6_film 92 = .ok (.getfield 16, 3) := by decide +kernel
theorem dX6_film_95 : decode cX6_film 95 = .ok (.invokevirtual 163, 3) := by decide +kernel
theorem dX6_film_98 : decode cX6_film 98 = .ok (.aload_n 0, 1) := by decide +kernel
theorem dX6_film_99 : decode cX6_film 99 = .ok (.getfield 53, 3) := by decide +kernel
theorem dX6_film_102 : decode cX6_film 102 = .ok (.iload 4, 2) := by decide +kernel
theorem dX6_film_104 : decode cX6_film 104 = .ok (.aaload, 1) := by decide +kernel
theorem dX6_film_105 : decode cX6_film 105 = .ok (.iload 6, 2) := by decide +kernel
theorem dX6_film_107 : decode cX6_film 107 = .ok (.iload 8, 2) := by decide +kernel
theorem dX6_film_109 : decode cX6_film 109 = .ok (.iadd, 1) := by decide +kernel
theorem dX6_film_110 : decode cX6_film 110 = .ok (.aload_n 0, 1) := by decide +kernel
theorem dX6_film_111 : decode cX6_film 111 = .ok (.getfield 16, 3) := by decide +kernel
theorem dX6_film_114 : decode cX6_film 114 = .ok (.iload_n 1, 1) := by decide +kernel
theorem dX6_film_115 : decode cX6_film 115 = .ok (.iload_n 2, 1) := by decide +kernel
theorem dX6_film_116 : decode cX6_film 116 = .ok (.invokevirtual 82, 3) := by decide +kernel
theorem dX6_film_119 : decode cX6_film 119 = .ok (.i2l, 1) := by decide +kernel
theorem dX6_film_120 : decode cX6_film 120 = .ok (.invokevirtual 208, 3) := by decide +kernel
theorem dX6_film_123 : decode cX6_film 123 = .ok (.iinc 8 1, 3) := by decide +kernel
theorem dX6_film_126 : decode cX6_film 126 = .ok (.goto (-41), 3) := by decide +kernel
theorem dX6_film_129 : decode cX6_film 129 = .ok (.iload_n 3, 1) := by decide +kernel
theorem dX6_film_130 : decode cX6_film 130 = .ok (.ireturn, 1) := by decide +kernel
theorem dX6_sheet_0 : decode cX6_sheet 0 = .ok (.iload_n 1, 1) := by decide +kernel
theorem dX6_sheet_1 : decode cX6_sheet 1 = .ok (.invokestatic 190, 3) := by decide +kernel
theorem dX6_sheet_4 : decode cX6_sheet 4 = .ok (.ifCond .eq 16, 3) := by decide +kernel
theorem dX6_sheet_7 : decode cX6_sheet 7 = .ok (.iload_n 2, 1) := by decide +kernel
theorem dX6_sheet_8 : decode cX6_sheet 8 = .ok (.invokestatic 193, 3) := by decide +kernel
theorem dX6_sheet_11 : decode cX6_sheet 11 = .ok (.ifCond .eq 9, 3) := by decide +kernel
theorem dX6_sheet_14 : decode cX6_sheet 14 = .ok (.iload_n 3, 1) := by decide +kernel
theorem dX6_sheet_15 : decode cX6_sheet 15 = .ok (.bipush 24, 2) := by decide +kernel
theorem dX6_sheet_17 : decode cX6_sheet 17 = .ok (.if_icmp .le 5, 3) := by decide +kernel
theorem dX6_sheet_20 : decode cX6_sheet 20 = .ok (.iconst (-1), 1) := by decide +kernel
theorem dX6_sheet_21 : decode cX6_sheet 21 = .ok (.ireturn, 1) := by decide +kernel
theorem dX6_sheet_22 : decode cX6_sheet 22 = .ok (.iload_n 3, 1) := by decide +kernel
theorem dX6_sheet_23 : decode cX6_sheet 23 = .ok (.ifCond .ge 6, 3) := by decide +kernel
theorem dX6_sheet_26 : decode cX6_sheet 26 = .ok (.bipush (-14), 2) := by decide +kernel
theorem dX6_sheet_28 : decode cX6_sheet 28 = .ok (.ireturn, 1) := by decide +kernel
theorem dX6_sheet_29 : decode cX6_sheet 29 = .ok (.aload_n 0, 1) := by decide +kernel
theorem dX6_sheet_30 : decode cX6_sheet 30 = .ok (.getfield 53, 3) := by decide +kernel
theorem dX6_sheet_33 : decode cX6_sheet 33 = .ok (.iload_n 1, 1) := by decide +kernel
theorem dX6_sheet_34 : decode cX6_sheet 34 = .ok (.aaload, 1) := by decide +kernel
theorem dX6_sheet_35 : decode cX6_sheet 35 = .ok (.iload_n 2, 1) := by decide +kernel
theorem dX6_sheet_36 : decode cX6_sheet 36 = .ok (.iload_n 3, 1) := by decide +kernel
theorem dX6_sheet_37 : decode cX6_sheet 37 = .ok (.invokevirtual 212, 3) := by decide +kernel
theorem dX6_sheet_40 : decode cX6_sheet 40 = .ok (.iload_n 3, 1) := by decide +kernel
theorem dX6_sheet_41 : decode cX6_sheet 41 = .ok (.ireturn, 1) := by decide +kernel
theorem dX6_drop_0 : decode cX6_drop 0 = .ok (.iload_n 1, 1) := by decide +kernel
theorem dX6_drop_1 : decode cX6_drop 1 = .ok (.invokestatic 190, 3) := by decide +kernel
theorem dX6_drop_4 : decode cX6_drop 4 = .ok (.ifCond .ne 5, 3) := by decide +kernel
theorem dX6_drop_7 : decode cX6_drop 7 = .ok (.iconst (-1), 1) := by decide +kernel
theorem dX6_drop_8 : decode cX6_drop 8 = .ok (.ireturn, 1) := by decide +kernel
theorem dX6_drop_9 : decode cX6_drop 9 = .ok (.aload_n 0, 1) := by decide +kernel
theorem dX6_drop_10 : decode cX6_drop 10 = .ok (.getfield 53, 3) := by decide +kernel
theorem dX6_drop_13 : decode cX6_drop 13 = .ok (.iload_n 1, 1) := by decide +kernel
theorem dX6_drop_14 : decode cX6_drop 14 = .ok (.aaload, 1) := by decide +kernel
theorem dX6_drop_15 : decode cX6_drop 15 = .ok (.invokevirtual 216, 3) := by decide +kernel
theorem dX6_drop_18 : decode cX6_drop 18 = .ok (.ifCond .eq 6, 3) := by decide +kernel
theorem dX6_drop_21 : decode cX6_drop 21 = .ok (.bipush (-11), 2) := by decide +kernel
theorem dX6_drop_23 : decode cX6_drop 23 = .ok (.ireturn, 1) := by decide +kernel
theorem dX6_drop_24 : decode cX6_drop 24 = .ok (.aload_n 0, 1) := by decide +kernel
theorem dX6_drop_25 : decode cX6_drop 25 = .ok (.getfield 53, 3) := by decide +kernel
theorem dX6_drop_28 : decode cX6_drop 28 = .ok (.iload_n 1, 1) := by decide +kernel
theorem dX6_drop_29 : decode cX6_drop 29 = .ok (.aaload, 1) := by decide +kernel
theorem dX6_drop_30 : decode cX6_drop 30 = .ok (.invokevirtual 220, 3) := by decide +kernel
theorem dX6_drop_33 : decode cX6_drop 33 = .ok (.ireturn, 1) := by decide +kernel
theorem dX6_item_0 : decode cX6_item 0 = .ok (.iload_n 1, 1) := by decide +kernel
theorem dX6_item_1 : decode cX6_item 1 = .ok (.invokestatic 190, 3) := by decide +kernel
theorem dX6_item_4 : decode cX6_item 4 = .ok (.ifCond .eq 10, 3) := by decide +kernel
theorem dX6_item_7 : decode cX6_item 7 = .ok (.iload_n 2, 1) := by decide +kernel
theorem dX6_item_8 : decode cX6_item 8 = .ok (.invokestatic 193, 3) := by decide +kernel
theorem dX6_item_11 : decode cX6_item 11 = .ok (.ifCond .ne 5, 3) := by decide +kernel
theorem dX6_item_14 : decode cX6_item 14 = .ok (.iconst (-1), 1) := by decide +kernel
theorem dX6_item_15 : decode cX6_item 15 = .ok (.ireturn, 1) := by decide +kernel
theorem dX6_item_16 : decode cX6_item 16 = .ok (.aload_n 0, 1) := by decide +kernel
theorem dX6_item_17 : decode cX6_item 17 = .ok (.getfield 53, 3) := by decide +kernel
theorem dX6_item_20 : decode cX6_item 20 = .ok (.iload_n 1, 1) := by decide +kernel
theorem dX6_item_21 : decode cX6_item 21 = .ok (.aaload, 1) := by decide +kernel
theorem dX6_item_22 : decode cX6_item 22 = .ok (.iload_n 2, 1) := by decide +kernel
theorem dX6_item_23 : decode cX6_item 23 = .ok (.iload_n 3, 1) := by decide +kernel
theorem dX6_item_24 : decode cX6_item 24 = .ok (.iconst 1, 1) := by decide +kernel
theorem dX6_item_25 : decode cX6_item 25 = .ok (.invokevirtual 196, 3) := by decide +kernel
theorem dX6_item_28 : decode cX6_item 28 = .ok (.istore 6, 2) := by decide +kernel
theorem dX6_item_30 : decode cX6_item 30 = .ok (.iload 6, 2) := by decide +kernel
theorem dX6_item_32 : decode cX6_item 32 = .ok (.ifCond .eq 6, 3) := by decide +kernel
theorem dX6_item_35 : decode cX6_item 35 = .ok (.iload 6, 2) := by decide +kernel
theorem dX6_item_37 : decode cX6_item 37 = .ok (.ireturn, 1) := by decide +kernel
theorem dX6_item_38 : decode cX6_item 38 = .ok (.aload_n 0, 1) := by decide +kernel
theorem dX6_item_39 : decode cX6_item 39 = .ok (.getfield 53, 3) := by decide +kernel
theorem dX6_item_42 : decode cX6_item 42 = .ok (.iload_n 1, 1) := by decide +kernel
theorem dX6_item_43 : decode cX6_item 43 = .ok (.aaload, 1) := by decide +kernel
theorem dX6_item_44 : decode cX6_item 44 = .ok (.iload_n 3, 1) := by decide +kernel
theorem dX6_item_45 : decode cX6_item 45 = .ok (.lload 4, 2) := by decide +kernel
theorem dX6_item_47 : decode cX6_item 47 = .ok (.invokevirtual 208, 3) := by decide +kernel
theorem dX6_item_50 : decode cX6_item 50 = .ok (.iconst 1, 1) := by decide +kernel
theorem dX6_item_51 : decode cX6_item 51 = .ok (.ireturn, 1) := by decide +kernel
theorem dX6_copy_0 : decode cX6_copy 0 = .ok (.iload_n 1, 1) := by decide +kernel
theorem dX6_copy_1 : decode cX6_copy 1 = .ok (.invokestatic 190, 3) := by decide +kernel
theorem dX6_copy_4 : decode cX6_copy 4 = .ok (.ifCond .eq 10, 3) := by decide +kernel
theorem dX6_copy_7 : decode cX6_copy 7 = .ok (.iload_n 3, 1) := by decide +kernel
theorem dX6_copy_8 : decode cX6_copy 8 = .ok (.invokestatic 190, 3) := by decide +kernel
theorem dX6_copy_11 : decode cX6_copy 11 = .ok (.ifCond .ne 5, 3) := by decide +kernel
theorem dX6_copy_14 : decode cX6_copy 14 = .ok (.iconst (-1), 1) := by decide +kernel
theorem dX6_copy_15 : decode cX6_copy 15 = .ok (.ireturn, 1) := by decide +kernel
theorem dX6_copy_16 : decode cX6_copy 16 = .ok (.aload_n 0, 1) := by decide +kernel
theorem dX6_copy_17 : decode cX6_copy 17 = .ok (.getfield 53, 3) := by decide +kernel
theorem dX6_copy_20 : decode cX6_copy 20 = .ok (.iload_n 1, 1) := by decide +kernel
theorem dX6_copy_21 : decode cX6_copy 21 = .ok (.aaload, 1) := by decide +kernel
theorem dX6_copy_22 : decode cX6_copy 22 = .ok (.astore 6, 2) := by decide +kernel
theorem dX6_copy_24 : decode cX6_copy 24 = .ok (.aload_n 0, 1) := by decide +kernel
theorem dX6_copy_25 : decode cX6_copy 25 = .ok (.getfield 53, 3) := by decide +kernel
theorem dX6_copy_28 : decode cX6_copy 28 = .ok (.iload_n 3, 1) := by decide +kernel
theorem dX6_copy_29 : decode cX6_copy 29 = .ok (.aaload, 1) := by decide +kernel
theorem dX6_copy_30 : decode cX6_copy 30 = .ok (.astore 7, 2) := by decide +kernel
theorem dX6_copy_32 : decode cX6_copy 32 = .ok (.aload 6, 2) := by decide +kernel
theorem dX6_copy_34 : decode cX6_copy 34 = .ok (.invokevirtual 216, 3) := by decide +kernel
theorem dX6_copy_37 : decode cX6_copy 37 = .ok (.ifCond .ne 11, 3) := by decide +kernel
theorem dX6_copy_40 : decode cX6_copy 40 = .ok (.aload 7, 2) := by decide +kernel
theorem dX6_copy_42 : decode cX6_copy 42 = .ok (.invokevirtual 216, 3) := by decide +kernel
theorem dX6_copy_45 : decode cX6_copy 45 = .ok (.ifCond .eq 6, 3) := by decide +kernel
theorem dX6_copy_48 : decode cX6_copy 48 = .ok (.bipush (-11), 2) := by decide +kernel
theorem dX6_copy_50 : decode cX6_copy 50 = .ok (.ireturn, 1) := by decide +kernel
theorem dX6_copy_51 : decode cX6_copy 51 = .ok (.aload 6, 2) := by decide +kernel
theorem dX6_copy_53 : decode cX6_copy 53 = .ok (.getfield 223, 3) := by decide +kernel
theorem dX6_copy_56 : decode cX6_copy 56 = .ok (.aload 7, 2) := by decide +kernel
theorem dX6_copy_58 : decode cX6_copy 58 = .ok (.getfield 223, 3) := by decide +kernel
theorem dX6_copy_61 : decode cX6_copy 61 = .ok (.if_icmp .eq 6, 3) := by decide +kernel
theorem dX6_copy_64 : decode cX6_copy 64 = .ok (.bipush (-12), 2) := by decide +kernel
theorem dX6_copy_66 : decode cX6_copy 66 = .ok (.ireturn, 1) := by decide +kernel
theorem dX6_copy_67 : decode cX6_copy 67 = .ok (.aload 6, 2) := by decide +kernel
theorem dX6_copy_69 : decode cX6_copy 69 = .ok (.iload_n 2, 1) := by decide +kernel
theorem dX6_copy_70 : decode cX6_copy 70 = .ok (.iload 5, 2) := by decide +kernel
theorem dX6_copy_72 : decode cX6_copy 72 = .ok (.invokevirtual 226, 3) := by decide +kernel
theorem dX6_copy_75 : decode cX6_copy 75 = .ok (.ifCond .eq 15, 3) := by decide +kernel
theorem dX6_copy_78 : decode cX6_copy 78 = .ok (.aload 7, 2) := by decide +kernel
theorem dX6_copy_80 : decode cX6_copy 80 = .ok (.iload 4, 2) := by decide +kernel
theorem dX6_copy_82 : decode cX6_copy 82 = .ok (.iload 5, 2) := by decide +kernel
theorem dX6_copy_84 : decode cX6_copy 84 = .ok (.invokevirtual 226, 3) := by decide +kernel
theorem dX6_copy_87 : decode cX6_copy 87 = .ok (.ifCond .ne 6, 3) := by decide +kernel
theorem dX6_copy_90 : decode cX6_copy 90 = .ok (.bipush (-13), 2) := by decide +kernel
theorem dX6_copy_92 : decode cX6_copy 92 = .ok (.ireturn, 1) := by decide +kernel
theorem dX6_copy_93 : decode cX6_copy 93 = .ok (.aload 6, 2) := by decide +kernel
theorem dX6_copy_95 : decode cX6_copy 95 = .ok (.getfield 230, 3) := by decide +kernel
theorem dX6_copy_98 : decode cX6_copy 98 = .ok (.iload_n 2, 1) := by decide +kernel
theorem dX6_copy_99 : decode cX6_copy 99 = .ok (.aload 7, 2) := by decide +kernel
theorem dX6_copy_101 : decode cX6_copy 101 = .ok (.getfield 230, 3) := by decide +kernel
theorem dX6_copy_104 : decode cX6_copy 104 = .ok (.iload 4, 2) := by decide +kernel
theorem dX6_copy_106 : decode cX6_copy 106 = .ok (.iload 5, 2) := by decide +kernel
theorem dX6_copy_108 : decode cX6_copy 108 = .ok (.invokestatic 234, 3) := by decide +kernel
theorem dX6_copy_111 : decode cX6_copy 111 = .ok (.iload 5, 2) := by decide +kernel
theorem dX6_copy_113 : decode cX6_copy 113 = .ok (.ireturn, 1) := by decide +kernel
theorem dX6_within_0 : decode cX6_within 0 = .ok (.iload_n 0, 1) := by decide +kernel
theorem dX6_within_1 : decode cX6_within 1 = .ok (.iload_n 1, 1) := by decide +kernel
theorem dX6_within_2 : decode cX6_within 2 = .ok (.if_icmp .lt 12, 3) := by decide +kernel
theorem dX6_within_5 : decode cX6_within 5 = .ok (.iload_n 0, 1) := by decide +kernel
theorem dX6_within_6 : decode cX6_within 6 = .ok (.iload_n 2, 1) := by decide +kernel
theorem dX6_within_7 : decode cX6_within 7 = .ok (.if_icmp .gt 7, 3) := by decide +kernel
theorem dX6_within_10 : decode cX6_within 10 = .ok (.iconst 1, 1) := by decide +kernel
theorem dX6_within_11 : decode cX6_within 11 = .ok (.goto 4, 3) := by decide +kernel
theorem dX6_within_14 : decode cX6_within 14 = .ok (.iconst 0, 1) := by decide +kernel
theorem dX6_within_15 : decode cX6_within 15 = .ok (.ireturn, 1) := by decide +kernel
theorem dX6_isDoor_0 : decode cX6_isDoor 0 = .ok (.iload_n 0, 1) := by decide +kernel
theorem dX6_isDoor_1 : decode cX6_isDoor 1 = .ok (.iconst 0, 1) := by decide +kernel
theorem dX6_isDoor_2 : decode cX6_isDoor 2 = .ok (.iconst 3, 1) := by decide +kernel
theorem dX6_isDoor_3 : decode cX6_isDoor 3 = .ok (.invokestatic 57, 3) := by decide +kernel
theorem dX6_isDoor_6 : decode cX6_isDoor 6 = .ok (.ireturn, 1) := by decide +kernel
theorem dX6_isSheet_0 : decode cX6_isSheet 0 = .ok (.iload_n 0, 1) := by decide +kernel
theorem dX6_isSheet_1 : decode cX6_isSheet 1 = .ok (.iconst 0, 1) := by decide +kernel
theorem dX6_isSheet_2 : decode cX6_isSheet 2 = .ok (.iconst 3, 1) := by decide +kernel
theorem dX6_isSheet_3 : decode cX6_isSheet 3 = .ok (.invokestatic 57, 3) := by decide +kernel
theorem dX6_isSheet_6 : decode cX6_isSheet 6 = .ok (.ireturn, 1) := by decide +kernel
theorem dX6_isLane_0 : decode cX6_isLane 0 = .ok (.iload_n 0, 1) := by decide +kernel
theorem dX6_isLane_1 : decode cX6_isLane 1 = .ok (.iconst 0, 1) := by decide +kernel
theorem dX6_isLane_2 : decode cX6_isLane 2 = .ok (.iconst 3, 1) := by decide +kernel
theorem dX6_isLane_3 : decode cX6_isLane 3 = .ok (.invokestatic 57, 3) := by decide +kernel
theorem dX6_isLane_6 : decode cX6_isLane 6 = .ok (.ireturn, 1) := by decide +kernel
theorem dX6_live_0 : decode cX6_live 0 = .ok (.iload_n 1, 1) := by decide +kernel
theorem dX6_live_1 : decode cX6_live 1 = .ok (.iconst 1, 1) := by decide +kernel
theorem dX6_live_2 : decode cX6_live 2 = .ok (.bipush 40, 2) := by decide +kernel
theorem dX6_live_4 : decode cX6_live 4 = .ok (.invokestatic 57, 3) := by decide +kernel
theorem dX6_live_7 : decode cX6_live 7 = .ok (.ifCond .ne 5, 3) := by decide +kernel
theorem dX6_live_10 : decode cX6_live 10 = .ok (.iconst (-1), 1) := by decide +kernel
theorem dX6_live_11 : decode cX6_live 11 = .ok (.ireturn, 1) := by decide +kernel
theorem dX6_live_12 : decode cX6_live 12 = .ok (.aload_n 0, 1) := by decide +kernel
theorem dX6_live_13 : decode cX6_live 13 = .ok (.getfield 10, 3) := by decide +kernel
theorem dX6_live_16 : decode cX6_live 16 = .ok (.getfield 115, 3) := by decide +kernel
theorem dX6_live_19 : decode cX6_live 19 = .ok (.iload_n 1, 1) := by decide +kernel
theorem dX6_live_20 : decode cX6_live 20 = .ok (.iadd, 1) := by decide +kernel
theorem dX6_live_21 : decode cX6_live 21 = .ok (.sipush 9999, 3) := by decide +kernel
theorem dX6_live_24 : decode cX6_live 24 = .ok (.if_icmp .le 6, 3) := by decide +kernel
theorem dX6_live_27 : decode cX6_live 27 = .ok (.bipush (-3), 2) := by decide +kernel
theorem dX6_live_29 : decode cX6_live 29 = .ok (.ireturn, 1) := by decide +kernel
theorem dX6_live_30 : decode cX6_live 30 = .ok (.aload_n 0, 1) := by decide +kernel
theorem dX6_live_31 : decode cX6_live 31 = .ok (.getfield 10, 3) := by decide +kernel
theorem dX6_live_34 : decode cX6_live 34 = .ok (.getfield 118, 3) := by decide +kernel
theorem dX6_live_37 : decode cX6_live 37 = .ok (.istore_n 3, 1) := by decide +kernel
theorem dX6_live_38 : decode cX6_live 38 = .ok (.iconst 0, 1) := by decide +kernel
theorem dX6_live_39 : decode cX6_live 39 = .ok (.istore 4, 2) := by decide +kernel
theorem dX6_live_41 : decode cX6_live 41 = .ok (.iload 4, 2) := by decide +kernel
theorem dX6_live_43 : decode cX6_live 43 = .ok (.iload_n 1, 1) := by decide +kernel
theorem dX6_live_44 : decode cX6_live 44 = .ok (.if_icmp .ge 38, 3) := by decide +kernel
theorem dX6_live_47 : decode cX6_live 47 = .ok (.aload_n 0, 1) := by decide +kernel
theorem dX6_live_48 : decode cX6_live 48 = .ok (.getfield 22, 3) := by decide +kernel
theorem dX6_live_51 : decode cX6_live 51 = .ok (.aload_n 0, 1) := by decide +kernel
theorem dX6_live_52 : decode cX6_live 52 = .ok (.getfield 10, 3) := by decide +kernel
theorem dX6_live_55 : decode cX6_live 55 = .ok (.invokevirtual 145, 3) := by decide +kernel
theorem dX6_live_58 : decode cX6_live 58 = .ok (.iload_n 2, 1) := by decide +kernel
theorem dX6_live_59 : decode cX6_live 59 = .ok (.ifCond .eq 10, 3) := by decide +kernel
theorem dX6_live_62 : decode cX6_live 62 = .ok (.aload_n 0, 1) := by decide +kernel
theorem dX6_live_63 : decode cX6_live 63 = .ok (.getfield 10, 3) := by decide +kernel
theorem dX6_live_66 : decode cX6_live 66 = .ok (.invokevirtual 240, 3) := by decide +kernel
theorem dX6_live_69 : decode cX6_live 69 = .ok (.aload_n 0, 1) := by decide +kernel
theorem dX6_live_70 : decode cX6_live 70 = .ok (.getfield 10, 3) := by decide +kernel
theorem dX6_live_73 : decode cX6_live 73 = .ok (.invokevirtual 163, 3) := by decide +kernel
theorem dX6_live_76 : decode cX6_live 76 = .ok (.iinc 4 1, 3) := by decide +kernel
theorem dX6_live_79 : decode cX6_live 79 = .ok (.goto (-38), 3) := by decide +kernel
theorem dX6_live_82 : decode cX6_live 82 = .ok (.aload_n 0, 1) := by decide +kernel
theorem dX6_live_83 : decode cX6_live 83 = .ok (.getfield 10, 3) := by decide +kernel
theorem dX6_live_86 : decode cX6_live 86 = .ok (.getfield 118, 3) := by decide +kernel
theorem dX6_live_89 : decode cX6_live 89 = .ok (.iload_n 3, 1) := by decide +kernel
theorem dX6_live_90 : decode cX6_live 90 = .ok (.isub, 1) := by decide +kernel
theorem dX6_live_91 : decode cX6_live 91 = .ok (.ireturn, 1) := by decide +kernel
theorem dX6_foretell_0 : decode cX6_foretell 0 = .ok (.aload_n 0, 1) := by decide +kernel
theorem dX6_foretell_1 : decode cX6_foretell 1 = .ok (.getfield 16, 3) := by decide +kernel
theorem dX6_foretell_4 : decode cX6_foretell 4 = .ok (.aload_n 0, 1) := by decide +kernel
theorem dX6_foretell_5 : decode cX6_foretell 5 = .ok (.getfield 10, 3) := by decide +kernel
theorem dX6_foretell_8 : decode cX6_foretell 8 = .ok (.invokevirtual 124, 3) := by decide +kernel
theorem dX6_foretell_11 : decode cX6_foretell 11 = .ok (.aload_n 0, 1) := by decide +kernel
theorem dX6_foretell_12 : decode cX6_foretell 12 = .ok (.getfield 16, 3) := by decide +kernel
theorem dX6_foretell_15 : decode cX6_foretell 15 = .ok (.iload_n 1, 1) := by decide +kernel
theorem dX6_foretell_16 : decode cX6_foretell 16 = .ok (.invokevirtual 181, 3) := by decide +kernel
theorem dX6_foretell_19 : decode cX6_foretell 19 = .ok (.return_, 1) := by decide +kernel
theorem dX6_suppose_0 : decode cX6_suppose 0 = .ok (.aload_n 0, 1) := by decide +kernel
theorem dX6_suppose_1 : decode cX6_suppose 1 = .ok (.getfield 16, 3) := by decide +kernel
theorem dX6_suppose_4 : decode cX6_suppose 4 = .ok (.aload_n 0, 1) := by decide +kernel
theorem dX6_suppose_5 : decode cX6_suppose 5 = .ok (.getfield 10, 3) := by decide +kernel
theorem dX6_suppose_8 : decode cX6_suppose 8 = .ok (.invokevirtual 124, 3) := by decide +kernel
theorem dX6_suppose_11 : decode cX6_suppose 11 = .ok (.iload_n 3, 1) := by decide +kernel
theorem dX6_suppose_12 : decode cX6_suppose 12 = .ok (.lookupswitch 56 #[(0, 28), (1, 42)], 28) := by decide +kernel
theorem dX6_suppose_40 : decode cX6_suppose 40 = .ok (.aload_n 0, 1) := by decide +kernel
theorem dX6_suppose_41 : decode cX6_suppose 41 = .ok (.getfield 16, 3) := by decide +kernel
theorem dX6_suppose_44 : decode cX6_suppose 44 = .ok (.getfield 85, 3) := by decide +kernel
theorem dX6_suppose_47 : decode cX6_suppose 47 = .ok (.iload_n 1, 1) := by decide +kernel
theorem dX6_suppose_48 : decode cX6_suppose 48 = .ok (.iload 4, 2) := by decide +kernel
theorem dX6_suppose_50 : decode cX6_suppose 50 = .ok (.iastore, 1) := by decide +kernel
theorem dX6_suppose_51 : decode cX6_suppose 51 = .ok (.goto 26, 3) := by decide +kernel
theorem dX6_suppose_54 : decode cX6_suppose 54 = .ok (.aload_n 0, 1) := by decide +kernel
theorem dX6_suppose_55 : decode cX6_suppose 55 = .ok (.getfield 16, 3) := by decide +kernel
theorem dX6_suppose_58 : decode cX6_suppose 58 = .ok (.iload_n 1, 1) := by decide +kernel
theorem dX6_suppose_59 : decode cX6_suppose 59 = .ok (.iload_n 2, 1) := by decide +kernel
theorem dX6_suppose_60 : decode cX6_suppose 60 = .ok (.iload 4, 2) := by decide +kernel
theorem dX6_suppose_62 : decode cX6_suppose 62 = .ok (.invokevirtual 243, 3) := by decide +kernel
theorem dX6_suppose_65 : decode cX6_suppose 65 = .ok (.goto 12, 3) := by decide +kernel
theorem dX6_suppose_68 : decode cX6_suppose 68 = .ok (.aload_n 0, 1) := by decide +kernel
theorem dX6_suppose_69 : decode cX6_suppose 69 = .ok (.getfield 16, 3) := by decide +kernel
theorem dX6_suppose_72 : decode cX6_suppose 72 = .ok (.iload 4, 2) := by decide +kernel
theorem dX6_suppose_74 : decode cX6_suppose 74 = .ok (.putfield 72, 3) := by decide +kernel
theorem dX6_suppose_77 : decode cX6_suppose 77 = .ok (.return_, 1) := by decide +kernel
theorem dX6_commonDivisor_0 : decode cX6_commonDivisor 0 = .ok (.iload_n 0, 1) := by decide +kernel
theorem dX6_commonDivisor_1 : decode cX6_commonDivisor 1 = .ok (.istore_n 2, 1) := by decide +kernel
theorem dX6_commonDivisor_2 : decode cX6_commonDivisor 2 = .ok (.iload_n 1, 1) := by decide +kernel
theorem dX6_commonDivisor_3 : decode cX6_commonDivisor 3 = .ok (.istore_n 3, 1) := by decide +kernel
theorem dX6_commonDivisor_4 : decode cX6_commonDivisor 4 = .ok (.iconst 0, 1) := by decide +kernel
theorem dX6_commonDivisor_5 : decode cX6_commonDivisor 5 = .ok (.istore 4, 2) := by decide +kernel
theorem dX6_commonDivisor_7 : decode cX6_commonDivisor 7 = .ok (.iload 4, 2) := by decide +kernel
theorem dX6_commonDivisor_9 : decode cX6_commonDivisor 9 = .ok (.bipush 64, 2) := by decide +kernel
theorem dX6_commonDivisor_11 : decode cX6_commonDivisor 11 = .ok (.if_icmp .ge 23, 3) := by decide +kernel
theorem dX6_commonDivisor_14 : decode cX6_commonDivisor 14 = .ok (.iload_n 2, 1) := by decide +kernel
theorem dX6_commonDivisor_15 : decode cX6_commonDivisor 15 = .ok (.ifCond .le 19, 3) := by decide +kernel
theorem dX6_commonDivisor_18 : decode cX6_commonDivisor 18 = .ok (.iload_n 3, 1) := by decide +kernel
theorem dX6_commonDivisor_19 : decode cX6_commonDivisor 19 = .ok (.iload_n 2, 1) := by decide +kernel
theorem dX6_commonDivisor_20 : decode cX6_commonDivisor 20 = .ok (.irem, 1) := by decide +kernel
theorem dX6_commonDivisor_21 : decode cX6_commonDivisor 21 = .ok (.istore 5, 2) := by decide +kernel
theorem dX6_commonDivisor_23 : decode cX6_commonDivisor 23 = .ok (.iload_n 2, 1) := by decide +kernel
theorem dX6_commonDivisor_24 : decode cX6_commonDivisor 24 = .ok (.istore_n 3, 1) := by decide +kernel
theorem dX6_commonDivisor_25 : decode cX6_commonDivisor 25 = .ok (.iload 5, 2) := by decide +kernel
theorem dX6_commonDivisor_27 : decode cX6_commonDivisor 27 = .ok (.istore_n 2, 1) := by decide +kernel
theorem dX6_commonDivisor_28 : decode cX6_commonDivisor 28 = .ok (.iinc 4 1, 3) := by decide +kernel
theorem dX6_commonDivisor_31 : decode cX6_commonDivisor 31 = .ok (.goto (-24), 3) := by decide +kernel
theorem dX6_commonDivisor_34 : decode cX6_commonDivisor 34 = .ok (.iload_n 3, 1) := by decide +kernel
theorem dX6_commonDivisor_35 : decode cX6_commonDivisor 35 = .ok (.ireturn, 1) := by decide +kernel
end
section
theorem dX7_init_0 : decode cX7_init 0 = .ok (.aload_n 0, 1) := by decide +kernel
theorem dX7_init_1 : decode cX7_init 1 = .ok (.invokespecial 1, 3) := by decide +kernel
theorem dX7_init_4 : decode cX7_init 4 = .ok (.aload_n 0, 1) := by decide +kernel
theorem dX7_init_5 : decode cX7_init 5 = .ok (.bipush 8, 2) := by decide +kernel
theorem dX7_init_7 : decode cX7_init 7 = .ok (.putfield 7, 3) := by decide +kernel
theorem dX7_init_10 : decode cX7_init 10 = .ok (.aload_n 0, 1) := by decide +kernel
theorem dX7_init_11 : decode cX7_init 11 = .ok (.iconst 5, 1) := by decide +kernel
theorem dX7_init_12 : decode cX7_init 12 = .ok (.newarray .int, 2) := by decide +kernel
theorem dX7_init_14 : decode cX7_init 14 = .ok (.putfield 13, 3) := by decide +kernel
theorem dX7_init_17 : decode cX7_init 17 = .ok (.aload_n 0, 1) := by decide +kernel
theorem dX7_init_18 : decode cX7_init 18 = .ok (.bipush 27, 2) := by decide +kernel
theorem dX7_init_20 : decode cX7_init 20 = .ok (.newarray .int, 2) := by decide +kernel
theorem dX7_init_22 : decode cX7_init 22 = .ok (.putfield 17, 3) := by decide +kernel
theorem dX7_init_25 : decode cX7_init 25 = .ok (.aload_n 0, 1) := by decide +kernel
theorem dX7_init_26 : decode cX7_init 26 = .ok (.bipush 27, 2) := by decide +kernel
theorem dX7_init_28 : decode cX7_init 28 = .ok (.newarray .int, 2) := by decide +kernel
theorem dX7_init_30 : decode cX7_init 30 = .ok (.putfield 20, 3) := by decide +kernel
theorem dX7_init_33 : decode cX7_init 33 = .ok (.aload_n 0, 1) := by decide +kernel
theorem dX7_init_34 : decode cX7_init 34 = .ok (.sipush 216, 3) := by decide +kernel
theorem dX7_init_37 : decode cX7_init 37 = .ok (.newarray .int, 2) := by decide +kernel
theorem dX7_init_39 : decode cX7_init 39 = .ok (.putfield 23, 3) := by decide +kernel
theorem dX7_init_42 : decode cX7_init 42 = .ok (.aload_n 0, 1) := by decide +kernel
theorem dX7_init_43 : decode cX7_init 43 = .ok (.bipush 8, 2) := by decide +kernel
theorem dX7_init_45 : decode cX7_init 45 = .ok (.newarray .int, 2) := by decide +kernel
theorem dX7_init_47 : decode cX7_init 47 = .ok (.putfield 26, 3) := by decide +kernel
theorem dX7_init_50 : decode cX7_init 50 = .ok (.aload_n 0, 1) := by decide +kernel
theorem dX7_init_51 : decode cX7_init 51 = .ok (.bipush 27, 2) := by decide +kernel
theorem dX7_init_53 : decode cX7_init 53 = .ok (.newarray .int, 2) := by decide +kernel
theorem dX7_init_55 : decode cX7_init 55 = .ok (.putfield 29, 3) := by decide +kernel
theorem dX7_init_58 : decode cX7_init 58 = .ok (.aload_n 0, 1) := by decide +kernel
theorem dX7_init_59 : decode cX7_init 59 = .ok (.sipush 216, 3) := by decide +kernel
theorem dX7_init_62 : decode cX7_init 62 = .ok (.newarray .int, 2) := by decide +kernel
theorem dX7_init_64 : decode cX7_init 64 = .ok (.putfield 32, 3) := by decide +kernel
theorem dX7_init_67 : decode cX7_init 67 = .ok (.aload_n 0, 1) := by decide +kernel
theorem dX7_init_68 : decode cX7_init 68 = .ok (.bipush 96, 2) := by decide +kernel
theorem dX7_init_70 : decode cX7_init 70 = .ok (.newarray .long, 2) := by decide +kernel
theorem dX7_init_72 : decode cX7_init 72 = .ok (.putfield 35, 3) := by decide +kernel
theorem dX7_init_75 : decode cX7_init 75 = .ok (.aload_n 0, 1) := by decide +kernel
theorem dX7_init_76 : decode cX7_init 76 = .ok (.iconst 4, 1) := by decide +kernel
theorem dX7_init_77 : decode cX7_init 77 = .ok (.newarray .int, 2) := by decide +kernel
theorem dX7_init_79 : decode cX7_init 79 = .ok (.putfield 39, 3) := by decide +kernel
theorem dX7_init_82 : decode cX7_init 82 = .ok (.aload_n 0, 1) := by decide +kernel
theorem dX7_init_83 : decode cX7_init 83 = .ok (.iconst 4, 1) := by decide +kernel
theorem dX7_init_84 : decode cX7_init 84 = .ok (.newarray .int, 2) := by decide +kernel
theorem dX7_init_86 : decode cX7_init 86 = .ok (.putfield 42, 3) := by decide +kernel
theorem dX7_init_89 : decode cX7_init 89 = .ok (.aload_n 0, 1) := by decide +kernel
theorem dX7_init_90 : decode cX7_init 90 = .ok (.bipush 50, 2) := by decide +kernel
theorem dX7_init_92 : decode cX7_init 92 = .ok (.newarray .int, 2) := by decide +kernel
theorem dX7_init_94 : decode cX7_init 94 = .ok (.putfield 45, 3) := by decide +kernel
theorem dX7_init_97 : decode cX7_init 97 = .ok (.aload_n 0, 1) := by decide +kernel
theorem dX7_init_98 : decode cX7_init 98 = .ok (.bipush (-4), 2) := by decide +kernel
theorem dX7_init_100 : decode cX7_init 100 = .ok (.putfield 48, 3) := by decide +kernel
theorem dX7_init_103 : decode cX7_init 103 = .ok (.aload_n 0, 1) := by decide +kernel
theorem dX7_init_104 : decode cX7_init 104 = .ok (.iconst 4, 1) := by decide +kernel
theorem dX7_init_105 : decode cX7_init 105 = .ok (.newarray .int, 2) := by decide +kernel
theorem dX7_init_107 : decode cX7_init 107 = .ok (.putfield 51, 3) := by decide +kernel
theorem dX7_init_110 : decode cX7_init 110 = .ok (.aload_n 0, 1) := by decide +kernel
theorem dX7_init_111 : decode cX7_init 111 = .ok (.iconst 5, 1) := by decide +kernel
theorem dX7_init_112 : decode cX7_init 112 = .ok (.newarray .int, 2) := by decide +kernel
theorem dX7_init_114 : decode cX7_init 114 = .ok (.putfield 54, 3) := by decide +kernel
theorem dX7_init_117 : decode cX7_init 117 = .ok (.aload_n 0, 1) := by decide +kernel
theorem dX7_init_118 : decode cX7_init 118 = .ok (.bipush 24, 2) := by decide +kernel
theorem dX7_init_120 : decode cX7_init 120 = .ok (.newarray .int, 2) := by decide +kernel
theorem dX7_init_122 : decode cX7_init 122 = .ok (.putfield 57, 3) := by decide +kernel
theorem dX7_init_125 : decode cX7_init 125 = .ok (.iconst 0, 1) := by decide +kernel
theorem dX7_init_126 : decode cX7_init 126 = .ok (.istore_n 1, 1) := by decide +kernel
theorem dX7_init_127 : decode cX7_init 127 = .ok (.iload_n 1, 1) := by decide +kernel
theorem dX7_init_128 : decode cX7_init 128 = .ok (.iconst 4, 1) := by decide +kernel
theorem dX7_init_129 : decode cX7_init 129 = .ok (.if_icmp .ge 27, 3) := by decide +kernel
theorem dX7_init_132 : decode cX7_init 132 = .ok (.aload_n 0, 1) := by decide +kernel
theorem dX7_init_133 : decode cX7_init 133 = .ok (.getfield 17, 3) := by decide +kernel
theorem dX7_init_136 : decode cX7_init 136 = .ok (.bipush 20, 2) := by decide +kernel
theorem dX7_init_138 : decode cX7_init 138 = .ok (.iload_n 1, 1) := by decide +kernel
theorem dX7_init_139 : decode cX7_init 139 = .ok (.iadd, 1) := by decide +kernel
theorem dX7_init_140 : decode cX7_init 140 = .ok (.bipush (-4), 2) := by decide +kernel
theorem dX7_init_142 : decode cX7_init 142 = .ok (.iastore, 1) := by decide +kernel
theorem dX7_init_143 : decode cX7_init 143 = .ok (.aload_n 0, 1) := by decide +kernel
theorem dX7_init_144 : decode cX7_init 144 = .ok (.getfield 42, 3) := by decide +kernel
theorem dX7_init_147 : decode cX7_init 147 = .ok (.iload_n 1, 1) := by decide +kernel
theorem dX7_init_148 : decode cX7_init 148 = .ok (.iconst (-1), 1) := by decide +kernel
theorem dX7_init_149 : decode cX7_init 149 = .ok (.iastore, 1) := by decide +kernel
theorem dX7_init_150 : decode cX7_init 150 = .ok (.iinc 1 1, 3) := by decide +kernel
theorem dX7_init_153 : decode cX7_init 153 = .ok (.goto (-26), 3) := by decide +kernel
theorem dX7_init_156 : decode cX7_init 156 = .ok (.aload_n 0, 1) := by decide +kernel
theorem dX7_init_157 : decode cX7_init 157 = .ok (.getfield 17, 3) := by decide +kernel
theorem dX7_init_160 : decode cX7_init 160 = .ok (.bipush 26, 2) := by decide +kernel
theorem dX7_init_162 : decode cX7_init 162 = .ok (.iconst 1, 1) := by decide +kernel
theorem dX7_init_163 : decode cX7_init 163 = .ok (.iastore, 1) := by decide +kernel
theorem dX7_init_164 : decode cX7_init 164 = .ok (.return_, 1) := by decide +kernel
theorem dX7_lies_0 : decode cX7_lies 0 = .ok (.lload_n 0, 1) := by decide +kernel
theorem dX7_lies_1 : decode cX7_lies 1 = .ok (.lload_n 2, 1) := by decide +kernel
theorem dX7_lies_2 : decode cX7_lies 2 = .ok (.lcmp, 1) := by decide +kernel
theorem dX7_lies_3 : decode cX7_lies 3 = .ok (.ifCond .lt 14, 3) := by decide +kernel
theorem dX7_lies_6 : decode cX7_lies 6 = .ok (.lload_n 0, 1) := by decide +kernel
theorem dX7_lies_7 : decode cX7_lies 7 = .ok (.lload 4, 2) := by decide +kernel
theorem dX7_lies_9 : decode cX7_lies 9 = .ok (.lcmp, 1) := by decide +kernel
theorem dX7_lies_10 : decode cX7_lies 10 = .ok (.ifCond .gt 7, 3) := by decide +kernel
theorem dX7_lies_13 : decode cX7_lies 13 = .ok (.iconst 1, 1) := by decide +kernel
theorem dX7_lies_14 : decode cX7_lies 14 = .ok (.goto 4, 3) := by decide +kernel
theorem dX7_lies_17 : decode cX7_lies 17 = .ok (.iconst 0, 1) := by decide +kernel
theorem dX7_lies_18 : decode cX7_lies 18 = .ok (.ireturn, 1) := by decide +kernel
theorem dX7_isOne_0 : decode cX7_isOne 0 = .ok (.iload_n 1, 1) := by decide +kernel
theorem dX7_isOne_1 : decode cX7_isOne 1 = .ok (.i2l, 1) := by decide +kernel
theorem dX7_isOne_2 : decode cX7_isOne 2 = .ok (.lconst 0, 1) := by decide +kernel
theorem dX7_isOne_3 : decode cX7_isOne 3 = .ok (.aload_n 0, 1) := by decide +kernel
theorem dX7_isOne_4 : decode cX7_isOne 4 = .ok (.getfield 60, 3) := by decide +kernel
theorem dX7_isOne_7 : decode cX7_isOne 7 = .ok (.iconst 1, 1) := by decide +kernel
theorem dX7_isOne_8 : decode cX7_isOne 8 = .ok (.isub, 1) := by decide +kernel
theorem dX7_isOne_9 : decode cX7_isOne 9 = .ok (.i2l, 1) := by decide +kernel
theorem dX7_isOne_10 : decode cX7_isOne 10 = .ok (.invokestatic 63, 3) := by decide +kernel
theorem dX7_isOne_13 : decode cX7_isOne 13 = .ok (.ireturn, 1) := by decide +kernel
theorem dX7_isDoor_0 : decode cX7_isDoor 0 = .ok (.iload_n 0, 1) := by decide +kernel
theorem dX7_isDoor_1 : decode cX7_isDoor 1 = .ok (.i2l, 1) := by decide +kernel
theorem dX7_isDoor_2 : decode cX7_isDoor 2 = .ok (.lconst 0, 1) := by decide +kernel
theorem dX7_isDoor_3 : decode cX7_isDoor 3 = .ok (.ldc2_w 67, 3) := by decide +kernel
theorem dX7_isDoor_6 : decode cX7_isDoor 6 = .ok (.invokestatic 63, 3) := by decide +kernel
theorem dX7_isDoor_9 : decode cX7_isDoor 9 = .ok (.ireturn, 1) := by decide +kernel
theorem dX7_aside_0 : decode cX7_aside 0 = .ok (.iconst 0, 1) := by decide +kernel
theorem dX7_aside_1 : decode cX7_aside 1 = .ok (.istore_n 1, 1) := by decide +kernel
theorem dX7_aside_2 : decode cX7_aside 2 = .ok (.iload_n 1, 1) := by decide +kernel
theorem dX7_aside_3 : decode cX7_aside 3 = .ok (.bipush 27, 2) := by decide +kernel
theorem dX7_aside_5 : decode cX7_aside 5 = .ok (.if_icmp .ge 21, 3) := by decide +kernel
theorem dX7_aside_8 : decode cX7_aside 8 = .ok (.aload_n 0, 1) := by decide +kernel
theorem dX7_aside_9 : decode cX7_aside 9 = .ok (.getfield 20, 3) := by decide +kernel
theorem dX7_aside_12 : decode cX7_aside 12 = .ok (.iload_n 1, 1) := by decide +kernel
theorem dX7_aside_13 : decode cX7_aside 13 = .ok (.aload_n 0, 1) := by decide +kernel
theorem dX7_aside_14 : decode cX7_aside 14 = .ok (.getfield 17, 3) := by decide +kernel
theorem dX7_aside_17 : decode cX7_aside 17 = .ok (.iload_n 1, 1) := by decide +kernel
theorem dX7_aside_18 : decode cX7_aside 18 = .ok (.iaload, 1) := by decide +kernel
theorem dX7_aside_19 : decode cX7_aside 19 = .ok (.iastore, 1) := by decide +kernel
theorem dX7_aside_20 : decode cX7_aside 20 = .ok (.iinc 1 1, 3) := by decide +kernel
theorem dX7_aside_23 : decode cX7_aside 23 = .ok (.goto (-21), 3) := by decide +kernel
theorem dX7_aside_26 : decode cX7_aside 26 = .ok (.return_, 1) := by decide +kernel
theorem dX7_take_0 : decode cX7_take 0 = .ok (.iconst 0, 1) := by decide +kernel
theorem dX7_take_1 : decode cX7_take 1 = .ok (.istore_n 1, 1) := by decide +kernel
theorem dX7_take_2 : decode cX7_take 2 = .ok (.iload_n 1, 1) := by decide +kernel
theorem dX7_take_3 : decode cX7_take 3 = .ok (.bipush 27, 2) := by decide +kernel
theorem dX7_take_5 : decode cX7_take 5 = .ok (.if_icmp .ge 21, 3) := by decide +kernel
theorem dX7_take_8 : decode cX7_take 8 = .ok (.aload_n 0, 1) := by decide +kernel
theorem dX7_take_9 : decode cX7_take 9 = .ok (.getfield 17, 3) := by decide +kernel
theorem dX7_take_12 : decode cX7_take 12 = .ok (.iload_n 1, 1) := by decide +kernel
theorem dX7_take_13 : decode cX7_take 13 = .ok (.aload_n 0, 1) := by decide +kernel
theorem dX7_take_14 : decode cX7_take 14 = .ok (.getfield 20, 3) := by decide +kernel
theorem dX7_take_17 : decode cX7_take 17 = .ok (.iload_n 1, 1) := by decide +kernel
theorem dX7_take_18 : decode cX7_take 18 = .ok (.iaload, 1) := by decide +kernel
theorem dX7_take_19 : decode cX7_take 19 = .ok (.iastore, 1) := by decide +kernel
theorem dX7_take_20 : decode cX7_take 20 = .ok (.iinc 1 1, 3) := by decide +kernel
theorem dX7_take_23 : decode cX7_take 23 = .ok (.goto (-21), 3) := by decide +kernel
theorem dX7_take_26 : decode cX7_take 26 = .ok (.return_, 1) := by decide +kernel
theorem dX7_kindOf_0 : decode cX7_kindOf 0 = .ok (.iload_n 1, 1) := by decide +kernel
theorem dX7_kindOf_1 : decode cX7_kindOf 1 = .ok (.aload_n 0, 1) := by decide +kernel
theorem dX7_kindOf_2 : decode cX7_kindOf 2 = .ok (.getfield 48, 3) := by decide +kernel
theorem dX7_kindOf_5 : decode cX7_kindOf 5 = .ok (.if_icmp .ne 10, 3) := by decide +kernel
theorem dX7_kindOf_8 : decode cX7_kindOf 8 = .ok (.aload_n 0, 1) := by decide +kernel
theorem dX7_kindOf_9 : decode cX7_kindOf 9 = .ok (.getfield 69, 3) := by decide +kernel
theorem dX7_kindOf_12 : decode cX7_kindOf 12 = .ok (.goto 9, 3) := by decide +kernel
theorem dX7_kindOf_15 : decode cX7_kindOf 15 = .ok (.aload_n 0, 1) := by decide +kernel
theorem dX7_kindOf_16 : decode cX7_kindOf 16 = .ok (.getfield 13, 3) := by decide +kernel
theorem dX7_kindOf_19 : decode cX7_kindOf 19 = .ok (.iload_n 1, 1) := by decide +kernel
theorem dX7_kindOf_20 : decode cX7_kindOf 20 = .ok (.iaload, 1) := by decide +kernel
theorem dX7_kindOf_21 : decode cX7_kindOf 21 = .ok (.ireturn, 1) := by decide +kernel
theorem dX7_keysOf_0 : decode cX7_keysOf 0 = .ok (.iconst 0, 1) := by decide +kernel
theorem dX7_keysOf_1 : decode cX7_keysOf 1 = .ok (.istore_n 2, 1) := by decide +kernel
theorem dX7_keysOf_2 : decode cX7_keysOf 2 = .ok (.iconst 0, 1) := by decide +kernel
theorem dX7_keysOf_3 : decode cX7_keysOf 3 = .ok (.istore_n 3, 1) := by decide +kernel
theorem dX7_keysOf_4 : decode cX7_keysOf 4 = .ok (.iload_n 3, 1) := by decide +kernel
theorem dX7_keysOf_5 : decode cX7_keysOf 5 = .ok (.iconst 4, 1) := by decide +kernel
theorem dX7_keysOf_6 : decode cX7_keysOf 6 = .ok (.if_icmp .ge 30, 3) := by decide +kernel
theorem dX7_keysOf_9 : decode cX7_keysOf 9 = .ok (.iload_n 2, 1) := by decide +kernel
theorem dX7_keysOf_10 : decode cX7_keysOf 10 = .ok (.aload_n 0, 1) := by decide +kernel
theorem dX7_keysOf_11 : decode cX7_keysOf 11 = .ok (.getfield 20, 3) := by decide +kernel
theorem dX7_keysOf_14 : decode cX7_keysOf 14 = .ok (.bipush 20, 2) := by decide +kernel
theorem dX7_keysOf_16 : decode cX7_keysOf 16 = .ok (.iload_n 3, 1) := by decide +kernel
theorem dX7_keysOf_17 : decode cX7_keysOf 17 = .ok (.iadd, 1) := by decide +kernel
theorem dX7_keysOf_18 : decode cX7_keysOf 18 = .ok (.iaload, 1) := by decide +kernel
theorem dX7_keysOf_19 : decode cX7_keysOf 19 = .ok (.iload_n 1, 1) := by decide +kernel
theorem dX7_keysOf_20 : decode cX7_keysOf 20 = .ok (.if_icmp .ne 7, 3) := by decide +kernel
theorem dX7_keysOf_23 : decode cX7_keysOf 23 = .ok (.iconst 1, 1) := by decide +kernel
theorem dX7_keysOf_24 : decode cX7_keysOf 24 = .ok (.goto 4, 3) := by decide +kernel
theorem dX7_keysOf_27 : decode cX7_keysOf 27 = .ok (.iconst 0, 1) := by decide +kernel
theorem dX7_keysOf_28 : decode cX7_keysOf 28 = .ok (.iadd, 1) := by decide +kernel
theorem dX7_keysOf_29 : decode cX7_keysOf 29 = .ok (.istore_n 2, 1) := by decide +kernel
theorem dX7_keysOf_30 : decode cX7_keysOf 30 = .ok (.iinc 3 1, 3) := by decide +kernel
theorem dX7_keysOf_33 : decode cX7_keysOf 33 = .ok (.goto (-29), 3) := by decide +kernel
theorem dX7_keysOf_36 : decode cX7_keysOf 36 = .ok (.iload_n 2, 1) := by decide +kernel
theorem dX7_keysOf_37 : decode cX7_keysOf 37 = .ok (.ireturn, 1) := by decide +kernel
theorem dX7_more_0 : decode cX7_more 0 = .ok (.aload_n 0, 1) := by decide +kernel
theorem dX7_more_1 : decode cX7_more 1 = .ok (.iload_n 1, 1) := by decide +kernel
theorem dX7_more_2 : decode cX7_more 2 = .ok (.invokevirtual 72, 3) := by decide +kernel
theorem dX7_more_5 : decode cX7_more 5 = .ok (.istore_n 3, 1) := by decide +kernel
theorem dX7_more_6 : decode cX7_more 6 = .ok (.iload_n 3, 1) := by decide +kernel
theorem dX7_more_7 : decode cX7_more 7 = .ok (.iconst 1, 1) := by decide +kernel
theorem dX7_more_8 : decode cX7_more 8 = .ok (.if_icmp .eq 8, 3) := by decide +kernel
theorem dX7_more_11 : decode cX7_more 11 = .ok (.iload_n 3, 1) := by decide +kernel
theorem dX7_more_12 : decode cX7_more 12 = .ok (.iconst 3, 1) := by decide +kernel
theorem dX7_more_13 : decode cX7_more 13 = .ok (.if_icmp .ne 25, 3) := by decide +kernel
theorem dX7_more_16 : decode cX7_more 16 = .ok (.aload_n 0, 1) := by decide +kernel
theorem dX7_more_17 : decode cX7_more 17 = .ok (.iload_n 1, 1) := by decide +kernel
theorem dX7_more_18 : decode cX7_more 18 = .ok (.invokevirtual 76, 3) := by decide +kernel
theorem dX7_more_21 : decode cX7_more 21 = .ok (.istore 4, 2) := by decide +kernel
theorem dX7_more_23 : decode cX7_more 23 = .ok (.iload_n 3, 1) := by decide +kernel
theorem dX7_more_24 : decode cX7_more 24 = .ok (.iconst 3, 1) := by decide +kernel
theorem dX7_more_25 : decode cX7_more 25 = .ok (.if_icmp .ne 10, 3) := by decide +kernel
theorem dX7_more_28 : decode cX7_more 28 = .ok (.iconst 2, 1) := by decide +kernel
theorem dX7_more_29 : decode cX7_more 29 = .ok (.iload 4, 2) := by decide +kernel
theorem dX7_more_31 : decode cX7_more 31 = .ok (.imul, 1) := by decide +kernel
theorem dX7_more_32 : decode cX7_more 32 = .ok (.goto 5, 3) := by decide +kernel
theorem dX7_more_35 : decode cX7_more 35 = .ok (.iload 4, 2) := by decide +kernel
theorem dX7_more_37 : decode cX7_more 37 = .ok (.ireturn, 1) := by decide +kernel
theorem dX7_more_38 : decode cX7_more 38 = .ok (.iload_n 3, 1) := by decide +kernel
theorem dX7_more_39 : decode cX7_more 39 = .ok (.iconst 2, 1) := by decide +kernel
theorem dX7_more_40 : decode cX7_more 40 = .ok (.if_icmp .eq 8, 3) := by decide +kernel
theorem dX7_more_43 : decode cX7_more 43 = .ok (.iload_n 3, 1) := by decide +kernel
theorem dX7_more_44 : decode cX7_more 44 = .ok (.iconst 4, 1) := by decide +kernel
theorem dX7_more_45 : decode cX7_more 45 = .ok (.if_icmp .ne 7, 3) := by decide +kernel
theorem dX7_more_48 : decode cX7_more 48 = .ok (.iconst 1, 1) := by decide +kernel
theorem dX7_more_49 : decode cX7_more 49 = .ok (.goto 4, 3) := by decide +kernel
theorem dX7_more_52 : decode cX7_more 52 = .ok (.iconst 0, 1) := by decide +kernel
theorem dX7_more_53 : decode cX7_more 53 = .ok (.istore 4, 2) := by decide +kernel
theorem dX7_more_55 : decode cX7_more 55 = .ok (.iload 4, 2) := by decide +kernel
theorem dX7_more_57 : decode cX7_more 57 = .ok (.ifCond .eq 16, 3) := by decide +kernel
theorem dX7_more_60 : decode cX7_more 60 = .ok (.aload_n 0, 1) := by decide +kernel
theorem dX7_more_61 : decode cX7_more 61 = .ok (.getfield 20, 3) := by decide +kernel
theorem dX7_more_64 : decode cX7_more 64 = .ok (.bipush 24, 2) := by decide +kernel
theorem dX7_more_66 : decode cX7_more 66 = .ok (.iaload, 1) := by decide +kernel
theorem dX7_more_67 : decode cX7_more 67 = .ok (.iconst 2, 1) := by decide +kernel
theorem dX7_more_68 : decode cX7_more 68 = .ok (.irem, 1) := by decide +kernel
theorem dX7_more_69 : decode cX7_more 69 = .ok (.iconst 1, 1) := by decide +kernel
theorem dX7_more_70 : decode cX7_more 70 = .ok (.if_icmp .eq 23, 3) := by decide +kernel
theorem dX7_more_73 : decode cX7_more 73 = .ok (.iload_n 3, 1) := by decide +kernel
theorem dX7_more_74 : decode cX7_more 74 = .ok (.iconst 4, 1) := by decide +kernel
theorem dX7_more_75 : decode cX7_more 75 = .ok (.if_icmp .ne 22, 3) := by decide +kernel
theorem dX7_more_78 : decode cX7_more 78 = .ok (.aload_n 0, 1) := by decide +kernel
theorem dX7_more_79 : decode cX7_more 79 = .ok (.getfield 20, 3) := by decide +kernel
theorem dX7_more_82 : decode cX7_more 82 = .ok (.iconst 4, 1) := by decide +kernel
theorem dX7_more_83 : decode cX7_more 83 = .ok (.iload_n 1, 1) := by decide +kernel
theorem dX7_more_84 : decode cX7_more 84 = .ok (.imul, 1) := by decide +kernel
theorem dX7_more_85 : decode cX7_more 85 = .ok (.iload_n 2, 1) := by decide +kernel
theorem dX7_more_86 : decode cX7_more 86 = .ok (.iadd, 1) := by decide +kernel
theorem dX7_more_87 : decode cX7_more 87 = .ok (.iaload, 1) := by decide +kernel
theorem dX7_more_88 : decode cX7_more 88 = .ok (.bipush 9, 2) := by decide +kernel
theorem dX7_more_90 : decode cX7_more 90 = .ok (.if_icmp .lt 7, 3) := by decide +kernel
theorem dX7_more_93 : decode cX7_more 93 = .ok (.iconst 1, 1) := by decide +kernel
theorem dX7_more_94 : decode cX7_more 94 = .ok (.goto 4, 3) := by decide +kernel
theorem dX7_more_97 : decode cX7_more 97 = .ok (.iconst 0, 1) := by decide +kernel
theorem dX7_more_98 : decode cX7_more 98 = .ok (.istore 5, 2) := by decide +kernel
theorem dX7_more_100 : decode cX7_more 100 = .ok (.iload 5, 2) := by decide +kernel
theorem dX7_more_102 : decode cX7_more 102 = .ok (.ifCond .eq 7, 3) := by decide +kernel
theorem dX7_more_105 : decode cX7_more 105 = .ok (.iconst 0, 1) := by decide +kernel
theorem dX7_more_106 : decode cX7_more 106 = .ok (.goto 4, 3) := by decide +kernel
theorem dX7_more_109 : decode cX7_more 109 = .ok (.iconst 1, 1) := by decide +kernel
theorem dX7_more_110 : decode cX7_more 110 = .ok (.ireturn, 1) := by decide +kernel
theorem dX7_leastOf_0 : decode cX7_leastOf 0 = .ok (.bipush (-4), 2) := by decide +kernel
theorem dX7_leastOf_2 : decode cX7_leastOf 2 = .ok (.istore_n 2, 1) := by decide +kernel
theorem dX7_leastOf_3 : decode cX7_leastOf 3 = .ok (.iconst 0, 1) := by decide +kernel
theorem dX7_leastOf_4 : decode cX7_leastOf 4 = .ok (.istore_n 3, 1) := by decide +kernel
theorem dX7_leastOf_5 : decode cX7_leastOf 5 = .ok (.iload_n 3, 1) := by decide +kernel
theorem dX7_leastOf_6 : decode cX7_leastOf 6 = .ok (.aload_n 0, 1) := by decide +kernel
theorem dX7_leastOf_7 : decode cX7_leastOf 7 = .ok (.getfield 60, 3) := by decide +kernel
theorem dX7_leastOf_10 : decode cX7_leastOf 10 = .ok (.if_icmp .ge 44, 3) := by decide +kernel
theorem dX7_leastOf_13 : decode cX7_leastOf 13 = .ok (.iload_n 2, 1) := by decide +kernel
theorem dX7_leastOf_14 : decode cX7_leastOf 14 = .ok (.bipush (-4), 2) := by decide +kernel
theorem dX7_leastOf_16 : decode cX7_leastOf 16 = .ok (.if_icmp .eq 26, 3) := by decide +kernel
theorem dX7_leastOf_19 : decode cX7_leastOf 19 = .ok (.aload_n 0, 1) := by decide +kernel
theorem dX7_leastOf_20 : decode cX7_leastOf 20 = .ok (.getfield 20, 3) := by decide +kernel
theorem dX7_leastOf_23 : decode cX7_leastOf 23 = .ok (.iconst 4, 1) := by decide +kernel
theorem dX7_leastOf_24 : decode cX7_leastOf 24 = .ok (.iload_n 3, 1) := by decide +kernel
theorem dX7_leastOf_25 : decode cX7_leastOf 25 = .ok (.imul, 1) := by decide +kernel
theorem dX7_leastOf_26 : decode cX7_leastOf 26 = .ok (.iload_n 1, 1) := by decide +kernel
theorem dX7_leastOf_27 : decode cX7_leastOf 27 = .ok (.iadd, 1) := by decide +kernel
theorem dX7_leastOf_28 : decode cX7_leastOf 28 = .ok (.iaload, 1) := by decide +kernel
theorem dX7_leastOf_29 : decode cX7_leastOf 29 = .ok (.aload_n 0, 1) := by decide +kernel
theorem dX7_leastOf_30 : decode cX7_leastOf 30 = .ok (.getfield 20, 3) := by decide +kernel
theorem dX7_leastOf_33 : decode cX7_leastOf 33 = .ok (.iconst 4, 1) := by decide +kernel
theorem dX7_leastOf_34 : decode cX7_leastOf 34 = .ok (.iload_n 2, 1) := by decide +kernel
theorem dX7_leastOf_35 : decode cX7_leastOf 35 = .ok (.imul, 1) := by decide +kernel
theorem dX7_leastOf_36 : decode cX7_leastOf 36 = .ok (.iload_n 1, 1) := by decide +kernel
theorem dX7_leastOf_37 : decode cX7_leastOf 37 = .ok (.iadd, 1) := by decide +kernel
theorem dX7_leastOf_38 : decode cX7_leastOf 38 = .ok (.iaload, 1) := by decide +kernel
theorem dX7_leastOf_39 : decode cX7_leastOf 39 = .ok (.if_icmp .ge 7, 3) := by decide +kernel
theorem dX7_leastOf_42 : decode cX7_leastOf 42 = .ok (.iload_n 3, 1) := by decide +kernel
theorem dX7_leastOf_43 : decode cX7_leastOf 43 = .ok (.goto 4, 3) := by decide +kernel
theorem dX7_leastOf_46 : decode cX7_leastOf 46 = .ok (.iload_n 2, 1) := by decide +kernel
theorem dX7_leastOf_47 : decode cX7_leastOf 47 = .ok (.istore_n 2, 1) := by decide +kernel
theorem dX7_leastOf_48 : decode cX7_leastOf 48 = .ok (.iinc 3 1, 3) := by decide +kernel
theorem dX7_leastOf_51 : decode cX7_leastOf 51 = .ok (.goto (-46), 3) := by decide +kernel
theorem dX7_leastOf_54 : decode cX7_leastOf 54 = .ok (.iload_n 2, 1) := by decide +kernel
theorem dX7_leastOf_55 : decode cX7_leastOf 55 = .ok (.ireturn, 1) := by decide +kernel
theorem dX7_goDoor_0 : decode cX7_goDoor 0 = .ok (.aload_n 0, 1) := by decide +kernel
theorem dX7_goDoor_1 : decode cX7_goDoor 1 = .ok (.getfield 20, 3) := by decide +kernel
theorem dX7_goDoor_4 : decode cX7_goDoor 4 = .ok (.bipush 20, 2) := by decide +kernel
theorem dX7_goDoor_6 : decode cX7_goDoor 6 = .ok (.iload_n 1, 1) := by decide +kernel
theorem dX7_goDoor_7 : decode cX7_goDoor 7 = .ok (.iadd, 1) := by decide +kernel
theorem dX7_goDoor_8 : decode cX7_goDoor 8 = .ok (.iaload, 1) := by decide +kernel
theorem dX7_goDoor_9 : decode cX7_goDoor 9 = .ok (.istore_n 2, 1) := by decide +kernel
theorem dX7_goDoor_10 : decode cX7_goDoor 10 = .ok (.iload_n 2, 1) := by decide +kernel
theorem dX7_goDoor_11 : decode cX7_goDoor 11 = .ok (.bipush (-4), 2) := by decide +kernel
theorem dX7_goDoor_13 : decode cX7_goDoor 13 = .ok (.if_icmp .ne 4, 3) := by decide +kernel
theorem dX7_goDoor_16 : decode cX7_goDoor 16 = .ok (.return_, 1) := by decide +kernel
theorem dX7_goDoor_17 : decode cX7_goDoor 17 = .ok (.aload_n 0, 1) := by decide +kernel
theorem dX7_goDoor_18 : decode cX7_goDoor 18 = .ok (.getfield 20, 3) := by decide +kernel
theorem dX7_goDoor_21 : decode cX7_goDoor 21 = .ok (.iconst 4, 1) := by decide +kernel
theorem dX7_goDoor_22 : decode cX7_goDoor 22 = .ok (.iload_n 2, 1) := by decide +kernel
theorem dX7_goDoor_23 : decode cX7_goDoor 23 = .ok (.imul, 1) := by decide +kernel
theorem dX7_goDoor_24 : decode cX7_goDoor 24 = .ok (.iload_n 1, 1) := by decide +kernel
theorem dX7_goDoor_25 : decode cX7_goDoor 25 = .ok (.iadd, 1) := by decide +kernel
theorem dX7_goDoor_26 : decode cX7_goDoor 26 = .ok (.iaload, 1) := by decide +kernel
theorem dX7_goDoor_27 : decode cX7_goDoor 27 = .ok (.aload_n 0, 1) := by decide +kernel
theorem dX7_goDoor_28 : decode cX7_goDoor 28 = .ok (.getfield 7, 3) := by decide +kernel
theorem dX7_goDoor_31 : decode cX7_goDoor 31 = .ok (.iconst 4, 1) := by decide +kernel
theorem dX7_goDoor_32 : decode cX7_goDoor 32 = .ok (.iadd, 1) := by decide +kernel
theorem dX7_goDoor_33 : decode cX7_goDoor 33 = .ok (.if_icmp .lt 40, 3) := by decide +kernel
theorem dX7_goDoor_36 : decode cX7_goDoor 36 = .ok (.aload_n 0, 1) := by decide +kernel
theorem dX7_goDoor_37 : decode cX7_goDoor 37 = .ok (.getfield 20, 3) := by decide +kernel
theorem dX7_goDoor_40 : decode cX7_goDoor 40 = .ok (.iconst 4, 1) := by decide +kernel
theorem dX7_goDoor_41 : decode cX7_goDoor 41 = .ok (.iload_n 2, 1) := by decide +kernel
theorem dX7_goDoor_42 : decode cX7_goDoor 42 = .ok (.imul, 1) := by decide +kernel
theorem dX7_goDoor_43 : decode cX7_goDoor 43 = .ok (.iload_n 1, 1) := by decide +kernel
theorem dX7_goDoor_44 : decode cX7_goDoor 44 = .ok (.iadd, 1) := by decide +kernel
theorem dX7_goDoor_45 : decode cX7_goDoor 45 = .ok (.iconst 0, 1) := by decide +kernel
theorem dX7_goDoor_46 : decode cX7_goDoor 46 = .ok (.iastore, 1) := by decide +kernel
theorem dX7_goDoor_47 : decode cX7_goDoor 47 = .ok (.aload_n 0, 1) := by decide +kernel
theorem dX7_goDoor_48 : decode cX7_goDoor 48 = .ok (.getfield 20, 3) := by decide +kernel
theorem dX7_goDoor_51 : decode cX7_goDoor 51 = .ok (.bipush 25, 2) := by decide +kernel
theorem dX7_goDoor_53 : decode cX7_goDoor 53 = .ok (.dup2, 1) := by decide +kernel
theorem dX7_goDoor_54 : decode cX7_goDoor 54 = .ok (.iaload, 1) := by decide +kernel
theorem dX7_goDoor_55 : decode cX7_goDoor 55 = .ok (.iconst 1, 1) := by decide +kernel
theorem dX7_goDoor_56 : decode cX7_goDoor 56 = .ok (.iadd, 1) := by decide +kernel
theorem dX7_goDoor_57 : decode cX7_goDoor 57 = .ok (.iastore, 1) := by decide +kernel
theorem dX7_goDoor_58 : decode cX7_goDoor 58 = .ok (.aload_n 0, 1) := by decide +kernel
theorem dX7_goDoor_59 : decode cX7_goDoor 59 = .ok (.dup, 1) := by decide +kernel
theorem dX7_goDoor_60 : decode cX7_goDoor 60 = .ok (.getfield 79, 3) := by decide +kernel
theorem dX7_goDoor_63 : decode cX7_goDoor 63 = .ok (.iconst 1, 1) := by decide +kernel
theorem dX7_goDoor_64 : decode cX7_goDoor 64 = .ok (.iload_n 1, 1) := by decide +kernel
theorem dX7_goDoor_65 : decode cX7_goDoor 65 = .ok (.ishl, 1) := by decide +kernel
theorem dX7_goDoor_66 : decode cX7_goDoor 66 = .ok (.ior, 1) := by decide +kernel
theorem dX7_goDoor_67 : decode cX7_goDoor 67 = .ok (.putfield 79, 3) := by decide +kernel
theorem dX7_goDoor_70 : decode cX7_goDoor 70 = .ok (.goto 34, 3) := by decide +kernel
theorem dX7_goDoor_73 : decode cX7_goDoor 73 = .ok (.aload_n 0, 1) := by decide +kernel
theorem dX7_goDoor_74 : decode cX7_goDoor 74 = .ok (.getfield 20, 3) := by decide +kernel
theorem dX7_goDoor_77 : decode cX7_goDoor 77 = .ok (.iconst 4, 1) := by decide +kernel
theorem dX7_goDoor_78 : decode cX7_goDoor 78 = .ok (.iload_n 2, 1) := by decide +kernel
theorem dX7_goDoor_79 : decode cX7_goDoor 79 = .ok (.imul, 1) := by decide +kernel
theorem dX7_goDoor_80 : decode cX7_goDoor 80 = .ok (.iload_n 1, 1) := by decide +kernel
theorem dX7_goDoor_81 : decode cX7_goDoor 81 = .ok (.iadd, 1) := by decide +kernel
theorem dX7_goDoor_82 : decode cX7_goDoor 82 = .ok (.iaload, 1) := by decide +kernel
theorem dX7_goDoor_83 : decode cX7_goDoor 83 = .ok (.aload_n 0, 1) := by decide +kernel
theorem dX7_goDoor_84 : decode cX7_goDoor 84 = .ok (.getfield 7, 3) := by decide +kernel
theorem dX7_goDoor_87 : decode cX7_goDoor 87 = .ok (.if_icmp .lt 17, 3) := by decide +kernel
theorem dX7_goDoor_90 : decode cX7_goDoor 90 = .ok (.aload_n 0, 1) := by decide +kernel
theorem dX7_goDoor_91 : decode cX7_goDoor 91 = .ok (.getfield 20, 3) := by decide +kernel
theorem dX7_goDoor_94 : decode cX7_goDoor 94 = .ok (.bipush 20, 2) := by decide +kernel
theorem dX7_goDoor_96 : decode cX7_goDoor 96 = .ok (.iload_n 1, 1) := by decide +kernel
theorem dX7_goDoor_97 : decode cX7_goDoor 97 = .ok (.iadd, 1) := by decide +kernel
theorem dX7_goDoor_98 : decode cX7_goDoor 98 = .ok (.aload_n 0, 1) := by decide +kernel
theorem dX7_goDoor_99 : decode cX7_goDoor 99 = .ok (.iload_n 1, 1) := by decide +kernel
theorem dX7_goDoor_100 : decode cX7_goDoor 100 = .ok (.invokevirtual 82, 3) := by decide +kernel
theorem dX7_goDoor_103 : decode cX7_goDoor 103 = .ok (.iastore, 1) := by decide +kernel
theorem dX7_goDoor_104 : decode cX7_goDoor 104 = .ok (.return_, 1) := by decide +kernel
theorem dX7_goDay_0 : decode cX7_goDay 0 = .ok (.aload_n 0, 1) := by decide +kernel
theorem dX7_goDay_1 : decode cX7_goDay 1 = .ok (.iconst 0, 1) := by decide +kernel
theorem dX7_goDay_2 : decode cX7_goDay 2 = .ok (.putfield 79, 3) := by decide +kernel
theorem dX7_goDay_5 : decode cX7_goDay 5 = .ok (.iconst 0, 1) := by decide +kernel
theorem dX7_goDay_6 : decode cX7_goDay 6 = .ok (.istore_n 1, 1) := by decide +kernel
theorem dX7_goDay_7 : decode cX7_goDay 7 = .ok (.iload_n 1, 1) := by decide +kernel
theorem dX7_goDay_8 : decode cX7_goDay 8 = .ok (.iconst 4, 1) := by decide +kernel
theorem dX7_goDay_9 : decode cX7_goDay 9 = .ok (.if_icmp .ge 47, 3) := by decide +kernel
theorem dX7_goDay_12 : decode cX7_goDay 12 = .ok (.aload_n 0, 1) := by decide +kernel
theorem dX7_goDay_13 : decode cX7_goDay 13 = .ok (.getfield 51, 3) := by decide +kernel
theorem dX7_goDay_16 : decode cX7_goDay 16 = .ok (.iload_n 1, 1) := by decide +kernel
theorem dX7_goDay_17 : decode cX7_goDay 17 = .ok (.aload_n 0, 1) := by decide +kernel
theorem dX7_goDay_18 : decode cX7_goDay 18 = .ok (.getfield 20, 3) := by decide +kernel
theorem dX7_goDay_21 : decode cX7_goDay 21 = .ok (.bipush 20, 2) := by decide +kernel
theorem dX7_goDay_23 : decode cX7_goDay 23 = .ok (.iload_n 1, 1) := by decide +kernel
theorem dX7_goDay_24 : decode cX7_goDay 24 = .ok (.iadd, 1) := by decide +kernel
theorem dX7_goDay_25 : decode cX7_goDay 25 = .ok (.iaload, 1) := by decide +kernel
theorem dX7_goDay_26 : decode cX7_goDay 26 = .ok (.bipush (-4), 2) := by decide +kernel
theorem dX7_goDay_28 : decode cX7_goDay 28 = .ok (.if_icmp .ne 7, 3) := by decide +kernel
theorem dX7_goDay_31 : decode cX7_goDay 31 = .ok (.iconst 0, 1) := by decide +kernel
theorem dX7_goDay_32 : decode cX7_goDay 32 = .ok (.goto 17, 3) := by decide +kernel
theorem dX7_goDay_35 : decode cX7_goDay 35 = .ok (.aload_n 0, 1) := by decide +kernel
theorem dX7_goDay_36 : decode cX7_goDay 36 = .ok (.aload_n 0, 1) := by decide +kernel
theorem dX7_goDay_37 : decode cX7_goDay 37 = .ok (.getfield 20, 3) := by decide +kernel
theorem dX7_goDay_40 : decode cX7_goDay 40 = .ok (.bipush 20, 2) := by decide +kernel
theorem dX7_goDay_42 : decode cX7_goDay 42 = .ok (.iload_n 1, 1) := by decide +kernel
theorem dX7_goDay_43 : decode cX7_goDay 43 = .ok (.iadd, 1) := by decide +kernel
theorem dX7_goDay_44 : decode cX7_goDay 44 = .ok (.iaload, 1) := by decide +kernel
theorem dX7_goDay_45 : decode cX7_goDay 45 = .ok (.iload_n 1, 1) := by decide +kernel
theorem dX7_goDay_46 : decode cX7_goDay 46 = .ok (.invokevirtual 85, 3) := by decide +kernel
theorem dX7_goDay_49 : decode cX7_goDay 49 = .ok (.iastore, 1) := by decide +kernel
theorem dX7_goDay_50 : decode cX7_goDay 50 = .ok (.iinc 1 1, 3) := by decide +kernel
theorem dX7_goDay_53 : decode cX7_goDay 53 = .ok (.goto (-46), 3) := by decide +kernel
theorem dX7_goDay_56 : decode cX7_goDay 56 = .ok (.iconst 0, 1) := by decide +kernel
theorem dX7_goDay_57 : decode cX7_goDay 57 = .ok (.istore_n 1, 1) := by decide +kernel
theorem dX7_goDay_58 : decode cX7_goDay 58 = .ok (.iload_n 1, 1) := by decide +kernel
theorem dX7_goDay_59 : decode cX7_goDay 59 = .ok (.iconst 4, 1) := by decide +kernel
theorem dX7_goDay_60 : decode cX7_goDay 60 = .ok (.if_icmp .ge 43, 3) := by decide +kernel
theorem dX7_goDay_63 : decode cX7_goDay 63 = .ok (.aload_n 0, 1) := by decide +kernel
theorem dX7_goDay_64 : decode cX7_goDay 64 = .ok (.getfield 20, 3) := by decide +kernel
theorem dX7_goDay_67 : decode cX7_goDay 67 = .ok (.bipush 20, 2) := by decide +kernel
theorem dX7_goDay_69 : decode cX7_goDay 69 = .ok (.iload_n 1, 1) := by decide +kernel
theorem dX7_goDay_70 : decode cX7_goDay 70 = .ok (.iadd, 1) := by decide +kernel
theorem dX7_goDay_71 : decode cX7_goDay 71 = .ok (.iaload, 1) := by decide +kernel
theorem dX7_goDay_72 : decode cX7_goDay 72 = .ok (.bipush (-4), 2) := by decide +kernel
theorem dX7_goDay_74 : decode cX7_goDay 74 = .ok (.if_icmp .eq 23, 3) := by decide +kernel
theorem dX7_goDay_77 : decode cX7_goDay 77 = .ok (.aload_n 0, 1) := by decide +kernel
theorem dX7_goDay_78 : decode cX7_goDay 78 = .ok (.aload_n 0, 1) := by decide +kernel
theorem dX7_goDay_79 : decode cX7_goDay 79 = .ok (.getfield 20, 3) := by decide +kernel
theorem dX7_goDay_82 : decode cX7_goDay 82 = .ok (.bipush 20, 2) := by decide +kernel
theorem dX7_goDay_84 : decode cX7_goDay 84 = .ok (.iload_n 1, 1) := by decide +kernel
theorem dX7_goDay_85 : decode cX7_goDay 85 = .ok (.iadd, 1) := by decide +kernel
theorem dX7_goDay_86 : decode cX7_goDay 86 = .ok (.iaload, 1) := by decide +kernel
theorem dX7_goDay_87 : decode cX7_goDay 87 = .ok (.iload_n 1, 1) := by decide +kernel
theorem dX7_goDay_88 : decode cX7_goDay 88 = .ok (.aload_n 0, 1) := by decide +kernel
theorem dX7_goDay_89 : decode cX7_goDay 89 = .ok (.getfield 51, 3) := by decide +kernel
theorem dX7_goDay_92 : decode cX7_goDay 92 = .ok (.iload_n 1, 1) := by decide +kernel
theorem dX7_goDay_93 : decode cX7_goDay 93 = .ok (.iaload, 1) := by decide +kernel
theorem dX7_goDay_94 : decode cX7_goDay 94 = .ok (.invokevirtual 89, 3) := by decide +kernel
theorem dX7_goDay_97 : decode cX7_goDay 97 = .ok (.iinc 1 1, 3) := by decide +kernel
theorem dX7_goDay_100 : decode cX7_goDay 100 = .ok (.goto (-42), 3) := by decide +kernel
theorem dX7_goDay_103 : decode cX7_goDay 103 = .ok (.iconst 0, 1) := by decide +kernel
theorem dX7_goDay_104 : decode cX7_goDay 104 = .ok (.istore_n 1, 1) := by decide +kernel
theorem dX7_goDay_105 : decode cX7_goDay 105 = .ok (.iload_n 1, 1) := by decide +kernel
theorem dX7_goDay_106 : decode cX7_goDay 106 = .ok (.iconst 4, 1) := by decide +kernel
theorem dX7_goDay_107 : decode cX7_goDay 107 = .ok (.if_icmp .ge 14, 3) := by decide +kernel
theorem dX7_goDay_110 : decode cX7_goDay 110 = .ok (.aload_n 0, 1) := by decide +kernel
theorem dX7_goDay_111 : decode cX7_goDay 111 = .ok (.iload_n 1, 1) := by decide +kernel
theorem dX7_goDay_112 : decode cX7_goDay 112 = .ok (.invokevirtual 93, 3) := by decide +kernel
theorem dX7_goDay_115 : decode cX7_goDay 115 = .ok (.iinc 1 1, 3) := by decide +kernel
theorem dX7_goDay_118 : decode cX7_goDay 118 = .ok (.goto (-13), 3) := by decide +kernel
theorem dX7_goDay_121 : decode cX7_goDay 121 = .ok (.aload_n 0, 1) := by decide +kernel
theorem dX7_goDay_122 : decode cX7_goDay 122 = .ok (.getfield 20, 3) := by decide +kernel
theorem dX7_goDay_125 : decode cX7_goDay 125 = .ok (.bipush 24, 2) := by decide +kernel
theorem dX7_goDay_127 : decode cX7_goDay 127 = .ok (.dup2, 1) := by decide +kernel
theorem dX7_goDay_128 : decode cX7_goDay 128 = .ok (.iaload, 1) := by decide +kernel
theorem dX7_goDay_129 : decode cX7_goDay 129 = .ok (.iconst 1, 1) := by decide +kernel
theorem dX7_goDay_130 : decode cX7_goDay 130 = .ok (.iadd, 1) := by decide +kernel
theorem dX7_goDay_131 : decode cX7_goDay 131 = .ok (.iastore, 1) := by decide +kernel
theorem dX7_goDay_132 : decode cX7_goDay 132 = .ok (.return_, 1) := by decide +kernel
theorem dX7_talkTo_0 : decode cX7_talkTo 0 = .ok (.aload_n 0, 1) := by decide +kernel
theorem dX7_talkTo_1 : decode cX7_talkTo 1 = .ok (.getfield 20, 3) := by decide +kernel
theorem dX7_talkTo_4 : decode cX7_talkTo 4 = .ok (.iconst 4, 1) := by decide +kernel
theorem dX7_talkTo_5 : decode cX7_talkTo 5 = .ok (.iload_n 1, 1) := by decide +kernel
theorem dX7_talkTo_6 : decode cX7_talkTo 6 = .ok (.imul, 1) := by decide +kernel
theorem dX7_talkTo_7 : decode cX7_talkTo 7 = .ok (.iload_n 2, 1) := by decide +kernel
theorem dX7_talkTo_8 : decode cX7_talkTo 8 = .ok (.iadd, 1) := by decide +kernel
theorem dX7_talkTo_9 : decode cX7_talkTo 9 = .ok (.iaload, 1) := by decide +kernel
theorem dX7_talkTo_10 : decode cX7_talkTo 10 = .ok (.iload_n 3, 1) := by decide +kernel
theorem dX7_talkTo_11 : decode cX7_talkTo 11 = .ok (.iadd, 1) := by decide +kernel
theorem dX7_talkTo_12 : decode cX7_talkTo 12 = .ok (.istore 4, 2) := by decide +kernel
theorem dX7_talkTo_14 : decode cX7_talkTo 14 = .ok (.aload_n 0, 1) := by decide +kernel
theorem dX7_talkTo_15 : decode cX7_talkTo 15 = .ok (.getfield 20, 3) := by decide +kernel
theorem dX7_talkTo_18 : decode cX7_talkTo 18 = .ok (.iconst 4, 1) := by decide +kernel
theorem dX7_talkTo_19 : decode cX7_talkTo 19 = .ok (.iload_n 1, 1) := by decide +kernel
theorem dX7_talkTo_20 : decode cX7_talkTo 20 = .ok (.imul, 1) := by decide +kernel
theorem dX7_talkTo_21 : decode cX7_talkTo 21 = .ok (.iload_n 2, 1) := by decide +kernel
theorem dX7_talkTo_22 : decode cX7_talkTo 22 = .ok (.iadd, 1) := by decide +kernel
theorem dX7_talkTo_23 : decode cX7_talkTo 23 = .ok (.iload 4, 2) := by decide +kernel
theorem dX7_talkTo_25 : decode cX7_talkTo 25 = .ok (.bipush 20, 2) := by decide +kernel
theorem dX7_talkTo_27 : decode cX7_talkTo 27 = .ok (.if_icmp .le 8, 3) := by decide +kernel
theorem dX7_talkTo_30 : decode cX7_talkTo 30 = .ok (.bipush 20, 2) := by decide +kernel
theorem dX7_talkTo_32 : decode cX7_talkTo 32 = .ok (.goto 5, 3) := by decide +kernel
theorem dX7_talkTo_35 : decode cX7_talkTo 35 = .ok (.iload 4, 2) := by decide +kernel
theorem dX7_talkTo_37 : decode cX7_talkTo 37 = .ok (.iastore, 1) := by decide +kernel
theorem dX7_talkTo_38 : decode cX7_talkTo 38 = .ok (.return_, 1) := by decide +kernel
theorem dX7_goDays_0 : decode cX7_goDays 0 = .ok (.iconst 0, 1) := by decide +kernel
theorem dX7_goDays_1 : decode cX7_goDays 1 = .ok (.istore_n 2, 1) := by decide +kernel
theorem dX7_goDays_2 : decode cX7_goDays 2 = .ok (.iload_n 2, 1) := by decide +kernel
theorem dX7_goDays_3 : decode cX7_goDays 3 = .ok (.iload_n 1, 1) := by decide +kernel
theorem dX7_goDays_4 : decode cX7_goDays 4 = .ok (.if_icmp .ge 13, 3) := by decide +kernel
theorem dX7_goDays_7 : decode cX7_goDays 7 = .ok (.aload_n 0, 1) := by decide +kernel
theorem dX7_goDays_8 : decode cX7_goDays 8 = .ok (.invokevirtual 97, 3) := by decide +kernel
theorem dX7_goDays_11 : decode cX7_goDays 11 = .ok (.iinc 2 1, 3) := by decide +kernel
theorem dX7_goDays_14 : decode cX7_goDays 14 = .ok (.goto (-12), 3) := by decide +kernel
theorem dX7_goDays_17 : decode cX7_goDays 17 = .ok (.return_, 1) := by decide +kernel
theorem dX7_person_0 : decode cX7_person 0 = .ok (.iload_n 1, 1) := by decide +kernel
theorem dX7_person_1 : decode cX7_person 1 = .ok (.i2l, 1) := by decide +kernel
theorem dX7_person_2 : decode cX7_person 2 = .ok (.lconst 0, 1) := by decide +kernel
theorem dX7_person_3 : decode cX7_person 3 = .ok (.ldc2_w 100, 3) := by decide +kernel
theorem dX7_person_6 : decode cX7_person 6 = .ok (.invokestatic 63, 3) := by decide +kernel
theorem dX7_person_9 : decode cX7_person 9 = .ok (.ifCond .eq 15, 3) := by decide +kernel
theorem dX7_person_12 : decode cX7_person 12 = .ok (.iload_n 2, 1) := by decide +kernel
theorem dX7_person_13 : decode cX7_person 13 = .ok (.i2l, 1) := by decide +kernel
theorem dX7_person_14 : decode cX7_person 14 = .ok (.lconst 0, 1) := by decide +kernel
theorem dX7_person_15 : decode cX7_person 15 = .ok (.ldc2_w 102, 3) := by decide +kernel
theorem dX7_person_18 : decode cX7_person 18 = .ok (.invokestatic 63, 3) := by decide +kernel
theorem dX7_person_21 : decode cX7_person 21 = .ok (.ifCond .ne 5, 3) := by decide +kernel
theorem dX7_person_24 : decode cX7_person 24 = .ok (.iconst (-1), 1) := by decide +kernel
theorem dX7_person_25 : decode cX7_person 25 = .ok (.ireturn, 1) := by decide +kernel
theorem dX7_person_26 : decode cX7_person 26 = .ok (.aload_n 0, 1) := by decide +kernel
theorem dX7_person_27 : decode cX7_person 27 = .ok (.getfield 60, 3) := by decide +kernel
theorem dX7_person_30 : decode cX7_person 30 = .ok (.iconst 5, 1) := by decide +kernel
theorem dX7_person_31 : decode cX7_person 31 = .ok (.if_icmp .ne 6, 3) := by decide +kernel
theorem dX7_person_34 : decode cX7_person 34 = .ok (.bipush (-3), 2) := by decide +kernel
theorem dX7_person_36 : decode cX7_person 36 = .ok (.ireturn, 1) := by decide +kernel
theorem dX7_person_37 : decode cX7_person 37 = .ok (.aload_n 0, 1) := by decide +kernel
theorem dX7_person_38 : decode cX7_person 38 = .ok (.getfield 13, 3) := by decide +kernel
theorem dX7_person_41 : decode cX7_person 41 = .ok (.aload_n 0, 1) := by decide +kernel
theorem dX7_person_42 : decode cX7_person 42 = .ok (.getfield 60, 3) := by decide +kernel
theorem dX7_person_45 : decode cX7_person 45 = .ok (.iload_n 1, 1) := by decide +kernel
theorem dX7_person_46 : decode cX7_person 46 = .ok (.iastore, 1) := by decide +kernel
theorem dX7_person_47 : decode cX7_person 47 = .ok (.iconst 0, 1) := by decide +kernel
theorem dX7_person_48 : decode cX7_person 48 = .ok (.istore_n 3, 1) := by decide +kernel
theorem dX7_person_49 : decode cX7_person 49 = .ok (.iload_n 3, 1) := by decide +kernel
theorem dX7_person_50 : decode cX7_person 50 = .ok (.iconst 4, 1) := by decide +kernel
theorem dX7_person_51 : decode cX7_person 51 = .ok (.if_icmp .ge 23, 3) := by decide +kernel
theorem dX7_person_54 : decode cX7_person 54 = .ok (.aload_n 0, 1) := by decide +kernel
theorem dX7_person_55 : decode cX7_person 55 = .ok (.getfield 17, 3) := by decide +kernel
theorem dX7_person_58 : decode cX7_person 58 = .ok (.iconst 4, 1) := by decide +kernel
theorem dX7_person_59 : decode cX7_person 59 = .ok (.aload_n 0, 1) := by decide +kernel
theorem dX7_person_60 : decode cX7_person 60 = .ok (.getfield 60, 3) := by decide +kernel
theorem dX7_person_63 : decode cX7_person 63 = .ok (.imul, 1) := by decide +kernel
theorem dX7_person_64 : decode cX7_person 64 = .ok (.iload_n 3, 1) := by decide +kernel
theorem dX7_person_65 : decode cX7_person 65 = .ok (.iadd, 1) := by decide +kernel
theorem dX7_person_66 : decode cX7_person 66 = .ok (.iload_n 2, 1) := by decide +kernel
theorem dX7_person_67 : decode cX7_person 67 = .ok (.iastore, 1) := by decide +kernel
theorem dX7_person_68 : decode cX7_person 68 = .ok (.iinc 3 1, 3) := by decide +kernel
theorem dX7_person_71 : decode cX7_person 71 = .ok (.goto (-22), 3) := by decide +kernel
theorem dX7_person_74 : decode cX7_person 74 = .ok (.aload_n 0, 1) := by decide +kernel
theorem dX7_person_75 : decode cX7_person 75 = .ok (.dup, 1) := by decide +kernel
theorem dX7_person_76 : decode cX7_person 76 = .ok (.getfield 60, 3) := by decide +kernel
theorem dX7_person_79 : decode cX7_person 79 = .ok (.iconst 1, 1) := by decide +kernel
theorem dX7_person_80 : decode cX7_person 80 = .ok (.iadd, 1) := by decide +kernel
theorem dX7_person_81 : decode cX7_person 81 = .ok (.putfield 60, 3) := by decide +kernel
theorem dX7_person_84 : decode cX7_person 84 = .ok (.aload_n 0, 1) := by decide +kernel
theorem dX7_person_85 : decode cX7_person 85 = .ok (.iconst 0, 1) := by decide +kernel
theorem dX7_person_86 : decode cX7_person 86 = .ok (.putfield 104, 3) := by decide +kernel
theorem dX7_person_89 : decode cX7_person 89 = .ok (.aload_n 0, 1) := by decide +kernel
theorem dX7_person_90 : decode cX7_person 90 = .ok (.getfield 60, 3) := by decide +kernel
theorem dX7_person_93 : decode cX7_person 93 = .ok (.iconst 1, 1) := by decide +kernel
theorem dX7_person_94 : decode cX7_person 94 = .ok (.isub, 1) := by decide +kernel
theorem dX7_person_95 : decode cX7_person 95 = .ok (.ireturn, 1) := by decide +kernel
theorem dX7_rule_0 : decode cX7_rule 0 = .ok (.iload_n 1, 1) := by decide +kernel
theorem dX7_rule_1 : decode cX7_rule 1 = .ok (.i2l, 1) := by decide +kernel
theorem dX7_rule_2 : decode cX7_rule 2 = .ok (.lconst 1, 1) := by decide +kernel
theorem dX7_rule_3 : decode cX7_rule 3 = .ok (.ldc2_w 102, 3) := by decide +kernel
theorem dX7_rule_6 : decode cX7_rule 6 = .ok (.invokestatic 63, 3) := by decide +kernel
theorem dX7_rule_9 : decode cX7_rule 9 = .ok (.ifCond .ne 5, 3) := by decide +kernel
theorem dX7_rule_12 : decode cX7_rule 12 = .ok (.iconst (-1), 1) := by decide +kernel
theorem dX7_rule_13 : decode cX7_rule 13 = .ok (.ireturn, 1) := by decide +kernel
theorem dX7_rule_14 : decode cX7_rule 14 = .ok (.aload_n 0, 1) := by decide +kernel
theorem dX7_rule_15 : decode cX7_rule 15 = .ok (.getfield 7, 3) := by decide +kernel
theorem dX7_rule_18 : decode cX7_rule 18 = .ok (.istore_n 2, 1) := by decide +kernel
theorem dX7_rule_19 : decode cX7_rule 19 = .ok (.aload_n 0, 1) := by decide +kernel
theorem dX7_rule_20 : decode cX7_rule 20 = .ok (.iload_n 1, 1) := by decide +kernel
theorem dX7_rule_21 : decode cX7_rule 21 = .ok (.putfield 7, 3) := by decide +kernel
theorem dX7_rule_24 : decode cX7_rule 24 = .ok (.iload_n 2, 1) := by decide +kernel
theorem dX7_rule_25 : decode cX7_rule 25 = .ok (.ireturn, 1) := by decide +kernel
theorem dX7_wants_0 : decode cX7_wants 0 = .ok (.aload_n 0, 1) := by decide +kernel
theorem dX7_wants_1 : decode cX7_wants 1 = .ok (.iload_n 1, 1) := by decide +kernel
theorem dX7_wants_2 : decode cX7_wants 2 = .ok (.invokevirtual 107, 3) := by decide +kernel
theorem dX7_wants_5 : decode cX7_wants 5 = .ok (.ifCond .eq 23, 3) := by decide +kernel
theorem dX7_wants_8 : decode cX7_wants 8 = .ok (.iload_n 2, 1) := by decide +kernel
theorem dX7_wants_9 : decode cX7_wants 9 = .ok (.invokestatic 111, 3) := by decide +kernel
theorem dX7_wants_12 : decode cX7_wants 12 = .ok (.ifCond .eq 16, 3) := by decide +kernel
theorem dX7_wants_15 : decode cX7_wants 15 = .ok (.aload_n 0, 1) := by decide +kernel
theorem dX7_wants_16 : decode cX7_wants 16 = .ok (.getfield 17, 3) := by decide +kernel
theorem dX7_wants_19 : decode cX7_wants 19 = .ok (.iconst 4, 1) := by decide +kernel
theorem dX7_wants_20 : decode cX7_wants 20 = .ok (.iload_n 1, 1) := by decide +kernel
theorem dX7_wants_21 : decode cX7_wants 21 = .ok (.imul, 1) := by decide +kernel
theorem dX7_wants_22 : decode cX7_wants 22 = .ok (.iload_n 2, 1) := by decide +kernel
theorem dX7_wants_23 : decode cX7_wants 23 = .ok (.iadd, 1) := by decide +kernel
theorem dX7_wants_24 : decode cX7_wants 24 = .ok (.iaload, 1) := by decide +kernel
theorem dX7_wants_25 : decode cX7_wants 25 = .ok (.goto 4, 3) := by decide +kernel
theorem dX7_wants_28 : decode cX7_wants 28 = .ok (.iconst (-1), 1) := by decide +kernel
theorem dX7_wants_29 : decode cX7_wants 29 = .ok (.ireturn, 1) := by decide +kernel
theorem dX7_sumOf_0 : decode cX7_sumOf 0 = .ok (.aload_n 0, 1) := by decide +kernel
theorem dX7_sumOf_1 : decode cX7_sumOf 1 = .ok (.getfield 17, 3) := by decide +kernel
theorem dX7_sumOf_4 : decode cX7_sumOf 4 = .ok (.iconst 4, 1) := by decide +kernel
theorem dX7_sumOf_5 : decode cX7_sumOf 5 = .ok (.iload_n 1, 1) := by decide +kernel
theorem dX7_sumOf_6 : decode cX7_sumOf 6 = .ok (.imul, 1) := by decide +kernel
theorem dX7_sumOf_7 : decode cX7_sumOf 7 = .ok (.iaload, 1) := by decide +kernel
theorem dX7_sumOf_8 : decode cX7_sumOf 8 = .ok (.aload_n 0, 1) := by decide +kernel
theorem dX7_sumOf_9 : decode cX7_sumOf 9 = .ok (.getfield 17, 3) := by decide +kernel
theorem dX7_sumOf_12 : decode cX7_sumOf 12 = .ok (.iconst 4, 1) := by decide +kernel
theorem dX7_sumOf_13 : decode cX7_sumOf 13 = .ok (.iload_n 1, 1) := by decide +kernel
theorem dX7_sumOf_14 : decode cX7_sumOf 14 = .ok (.imul, 1) := by decide +kernel
theorem dX7_sumOf_15 : decode cX7_sumOf 15 = .ok (.iconst 1, 1) := by decide +kernel
theorem dX7_sumOf_16 : decode cX7_sumOf 16 = .ok (.iadd, 1) := by decide +kernel
theorem dX7_sumOf_17 : decode cX7_sumOf 17 = .ok (.iaload, 1) := by decide +kernel
theorem dX7_sumOf_18 : decode cX7_sumOf 18 = .ok (.iadd, 1) := by decide +kernel
theorem dX7_sumOf_19 : decode cX7_sumOf 19 = .ok (.aload_n 0, 1) := by decide +kernel
theorem dX7_sumOf_20 : decode cX7_sumOf 20 = .ok (.getfield 17, 3) := by decide +kernel
theorem dX7_sumOf_23 : decode cX7_sumOf 23 = .ok (.iconst 4, 1) := by decide +kernel
theorem dX7_sumOf_24 : decode cX7_sumOf 24 = .ok (.iload_n 1, 1) := by decide +kernel
theorem dX7_sumOf_25 : decode cX7_sumOf 25 = .ok (.imul, 1) := by decide +kernel
theorem dX7_sumOf_26 : decode cX7_sumOf 26 = .ok (.iconst 2, 1) := by decide +kernel
theorem dX7_sumOf_27 : decode cX7_sumOf 27 = .ok (.iadd, 1) := by decide +kernel
theorem dX7_sumOf_28 : decode cX7_sumOf 28 = .ok (.iaload, 1) := by decide +kernel
theorem dX7_sumOf_29 : decode cX7_sumOf 29 = .ok (.iadd, 1) := by decide +kernel
theorem dX7_sumOf_30 : decode cX7_sumOf 30 = .ok (.aload_n 0, 1) := by decide +kernel
theorem dX7_sumOf_31 : decode cX7_sumOf 31 = .ok (.getfield 17, 3) := by decide +kernel
theorem dX7_sumOf_34 : decode cX7_sumOf 34 = .ok (.iconst 4, 1) := by decide +kernel
theorem dX7_sumOf_35 : decode cX7_sumOf 35 = .ok (.iload_n 1, 1) := by decide +kernel
theorem dX7_sumOf_36 : decode cX7_sumOf 36 = .ok (.imul, 1) := by decide +kernel
theorem dX7_sumOf_37 : decode cX7_sumOf 37 = .ok (.iconst 3, 1) := by decide +kernel
theorem dX7_sumOf_38 : decode cX7_sumOf 38 = .ok (.iadd, 1) := by decide +kernel
theorem dX7_sumOf_39 : decode cX7_sumOf 39 = .ok (.iaload, 1) := by decide +kernel
theorem dX7_sumOf_40 : decode cX7_sumOf 40 = .ok (.iadd, 1) := by decide +kernel
theorem dX7_sumOf_41 : decode cX7_sumOf 41 = .ok (.ireturn, 1) := by decide +kernel
theorem dX7_keySet_0 : decode cX7_keySet 0 = .ok (.iconst 0, 1) := by decide +kernel
theorem dX7_keySet_1 : decode cX7_keySet 1 = .ok (.istore_n 2, 1) := by decide +kernel
theorem dX7_keySet_2 : decode cX7_keySet 2 = .ok (.iconst 0, 1) := by decide +kernel
theorem dX7_keySet_3 : decode cX7_keySet 3 = .ok (.istore_n 3, 1) := by decide +kernel
theorem dX7_keySet_4 : decode cX7_keySet 4 = .ok (.iload_n 3, 1) := by decide +kernel
theorem dX7_keySet_5 : decode cX7_keySet 5 = .ok (.iconst 4, 1) := by decide +kernel
theorem dX7_keySet_6 : decode cX7_keySet 6 = .ok (.if_icmp .ge 32, 3) := by decide +kernel
theorem dX7_keySet_9 : decode cX7_keySet 9 = .ok (.iload_n 2, 1) := by decide +kernel
theorem dX7_keySet_10 : decode cX7_keySet 10 = .ok (.aload_n 0, 1) := by decide +kernel
theorem dX7_keySet_11 : decode cX7_keySet 11 = .ok (.getfield 17, 3) := by decide +kernel
theorem dX7_keySet_14 : decode cX7_keySet 14 = .ok (.bipush 20, 2) := by decide +kernel
theorem dX7_keySet_16 : decode cX7_keySet 16 = .ok (.iload_n 3, 1) := by decide +kernel
theorem dX7_keySet_17 : decode cX7_keySet 17 = .ok (.iadd, 1) := by decide +kernel
theorem dX7_keySet_18 : decode cX7_keySet 18 = .ok (.iaload, 1) := by decide +kernel
theorem dX7_keySet_19 : decode cX7_keySet 19 = .ok (.iload_n 1, 1) := by decide +kernel
theorem dX7_keySet_20 : decode cX7_keySet 20 = .ok (.if_icmp .ne 9, 3) := by decide +kernel
theorem dX7_keySet_23 : decode cX7_keySet 23 = .ok (.iconst 1, 1) := by decide +kernel
theorem dX7_keySet_24 : decode cX7_keySet 24 = .ok (.iload_n 3, 1) := by decide +kernel
theorem dX7_keySet_25 : decode cX7_keySet 25 = .ok (.ishl, 1) := by decide +kernel
theorem dX7_keySet_26 : decode cX7_keySet 26 = .ok (.goto 4, 3) := by decide +kernel
theorem dX7_keySet_29 : decode cX7_keySet 29 = .ok (.iconst 0, 1) := by decide +kernel
theorem dX7_keySet_30 : decode cX7_keySet 30 = .ok (.ior, 1) := by decide +kernel
theorem dX7_keySet_31 : decode cX7_keySet 31 = .ok (.istore_n 2, 1) := by decide +kernel
theorem dX7_keySet_32 : decode cX7_keySet 32 = .ok (.iinc 3 1, 3) := by decide +kernel
theorem dX7_keySet_35 : decode cX7_keySet 35 = .ok (.goto (-31), 3) := by decide +kernel
theorem dX7_keySet_38 : decode cX7_keySet 38 = .ok (.iload_n 2, 1) := by decide +kernel
theorem dX7_keySet_39 : decode cX7_keySet 39 = .ok (.ireturn, 1) := by decide +kernel
theorem dX7_of_0 : decode cX7_of 0 = .ok (.aload_n 0, 1) := by decide +kernel
theorem dX7_of_1 : decode cX7_of 1 = .ok (.iload_n 1, 1) := by decide +kernel
theorem dX7_of_2 : decode cX7_of 2 = .ok (.invokevirtual 107, 3) := by decide +kernel
theorem dX7_of_5 : decode cX7_of 5 = .ok (.ifCond .eq 15, 3) := by decide +kernel
theorem dX7_of_8 : decode cX7_of 8 = .ok (.iload_n 2, 1) := by decide +kernel
theorem dX7_of_9 : decode cX7_of 9 = .ok (.i2l, 1) := by decide +kernel
theorem dX7_of_10 : decode cX7_of 10 = .ok (.lconst 0, 1) := by decide +kernel
theorem dX7_of_11 : decode cX7_of 11 = .ok (.ldc2_w 114, 3) := by decide +kernel
theorem dX7_of_14 : decode cX7_of 14 = .ok (.invokestatic 63, 3) := by decide +kernel
theorem dX7_of_17 : decode cX7_of 17 = .ok (.ifCond .ne 5, 3) := by decide +kernel
theorem dX7_of_20 : decode cX7_of 20 = .ok (.iconst (-1), 1) := by decide +kernel
theorem dX7_of_21 : decode cX7_of 21 = .ok (.ireturn, 1) := by decide +kernel
theorem dX7_of_22 : decode cX7_of 22 = .ok (.iload_n 2, 1) := by decide +kernel
theorem dX7_of_23 : decode cX7_of 23 = .ok (.ifCond .ne 12, 3) := by decide +kernel
theorem dX7_of_26 : decode cX7_of 26 = .ok (.aload_n 0, 1) := by decide +kernel
theorem dX7_of_27 : decode cX7_of 27 = .ok (.getfield 13, 3) := by decide +kernel
theorem dX7_of_30 : decode cX7_of 30 = .ok (.iload_n 1, 1) := by decide +kernel
theorem dX7_of_31 : decode cX7_of 31 = .ok (.iaload, 1) := by decide +kernel
theorem dX7_of_32 : decode cX7_of 32 = .ok (.goto 21, 3) := by decide +kernel
theorem dX7_of_35 : decode cX7_of 35 = .ok (.iload_n 2, 1) := by decide +kernel
theorem dX7_of_36 : decode cX7_of 36 = .ok (.iconst 1, 1) := by decide +kernel
theorem dX7_of_37 : decode cX7_of 37 = .ok (.if_icmp .ne 11, 3) := by decide +kernel
theorem dX7_of_40 : decode cX7_of 40 = .ok (.aload_n 0, 1) := by decide +kernel
theorem dX7_of_41 : decode cX7_of 41 = .ok (.iload_n 1, 1) := by decide +kernel
theorem dX7_of_42 : decode cX7_of 42 = .ok (.invokevirtual 116, 3) := by decide +kernel
theorem dX7_of_45 : decode cX7_of 45 = .ok (.goto 8, 3) := by decide +kernel
theorem dX7_of_48 : decode cX7_of 48 = .ok (.aload_n 0, 1) := by decide +kernel
theorem dX7_of_49 : decode cX7_of 49 = .ok (.iload_n 1, 1) := by decide +kernel
theorem dX7_of_50 : decode cX7_of 50 = .ok (.invokevirtual 119, 3) := by decide +kernel
theorem dX7_of_53 : decode cX7_of 53 = .ok (.ireturn, 1) := by decide +kernel
theorem dX7_at_0 : decode cX7_at 0 = .ok (.iload_n 1, 1) := by decide +kernel
theorem dX7_at_1 : decode cX7_at 1 = .ok (.invokestatic 111, 3) := by decide +kernel
theorem dX7_at_4 : decode cX7_at 4 = .ok (.ifCond .eq 15, 3) := by decide +kernel
theorem dX7_at_7 : decode cX7_at 7 = .ok (.iload_n 2, 1) := by decide +kernel
theorem dX7_at_8 : decode cX7_at 8 = .ok (.i2l, 1) := by decide +kernel
theorem dX7_at_9 : decode cX7_at 9 = .ok (.lconst 0, 1) := by decide +kernel
theorem dX7_at_10 : decode cX7_at 10 = .ok (.ldc2_w 114, 3) := by decide +kernel
theorem dX7_at_13 : decode cX7_at 13 = .ok (.invokestatic 63, 3) := by decide +kernel
theorem dX7_at_16 : decode cX7_at 16 = .ok (.ifCond .ne 5, 3) := by decide +kernel
theorem dX7_at_19 : decode cX7_at 19 = .ok (.iconst (-1), 1) := by decide +kernel
theorem dX7_at_20 : decode cX7_at 20 = .ok (.ireturn, 1) := by decide +kernel
theorem dX7_at_21 : decode cX7_at 21 = .ok (.aload_n 0, 1) := by decide +kernel
theorem dX7_at_22 : decode cX7_at 22 = .ok (.invokevirtual 122, 3) := by decide +kernel
theorem dX7_at_25 : decode cX7_at 25 = .ok (.aload_n 0, 1) := by decide +kernel
theorem dX7_at_26 : decode cX7_at 26 = .ok (.getfield 17, 3) := by decide +kernel
theorem dX7_at_29 : decode cX7_at 29 = .ok (.bipush 20, 2) := by decide +kernel
theorem dX7_at_31 : decode cX7_at 31 = .ok (.iload_n 1, 1) := by decide +kernel
theorem dX7_at_32 : decode cX7_at 32 = .ok (.iadd, 1) := by decide +kernel
theorem dX7_at_33 : decode cX7_at 33 = .ok (.iaload, 1) := by decide +kernel
theorem dX7_at_34 : decode cX7_at 34 = .ok (.istore_n 3, 1) := by decide +kernel
theorem dX7_at_35 : decode cX7_at 35 = .ok (.iload_n 2, 1) := by decide +kernel
theorem dX7_at_36 : decode cX7_at 36 = .ok (.ifCond .ne 7, 3) := by decide +kernel
theorem dX7_at_39 : decode cX7_at 39 = .ok (.iload_n 3, 1) := by decide +kernel
theorem dX7_at_40 : decode cX7_at 40 = .ok (.goto 32, 3) := by decide +kernel
theorem dX7_at_43 : decode cX7_at 43 = .ok (.iload_n 2, 1) := by decide +kernel
theorem dX7_at_44 : decode cX7_at 44 = .ok (.iconst 1, 1) := by decide +kernel
theorem dX7_at_45 : decode cX7_at 45 = .ok (.if_icmp .ne 22, 3) := by decide +kernel
theorem dX7_at_48 : decode cX7_at 48 = .ok (.iload_n 3, 1) := by decide +kernel
theorem dX7_at_49 : decode cX7_at 49 = .ok (.bipush (-4), 2) := by decide +kernel
theorem dX7_at_51 : decode cX7_at 51 = .ok (.if_icmp .ne 7, 3) := by decide +kernel
theorem dX7_at_54 : decode cX7_at 54 = .ok (.iconst 0, 1) := by decide +kernel
theorem dX7_at_55 : decode cX7_at 55 = .ok (.goto 17, 3) := by decide +kernel
theorem dX7_at_58 : decode cX7_at 58 = .ok (.aload_n 0, 1) := by decide +kernel
theorem dX7_at_59 : decode cX7_at 59 = .ok (.iload_n 3, 1) := by decide +kernel
theorem dX7_at_60 : decode cX7_at 60 = .ok (.iload_n 1, 1) := by decide +kernel
theorem dX7_at_61 : decode cX7_at 61 = .ok (.invokevirtual 85, 3) := by decide +kernel
theorem dX7_at_64 : decode cX7_at 64 = .ok (.goto 8, 3) := by decide +kernel
theorem dX7_at_67 : decode cX7_at 67 = .ok (.aload_n 0, 1) := by decide +kernel
theorem dX7_at_68 : decode cX7_at 68 = .ok (.iload_n 1, 1) := by decide +kernel
theorem dX7_at_69 : decode cX7_at 69 = .ok (.invokevirtual 82, 3) := by decide +kernel
theorem dX7_at_72 : decode cX7_at 72 = .ok (.ireturn, 1) := by decide +kernel
theorem dX7_type_0 : decode cX7_type 0 = .ok (.iload_n 1, 1) := by decide +kernel
theorem dX7_type_1 : decode cX7_type 1 = .ok (.i2l, 1) := by decide +kernel
theorem dX7_type_2 : decode cX7_type 2 = .ok (.ldc2_w 125, 3) := by decide +kernel
theorem dX7_type_5 : decode cX7_type 5 = .ok (.ldc2_w 127, 3) := by decide +kernel
theorem dX7_type_8 : decode cX7_type 8 = .ok (.invokestatic 63, 3) := by decide +kernel
theorem dX7_type_11 : decode cX7_type 11 = .ok (.ifCond .ne 5, 3) := by decide +kernel
theorem dX7_type_14 : decode cX7_type 14 = .ok (.iconst (-1), 1) := by decide +kernel
theorem dX7_type_15 : decode cX7_type 15 = .ok (.ireturn, 1) := by decide +kernel
theorem dX7_type_16 : decode cX7_type 16 = .ok (.aload_n 0, 1) := by decide +kernel
theorem dX7_type_17 : decode cX7_type 17 = .ok (.getfield 129, 3) := by decide +kernel
theorem dX7_type_20 : decode cX7_type 20 = .ok (.bipush 50, 2) := by decide +kernel
theorem dX7_type_22 : decode cX7_type 22 = .ok (.if_icmp .ne 6, 3) := by decide +kernel
theorem dX7_type_25 : decode cX7_type 25 = .ok (.bipush (-3), 2) := by decide +kernel
theorem dX7_type_27 : decode cX7_type 27 = .ok (.ireturn, 1) := by decide +kernel
theorem dX7_type_28 : decode cX7_type 28 = .ok (.aload_n 0, 1) := by decide +kernel
theorem dX7_type_29 : decode cX7_type 29 = .ok (.getfield 45, 3) := by decide +kernel
theorem dX7_type_32 : decode cX7_type 32 = .ok (.aload_n 0, 1) := by decide +kernel
theorem dX7_type_33 : decode cX7_type 33 = .ok (.getfield 129, 3) := by decide +kernel
theorem dX7_type_36 : decode cX7_type 36 = .ok (.iload_n 1, 1) := by decide +kernel
theorem dX7_type_37 : decode cX7_type 37 = .ok (.iastore, 1) := by decide +kernel
theorem dX7_type_38 : decode cX7_type 38 = .ok (.aload_n 0, 1) := by decide +kernel
theorem dX7_type_39 : decode cX7_type 39 = .ok (.dup, 1) := by decide +kernel
theorem dX7_type_40 : decode cX7_type 40 = .ok (.getfield 129, 3) := by decide +kernel
theorem dX7_type_43 : decode cX7_type 43 = .ok (.iconst 1, 1) := by decide +kernel
theorem dX7_type_44 : decode cX7_type 44 = .ok (.iadd, 1) := by decide +kernel
theorem dX7_type_45 : decode cX7_type 45 = .ok (.putfield 129, 3) := by decide +kernel
theorem dX7_type_48 : decode cX7_type 48 = .ok (.aload_n 0, 1) := by decide +kernel
theorem dX7_type_49 : decode cX7_type 49 = .ok (.getfield 129, 3) := by decide +kernel
theorem dX7_type_52 : decode cX7_type 52 = .ok (.ireturn, 1) := by decide +kernel
theorem dX7_next_0 : decode cX7_next 0 = .ok (.aload_n 0, 1) := by decide +kernel
theorem dX7_next_1 : decode cX7_next 1 = .ok (.getfield 132, 3) := by decide +kernel
theorem dX7_next_4 : decode cX7_next 4 = .ok (.aload_n 0, 1) := by decide +kernel
theorem dX7_next_5 : decode cX7_next 5 = .ok (.getfield 129, 3) := by decide +kernel
theorem dX7_next_8 : decode cX7_next 8 = .ok (.if_icmp .ge 30, 3) := by decide +kernel
theorem dX7_next_11 : decode cX7_next 11 = .ok (.aload_n 0, 1) := by decide +kernel
theorem dX7_next_12 : decode cX7_next 12 = .ok (.getfield 45, 3) := by decide +kernel
theorem dX7_next_15 : decode cX7_next 15 = .ok (.aload_n 0, 1) := by decide +kernel
theorem dX7_next_16 : decode cX7_next 16 = .ok (.getfield 132, 3) := by decide +kernel
theorem dX7_next_19 : decode cX7_next 19 = .ok (.iaload, 1) := by decide +kernel
theorem dX7_next_20 : decode cX7_next 20 = .ok (.bipush 32, 2) := by decide +kernel
theorem dX7_next_22 : decode cX7_next 22 = .ok (.if_icmp .ne 16, 3) := by decide +kernel
theorem dX7_next_25 : decode cX7_next 25 = .ok (.aload_n 0, 1) := by decide +kernel
theorem dX7_next_26 : decode cX7_next 26 = .ok (.dup, 1) := by decide +kernel
theorem dX7_next_27 : decode cX7_next 27 = .ok (.getfield 132, 3) := by decide +kernel
theorem dX7_next_30 : decode cX7_next 30 = .ok (.iconst 1, 1) := by decide +kernel
theorem dX7_next_31 : decode cX7_next 31 = .ok (.iadd, 1) := by decide +kernel
theorem dX7_next_32 : decode cX7_next 32 = .ok (.putfield 132, 3) := by decide +kernel
theorem dX7_next_35 : decode cX7_next 35 = .ok (.goto (-35), 3) := by decide +kernel
theorem dX7_next_38 : decode cX7_next 38 = .ok (.aload_n 0, 1) := by decide +kernel
theorem dX7_next_39 : decode cX7_next 39 = .ok (.aload_n 0, 1) := by decide +kernel
theorem dX7_next_40 : decode cX7_next 40 = .ok (.getfield 132, 3) := by decide +kernel
theorem dX7_next_43 : decode cX7_next 43 = .ok (.putfield 135, 3) := by decide +kernel
theorem dX7_next_46 : decode cX7_next 46 = .ok (.aload_n 0, 1) := by decide +kernel
theorem dX7_next_47 : decode cX7_next 47 = .ok (.dup, 1) := by decide +kernel
theorem dX7_next_48 : decode cX7_next 48 = .ok (.getfield 132, 3) := by decide +kernel
theorem dX7_next_51 : decode cX7_next 51 = .ok (.iconst 1, 1) := by decide +kernel
theorem dX7_next_52 : decode cX7_next 52 = .ok (.iadd, 1) := by decide +kernel
theorem dX7_next_53 : decode cX7_next 53 = .ok (.putfield 132, 3) := by decide +kernel
theorem dX7_next_56 : decode cX7_next 56 = .ok (.aload_n 0, 1) := by decide +kernel
theorem dX7_next_57 : decode cX7_next 57 = .ok (.getfield 135, 3) := by decide +kernel
theorem dX7_next_60 : decode cX7_next 60 = .ok (.aload_n 0, 1) := by decide +kernel
theorem dX7_next_61 : decode cX7_next 61 = .ok (.getfield 129, 3) := by decide +kernel
theorem dX7_next_64 : decode cX7_next 64 = .ok (.if_icmp .ge 15, 3) := by decide +kernel
theorem dX7_next_67 : decode cX7_next 67 = .ok (.aload_n 0, 1) := by decide +kernel
theorem dX7_next_68 : decode cX7_next 68 = .ok (.getfield 45, 3) := by decide +kernel
theorem dX7_next_71 : decode cX7_next 71 = .ok (.aload_n 0, 1) := by decide +kernel
theorem dX7_next_72 : decode cX7_next 72 = .ok (.getfield 135, 3) := by decide +kernel
theorem dX7_next_75 : decode cX7_next 75 = .ok (.iaload, 1) := by decide +kernel
theorem dX7_next_76 : decode cX7_next 76 = .ok (.goto 4, 3) := by decide +kernel
theorem dX7_next_79 : decode cX7_next 79 = .ok (.iconst 0, 1) := by decide +kernel
theorem dX7_next_80 : decode cX7_next 80 = .ok (.ireturn, 1) := by decide +kernel
theorem dX7_isDigit_0 : decode cX7_isDigit 0 = .ok (.iload_n 0, 1) := by decide +kernel
theorem dX7_isDigit_1 : decode cX7_isDigit 1 = .ok (.i2l, 1) := by decide +kernel
theorem dX7_isDigit_2 : decode cX7_isDigit 2 = .ok (.ldc2_w 138, 3) := by decide +kernel
theorem dX7_isDigit_5 : decode cX7_isDigit 5 = .ok (.ldc2_w 140, 3) := by decide +kernel
theorem dX7_isDigit_8 : decode cX7_isDigit 8 = .ok (.invokestatic 63, 3) := by decide +kernel
theorem dX7_isDigit_11 : decode cX7_isDigit 11 = .ok (.ireturn, 1) := by decide +kernel
theorem dX7_number_0 : decode cX7_number 0 = .ok (.aload_n 0, 1) := by decide +kernel
theorem dX7_number_1 : decode cX7_number 1 = .ok (.invokevirtual 142, 3) := by decide +kernel
theorem dX7_number_4 : decode cX7_number 4 = .ok (.istore_n 1, 1) := by decide +kernel
theorem dX7_number_5 : decode cX7_number 5 = .ok (.iload_n 1, 1) := by decide +kernel
theorem dX7_number_6 : decode cX7_number 6 = .ok (.invokestatic 146, 3) := by decide +kernel
theorem dX7_number_9 : decode cX7_number 9 = .ok (.ifCond .ne 5, 3) := by decide +kernel
theorem dX7_number_12 : decode cX7_number 12 = .ok (.iconst 0, 1) := by decide +kernel
theorem dX7_number_13 : decode cX7_number 13 = .ok (.ireturn, 1) := by decide +kernel
theorem dX7_number_14 : decode cX7_number 14 = .ok (.aload_n 0, 1) := by decide +kernel
theorem dX7_number_15 : decode cX7_number 15 = .ok (.iload_n 1, 1) := by decide +kernel
theorem dX7_number_16 : decode cX7_number 16 = .ok (.bipush 48, 2) := by decide +kernel
theorem dX7_number_18 : decode cX7_number 18 = .ok (.isub, 1) := by decide +kernel
theorem dX7_number_19 : decode cX7_number 19 = .ok (.putfield 149, 3) := by decide +kernel
theorem dX7_number_22 : decode cX7_number 22 = .ok (.aload_n 0, 1) := by decide +kernel
theorem dX7_number_23 : decode cX7_number 23 = .ok (.getfield 132, 3) := by decide +kernel
theorem dX7_number_26 : decode cX7_number 26 = .ok (.aload_n 0, 1) := by decide +kernel
theorem dX7_number_27 : decode cX7_number 27 = .ok (.getfield 129, 3) := by decide +kernel
theorem dX7_number_30 : decode cX7_number 30 = .ok (.if_icmp .ge 52, 3) := by decide +kernel
theorem dX7_number_33 : decode cX7_number 33 = .ok (.aload_n 0, 1) := by decide +kernel
theorem dX7_number_34 : decode cX7_number 34 = .ok (.getfield 45, 3) := by decide +kernel
theorem dX7_number_37 : decode cX7_number 37 = .ok (.aload_n 0, 1) := by decide +kernel
theorem dX7_number_38 : decode cX7_number 38 = .ok (.getfield 132, 3) := by decide +kernel
theorem dX7_number_41 : decode cX7_number 41 = .ok (.iaload, 1) := by decide +kernel
theorem dX7_number_42 : decode cX7_number 42 = .ok (.invokestatic 146, 3) := by decide +kernel
theorem dX7_number_45 : decode cX7_number 45 = .ok (.ifCond .eq 37, 3) := by decide +kernel
theorem dX7_number_48 : decode cX7_number 48 = .ok (.aload_n 0, 1) := by decide +kernel
theorem dX7_number_49 : decode cX7_number 49 = .ok (.bipush 10, 2) := by decide +kernel
theorem dX7_number_51 : decode cX7_number 51 = .ok (.aload_n 0, 1) := by decide +kernel
theorem dX7_number_52 : decode cX7_number 52 = .ok (.getfield 149, 3) := by decide +kernel
theorem dX7_number_55 : decode cX7_number 55 = .ok (.imul, 1) := by decide +kernel
theorem dX7_number_56 : decode cX7_number 56 = .ok (.aload_n 0, 1) := by decide +kernel
theorem dX7_number_57 : decode cX7_number 57 = .ok (.getfield 45, 3) := by decide +kernel
theorem dX7_number_60 : decode cX7_number 60 = .ok (.aload_n 0, 1) := by decide +kernel
theorem dX7_number_61 : decode cX7_number 61 = .ok (.getfield 132, 3) := by decide +kernel
theorem dX7_number_64 : decode cX7_number 64 = .ok (.iaload, 1) := by decide +kernel
theorem dX7_number_65 : decode cX7_number 65 = .ok (.iadd, 1) := by decide +kernel
theorem dX7_number_66 : decode cX7_number 66 = .ok (.bipush 48, 2) := by decide +kernel
theorem dX7_number_68 : decode cX7_number 68 = .ok (.isub, 1) := by decide +kernel
theorem dX7_number_69 : decode cX7_number 69 = .ok (.putfield 149, 3) := by decide +kernel
theorem dX7_number_72 : decode cX7_number 72 = .ok (.aload_n 0, 1) := by decide +kernel
theorem dX7_number_73 : decode cX7_number 73 = .ok (.dup, 1) := by decide +kernel
theorem dX7_number_74 : decode cX7_number 74 = .ok (.getfield 132, 3) := by decide +kernel
theorem dX7_number_77 : decode cX7_number 77 = .ok (.iconst 1, 1) := by decide +kernel
theorem dX7_number_78 : decode cX7_number 78 = .ok (.iadd, 1) := by decide +kernel
theorem dX7_number_79 : decode cX7_number 79 = .ok (.putfield 132, 3) := by decide +kernel
theorem dX7_number_82 : decode cX7_number 82 = .ok (.aload_n 0, 1) := by decide +kernel
theorem dX7_number_83 : decode cX7_number 83 = .ok (.getfield 149, 3) := by decide +kernel
theorem dX7_number_86 : decode cX7_number 86 = .ok (.i2l, 1) := by decide +kernel
theorem dX7_number_87 : decode cX7_number 87 = .ok (.lconst 1, 1) := by decide +kernel
theorem dX7_number_88 : decode cX7_number 88 = .ok (.ldc2_w 102, 3) := by decide +kernel
theorem dX7_number_91 : decode cX7_number 91 = .ok (.invokestatic 63, 3) := by decide +kernel
theorem dX7_number_94 : decode cX7_number 94 = .ok (.ireturn, 1) := by decide +kernel
theorem dX7_kindBy_0 : decode cX7_kindBy 0 = .ok (.iload_n 0, 1) := by decide +kernel
theorem dX7_kindBy_1 : decode cX7_kindBy 1 = .ok (.bipush 100, 2) := by decide +kernel
theorem dX7_kindBy_3 : decode cX7_kindBy 3 = .ok (.if_icmp .ne 7, 3) := by decide +kernel
theorem dX7_kindBy_6 : decode cX7_kindBy 6 = .ok (.iconst 0, 1) := by decide +kernel
theorem dX7_kindBy_7 : decode cX7_kindBy 7 = .ok (.goto 45, 3) := by decide +kernel
theorem dX7_kindBy_10 : decode cX7_kindBy 10 = .ok (.iload_n 0, 1) := by decide +kernel
theorem dX7_kindBy_11 : decode cX7_kindBy 11 = .ok (.bipush 99, 2) := by decide +kernel
theorem dX7_kindBy_13 : decode cX7_kindBy 13 = .ok (.if_icmp .ne 7, 3) := by decide +kernel
theorem dX7_kindBy_16 : decode cX7_kindBy 16 = .ok (.iconst 1, 1) := by decide +kernel
theorem dX7_kindBy_17 : decode cX7_kindBy 17 = .ok (.goto 35, 3) := by decide +kernel
theorem dX7_kindBy_20 : decode cX7_kindBy 20 = .ok (.iload_n 0, 1) := by decide +kernel
theorem dX7_kindBy_21 : decode cX7_kindBy 21 = .ok (.bipush 111, 2) := by decide +kernel
theorem dX7_kindBy_23 : decode cX7_kindBy 23 = .ok (.if_icmp .ne 7, 3) := by decide +kernel
theorem dX7_kindBy_26 : decode cX7_kindBy 26 = .ok (.iconst 2, 1) := by decide +kernel
theorem dX7_kindBy_27 : decode cX7_kindBy 27 = .ok (.goto 25, 3) := by decide +kernel
theorem dX7_kindBy_30 : decode cX7_kindBy 30 = .ok (.iload_n 0, 1) := by decide +kernel
theorem dX7_kindBy_31 : decode cX7_kindBy 31 = .ok (.bipush 108, 2) := by decide +kernel
theorem dX7_kindBy_33 : decode cX7_kindBy 33 = .ok (.if_icmp .ne 7, 3) := by decide +kernel
theorem dX7_kindBy_36 : decode cX7_kindBy 36 = .ok (.iconst 3, 1) := by decide +kernel
theorem dX7_kindBy_37 : decode cX7_kindBy 37 = .ok (.goto 15, 3) := by decide +kernel
theorem dX7_kindBy_40 : decode cX7_kindBy 40 = .ok (.iload_n 0, 1) := by decide +kernel
theorem dX7_kindBy_41 : decode cX7_kindBy 41 = .ok (.bipush 98, 2) := by decide +kernel
theorem dX7_kindBy_43 : decode cX7_kindBy 43 = .ok (.if_icmp .ne 7, 3) := by decide +kernel
theorem dX7_kindBy_46 : decode cX7_kindBy 46 = .ok (.iconst 4, 1) := by decide +kernel
theorem dX7_kindBy_47 : decode cX7_kindBy 47 = .ok (.goto 5, 3) := by decide +kernel
theorem dX7_kindBy_50 : decode cX7_kindBy 50 = .ok (.bipush (-4), 2) := by decide +kernel
theorem dX7_kindBy_52 : decode cX7_kindBy 52 = .ok (.ireturn, 1) := by decide +kernel
theorem dX7_one_0 : decode cX7_one 0 = .ok (.aload_n 0, 1) := by decide +kernel
theorem dX7_one_1 : decode cX7_one 1 = .ok (.invokevirtual 142, 3) := by decide +kernel
theorem dX7_one_4 : decode cX7_one 4 = .ok (.invokestatic 152, 3) := by decide +kernel
theorem dX7_one_7 : decode cX7_one 7 = .ok (.istore_n 1, 1) := by decide +kernel
theorem dX7_one_8 : decode cX7_one 8 = .ok (.iload_n 1, 1) := by decide +kernel
theorem dX7_one_9 : decode cX7_one 9 = .ok (.bipush (-4), 2) := by decide +kernel
theorem dX7_one_11 : decode cX7_one 11 = .ok (.if_icmp .ne 5, 3) := by decide +kernel
theorem dX7_one_14 : decode cX7_one 14 = .ok (.iconst 0, 1) := by decide +kernel
theorem dX7_one_15 : decode cX7_one 15 = .ok (.ireturn, 1) := by decide +kernel
theorem dX7_one_16 : decode cX7_one 16 = .ok (.aload_n 0, 1) := by decide +kernel
theorem dX7_one_17 : decode cX7_one 17 = .ok (.getfield 54, 3) := by decide +kernel
theorem dX7_one_20 : decode cX7_one 20 = .ok (.aload_n 0, 1) := by decide +kernel
theorem dX7_one_21 : decode cX7_one 21 = .ok (.getfield 155, 3) := by decide +kernel
theorem dX7_one_24 : decode cX7_one 24 = .ok (.iload_n 1, 1) := by decide +kernel
theorem dX7_one_25 : decode cX7_one 25 = .ok (.iastore, 1) := by decide +kernel
theorem dX7_one_26 : decode cX7_one 26 = .ok (.iconst 0, 1) := by decide +kernel
theorem dX7_one_27 : decode cX7_one 27 = .ok (.istore_n 2, 1) := by decide +kernel
theorem dX7_one_28 : decode cX7_one 28 = .ok (.iload_n 2, 1) := by decide +kernel
theorem dX7_one_29 : decode cX7_one 29 = .ok (.iconst 4, 1) := by decide +kernel
theorem dX7_one_30 : decode cX7_one 30 = .ok (.if_icmp .ge 47, 3) := by decide +kernel
theorem dX7_one_33 : decode cX7_one 33 = .ok (.aload_n 0, 1) := by decide +kernel
theorem dX7_one_34 : decode cX7_one 34 = .ok (.invokevirtual 142, 3) := by decide +kernel
theorem dX7_one_37 : decode cX7_one 37 = .ok (.istore_n 3, 1) := by decide +kernel
theorem dX7_one_38 : decode cX7_one 38 = .ok (.iload_n 3, 1) := by decide +kernel
theorem dX7_one_39 : decode cX7_one 39 = .ok (.i2l, 1) := by decide +kernel
theorem dX7_one_40 : decode cX7_one 40 = .ok (.ldc2_w 158, 3) := by decide +kernel
theorem dX7_one_43 : decode cX7_one 43 = .ok (.ldc2_w 160, 3) := by decide +kernel
theorem dX7_one_46 : decode cX7_one 46 = .ok (.invokestatic 63, 3) := by decide +kernel
theorem dX7_one_49 : decode cX7_one 49 = .ok (.ifCond .ne 5, 3) := by decide +kernel
theorem dX7_one_52 : decode cX7_one 52 = .ok (.iconst 0, 1) := by decide +kernel
theorem dX7_one_53 : decode cX7_one 53 = .ok (.ireturn, 1) := by decide +kernel
theorem dX7_one_54 : decode cX7_one 54 = .ok (.aload_n 0, 1) := by decide +kernel
theorem dX7_one_55 : decode cX7_one 55 = .ok (.getfield 57, 3) := by decide +kernel
theorem dX7_one_58 : decode cX7_one 58 = .ok (.iconst 4, 1) := by decide +kernel
theorem dX7_one_59 : decode cX7_one 59 = .ok (.aload_n 0, 1) := by decide +kernel
theorem dX7_one_60 : decode cX7_one 60 = .ok (.getfield 155, 3) := by decide +kernel
theorem dX7_one_63 : decode cX7_one 63 = .ok (.imul, 1) := by decide +kernel
theorem dX7_one_64 : decode cX7_one 64 = .ok (.iload_n 2, 1) := by decide +kernel
theorem dX7_one_65 : decode cX7_one 65 = .ok (.iadd, 1) := by decide +kernel
theorem dX7_one_66 : decode cX7_one 66 = .ok (.iload_n 3, 1) := by decide +kernel
theorem dX7_one_67 : decode cX7_one 67 = .ok (.bipush 97, 2) := by decide +kernel
theorem dX7_one_69 : decode cX7_one 69 = .ok (.isub, 1) := by decide +kernel
theorem dX7_one_70 : decode cX7_one 70 = .ok (.iastore, 1) := by decide +kernel
theorem dX7_one_71 : decode cX7_one 71 = .ok (.iinc 2 1, 3) := by decide +kernel
theorem dX7_one_74 : decode cX7_one 74 = .ok (.goto (-46), 3) := by decide +kernel
theorem dX7_one_77 : decode cX7_one 77 = .ok (.aload_n 0, 1) := by decide +kernel
theorem dX7_one_78 : decode cX7_one 78 = .ok (.dup, 1) := by decide +kernel
theorem dX7_one_79 : decode cX7_one 79 = .ok (.getfield 155, 3) := by decide +kernel
theorem dX7_one_82 : decode cX7_one 82 = .ok (.iconst 1, 1) := by decide +kernel
theorem dX7_one_83 : decode cX7_one 83 = .ok (.iadd, 1) := by decide +kernel
theorem dX7_one_84 : decode cX7_one 84 = .ok (.putfield 155, 3) := by decide +kernel
theorem dX7_one_87 : decode cX7_one 87 = .ok (.iconst 1, 1) := by decide +kernel
theorem dX7_one_88 : decode cX7_one 88 = .ok (.ireturn, 1) := by decide +kernel
theorem dX7_keys_0 : decode cX7_keys 0 = .ok (.iconst 0, 1) := by decide +kernel
theorem dX7_keys_1 : decode cX7_keys 1 = .ok (.istore_n 1, 1) := by decide +kernel
theorem dX7_keys_2 : decode cX7_keys 2 = .ok (.iload_n 1, 1) := by decide +kernel
theorem dX7_keys_3 : decode cX7_keys 3 = .ok (.iconst 4, 1) := by decide +kernel
theorem dX7_keys_4 : decode cX7_keys 4 = .ok (.if_icmp .ge 65, 3) := by decide +kernel
theorem dX7_keys_7 : decode cX7_keys 7 = .ok (.aload_n 0, 1) := by decide +kernel
theorem dX7_keys_8 : decode cX7_keys 8 = .ok (.invokevirtual 142, 3) := by decide +kernel
theorem dX7_keys_11 : decode cX7_keys 11 = .ok (.istore_n 2, 1) := by decide +kernel
theorem dX7_keys_12 : decode cX7_keys 12 = .ok (.iload_n 2, 1) := by decide +kernel
theorem dX7_keys_13 : decode cX7_keys 13 = .ok (.bipush 45, 2) := by decide +kernel
theorem dX7_keys_15 : decode cX7_keys 15 = .ok (.if_icmp .eq 24, 3) := by decide +kernel
theorem dX7_keys_18 : decode cX7_keys 18 = .ok (.iload_n 2, 1) := by decide +kernel
theorem dX7_keys_19 : decode cX7_keys 19 = .ok (.i2l, 1) := by decide +kernel
theorem dX7_keys_20 : decode cX7_keys 20 = .ok (.ldc2_w 138, 3) := by decide +kernel
theorem dX7_keys_23 : decode cX7_keys 23 = .ok (.bipush 47, 2) := by decide +kernel
theorem dX7_keys_25 : decode cX7_keys 25 = .ok (.aload_n 0, 1) := by decide +kernel
theorem dX7_keys_26 : decode cX7_keys 26 = .ok (.getfield 155, 3) := by decide +kernel
theorem dX7_keys_29 : decode cX7_keys 29 = .ok (.iadd, 1) := by decide +kernel
theorem dX7_keys_30 : decode cX7_keys 30 = .ok (.i2l, 1) := by decide +kernel
theorem dX7_keys_31 : decode cX7_keys 31 = .ok (.invokestatic 63, 3) := by decide +kernel
theorem dX7_keys_34 : decode cX7_keys 34 = .ok (.ifCond .ne 5, 3) := by decide +kernel
theorem dX7_keys_37 : decode cX7_keys 37 = .ok (.iconst 0, 1) := by decide +kernel
theorem dX7_keys_38 : decode cX7_keys 38 = .ok (.ireturn, 1) := by decide +kernel
theorem dX7_keys_39 : decode cX7_keys 39 = .ok (.aload_n 0, 1) := by decide +kernel
theorem dX7_keys_40 : decode cX7_keys 40 = .ok (.getfield 57, 3) := by decide +kernel
theorem dX7_keys_43 : decode cX7_keys 43 = .ok (.bipush 20, 2) := by decide +kernel
theorem dX7_keys_45 : decode cX7_keys 45 = .ok (.iload_n 1, 1) := by decide +kernel
theorem dX7_keys_46 : decode cX7_keys 46 = .ok (.iadd, 1) := by decide +kernel
theorem dX7_keys_47 : decode cX7_keys 47 = .ok (.iload_n 2, 1) := by decide +kernel
theorem dX7_keys_48 : decode cX7_keys 48 = .ok (.bipush 45, 2) := by decide +kernel
theorem dX7_keys_50 : decode cX7_keys 50 = .ok (.if_icmp .ne 8, 3) := by decide +kernel
theorem dX7_keys_53 : decode cX7_keys 53 = .ok (.bipush (-4), 2) := by decide +kernel
theorem dX7_keys_55 : decode cX7_keys 55 = .ok (.goto 7, 3) := by decide +kernel
theorem dX7_keys_58 : decode cX7_keys 58 = .ok (.iload_n 2, 1) := by decide +kernel
theorem dX7_keys_59 : decode cX7_keys 59 = .ok (.bipush 48, 2) := by decide +kernel
theorem dX7_keys_61 : decode cX7_keys 61 = .ok (.isub, 1) := by decide +kernel
theorem dX7_keys_62 : decode cX7_keys 62 = .ok (.iastore, 1) := by decide +kernel
theorem dX7_keys_63 : decode cX7_keys 63 = .ok (.iinc 1 1, 3) := by decide +kernel
theorem dX7_keys_66 : decode cX7_keys 66 = .ok (.goto (-64), 3) := by decide +kernel
theorem dX7_keys_69 : decode cX7_keys 69 = .ok (.aload_n 0, 1) := by decide +kernel
theorem dX7_keys_70 : decode cX7_keys 70 = .ok (.invokevirtual 142, 3) := by decide +kernel
theorem dX7_keys_73 : decode cX7_keys 73 = .ok (.ifCond .ne 7, 3) := by decide +kernel
theorem dX7_keys_76 : decode cX7_keys 76 = .ok (.iconst 1, 1) := by decide +kernel
theorem dX7_keys_77 : decode cX7_keys 77 = .ok (.goto 4, 3) := by decide +kernel
theorem dX7_keys_80 : decode cX7_keys 80 = .ok (.iconst 0, 1) := by decide +kernel
theorem dX7_keys_81 : decode cX7_keys 81 = .ok (.ireturn, 1) := by decide +kernel
theorem dX7_isCollege_0 : decode cX7_isCollege 0 = .ok (.aload_n 0, 1) := by decide +kernel
theorem dX7_isCollege_1 : decode cX7_isCollege 1 = .ok (.iconst 0, 1) := by decide +kernel
theorem dX7_isCollege_2 : decode cX7_isCollege 2 = .ok (.putfield 155, 3) := by decide +kernel
theorem dX7_isCollege_5 : decode cX7_isCollege 5 = .ok (.aload_n 0, 1) := by decide +kernel
theorem dX7_isCollege_6 : decode cX7_isCollege 6 = .ok (.iconst 0, 1) := by decide +kernel
theorem dX7_isCollege_7 : decode cX7_isCollege 7 = .ok (.putfield 132, 3) := by decide +kernel
theorem dX7_isCollege_10 : decode cX7_isCollege 10 = .ok (.aload_n 0, 1) := by decide +kernel
theorem dX7_isCollege_11 : decode cX7_isCollege 11 = .ok (.invokevirtual 162, 3) := by decide +kernel
theorem dX7_isCollege_14 : decode cX7_isCollege 14 = .ok (.ifCond .ne 5, 3) := by decide +kernel
theorem dX7_isCollege_17 : decode cX7_isCollege 17 = .ok (.iconst 0, 1) := by decide +kernel
theorem dX7_isCollege_18 : decode cX7_isCollege 18 = .ok (.ireturn, 1) := by decide +kernel
theorem dX7_isCollege_19 : decode cX7_isCollege 19 = .ok (.aload_n 0, 1) := by decide +kernel
theorem dX7_isCollege_20 : decode cX7_isCollege 20 = .ok (.invokevirtual 142, 3) := by decide +kernel
theorem dX7_isCollege_23 : decode cX7_isCollege 23 = .ok (.istore_n 1, 1) := by decide +kernel
theorem dX7_isCollege_24 : decode cX7_isCollege 24 = .ok (.iload_n 1, 1) := by decide +kernel
theorem dX7_isCollege_25 : decode cX7_isCollege 25 = .ok (.bipush 47, 2) := by decide +kernel
theorem dX7_isCollege_27 : decode cX7_isCollege 27 = .ok (.if_icmp .ne 28, 3) := by decide +kernel
theorem dX7_isCollege_30 : decode cX7_isCollege 30 = .ok (.aload_n 0, 1) := by decide +kernel
theorem dX7_isCollege_31 : decode cX7_isCollege 31 = .ok (.getfield 155, 3) := by decide +kernel
theorem dX7_isCollege_34 : decode cX7_isCollege 34 = .ok (.iconst 5, 1) := by decide +kernel
theorem dX7_isCollege_35 : decode cX7_isCollege 35 = .ok (.if_icmp .ge 20, 3) := by decide +kernel
theorem dX7_isCollege_38 : decode cX7_isCollege 38 = .ok (.aload_n 0, 1) := by decide +kernel
theorem dX7_isCollege_39 : decode cX7_isCollege 39 = .ok (.invokevirtual 166, 3) := by decide +kernel
theorem dX7_isCollege_42 : decode cX7_isCollege 42 = .ok (.ifCond .ne 5, 3) := by decide +kernel
theorem dX7_isCollege_45 : decode cX7_isCollege 45 = .ok (.iconst 0, 1) := by decide +kernel
theorem dX7_isCollege_46 : decode cX7_isCollege 46 = .ok (.ireturn, 1) := by decide +kernel
theorem dX7_isCollege_47 : decode cX7_isCollege 47 = .ok (.aload_n 0, 1) := by decide +kernel
theorem dX7_isCollege_48 : decode cX7_isCollege 48 = .ok (.invokevirtual 142, 3) := by decide +kernel
theorem dX7_isCollege_51 : decode cX7_isCollege 51 = .ok (.istore_n 1, 1) := by decide +kernel
theorem dX7_isCollege_52 : decode cX7_isCollege 52 = .ok (.goto (-28), 3) := by decide +kernel
theorem dX7_isCollege_55 : decode cX7_isCollege 55 = .ok (.iload_n 1, 1) := by decide +kernel
theorem dX7_isCollege_56 : decode cX7_isCollege 56 = .ok (.bipush 59, 2) := by decide +kernel
theorem dX7_isCollege_58 : decode cX7_isCollege 58 = .ok (.if_icmp .ne 21, 3) := by decide +kernel
theorem dX7_isCollege_61 : decode cX7_isCollege 61 = .ok (.aload_n 0, 1) := by decide +kernel
theorem dX7_isCollege_62 : decode cX7_isCollege 62 = .ok (.getfield 155, 3) := by decide +kernel
theorem dX7_isCollege_65 : decode cX7_isCollege 65 = .ok (.ifCond .le 14, 3) := by decide +kernel
theorem dX7_isCollege_68 : decode cX7_isCollege 68 = .ok (.aload_n 0, 1) := by decide +kernel
theorem dX7_isCollege_69 : decode cX7_isCollege 69 = .ok (.invokevirtual 169, 3) := by decide +kernel
theorem dX7_isCollege_72 : decode cX7_isCollege 72 = .ok (.ifCond .eq 7, 3) := by decide +kernel
theorem dX7_isCollege_75 : decode cX7_isCollege 75 = .ok (.iconst 1, 1) := by decide +kernel
theorem dX7_isCollege_76 : decode cX7_isCollege 76 = .ok (.goto 4, 3) := by decide +kernel
theorem dX7_isCollege_79 : decode cX7_isCollege 79 = .ok (.iconst 0, 1) := by decide +kernel
theorem dX7_isCollege_80 : decode cX7_isCollege 80 = .ok (.ireturn, 1) := by decide +kernel
theorem dX7_college_0 : decode cX7_college 0 = .ok (.aload_n 0, 1) := by decide +kernel
theorem dX7_college_1 : decode cX7_college 1 = .ok (.invokevirtual 172, 3) := by decide +kernel
theorem dX7_college_4 : decode cX7_college 4 = .ok (.istore_n 1, 1) := by decide +kernel
theorem dX7_college_5 : decode cX7_college 5 = .ok (.aload_n 0, 1) := by decide +kernel
theorem dX7_college_6 : decode cX7_college 6 = .ok (.getfield 135, 3) := by decide +kernel
theorem dX7_college_9 : decode cX7_college 9 = .ok (.aload_n 0, 1) := by decide +kernel
theorem dX7_college_10 : decode cX7_college 10 = .ok (.getfield 129, 3) := by decide +kernel
theorem dX7_college_13 : decode cX7_college 13 = .ok (.if_icmp .ge 10, 3) := by decide +kernel
theorem dX7_college_16 : decode cX7_college 16 = .ok (.aload_n 0, 1) := by decide +kernel
theorem dX7_college_17 : decode cX7_college 17 = .ok (.getfield 135, 3) := by decide +kernel
theorem dX7_college_20 : decode cX7_college 20 = .ok (.goto 7, 3) := by decide +kernel
theorem dX7_college_23 : decode cX7_college 23 = .ok (.aload_n 0, 1) := by decide +kernel
theorem dX7_college_24 : decode cX7_college 24 = .ok (.getfield 129, 3) := by decide +kernel
theorem dX7_college_27 : decode cX7_college 27 = .ok (.istore_n 2, 1) := by decide +kernel
theorem dX7_college_28 : decode cX7_college 28 = .ok (.aload_n 0, 1) := by decide +kernel
theorem dX7_college_29 : decode cX7_college 29 = .ok (.iconst 0, 1) := by decide +kernel
theorem dX7_college_30 : decode cX7_college 30 = .ok (.putfield 129, 3) := by decide +kernel
theorem dX7_college_33 : decode cX7_college 33 = .ok (.iload_n 1, 1) := by decide +kernel
theorem dX7_college_34 : decode cX7_college 34 = .ok (.ifCond .ne 8, 3) := by decide +kernel
theorem dX7_college_37 : decode cX7_college 37 = .ok (.bipush (-20), 2) := by decide +kernel
theorem dX7_college_39 : decode cX7_college 39 = .ok (.iload_n 2, 1) := by decide +kernel
theorem dX7_college_40 : decode cX7_college 40 = .ok (.isub, 1) := by decide +kernel
theorem dX7_college_41 : decode cX7_college 41 = .ok (.ireturn, 1) := by decide +kernel
theorem dX7_college_42 : decode cX7_college 42 = .ok (.aload_n 0, 1) := by decide +kernel
theorem dX7_college_43 : decode cX7_college 43 = .ok (.aload_n 0, 1) := by decide +kernel
theorem dX7_college_44 : decode cX7_college 44 = .ok (.getfield 149, 3) := by decide +kernel
theorem dX7_college_47 : decode cX7_college 47 = .ok (.putfield 7, 3) := by decide +kernel
theorem dX7_college_50 : decode cX7_college 50 = .ok (.aload_n 0, 1) := by decide +kernel
theorem dX7_college_51 : decode cX7_college 51 = .ok (.aload_n 0, 1) := by decide +kernel
theorem dX7_college_52 : decode cX7_college 52 = .ok (.getfield 155, 3) := by decide +kernel
theorem dX7_college_55 : decode cX7_college 55 = .ok (.putfield 60, 3) := by decide +kernel
theorem dX7_college_58 : decode cX7_college 58 = .ok (.iconst 0, 1) := by decide +kernel
theorem dX7_college_59 : decode cX7_college 59 = .ok (.istore_n 3, 1) := by decide +kernel
theorem dX7_college_60 : decode cX7_college 60 = .ok (.iload_n 3, 1) := by decide +kernel
theorem dX7_college_61 : decode cX7_college 61 = .ok (.bipush 24, 2) := by decide +kernel
theorem dX7_college_63 : decode cX7_college 63 = .ok (.if_icmp .ge 41, 3) := by decide +kernel
theorem dX7_college_66 : decode cX7_college 66 = .ok (.aload_n 0, 1) := by decide +kernel
theorem dX7_college_67 : decode cX7_college 67 = .ok (.getfield 17, 3) := by decide +kernel
theorem dX7_college_70 : decode cX7_college 70 = .ok (.iload_n 3, 1) := by decide +kernel
theorem dX7_college_71 : decode cX7_college 71 = .ok (.iload_n 3, 1) := by decide +kernel
theorem dX7_college_72 : decode cX7_college 72 = .ok (.iconst 4, 1) := by decide +kernel
theorem dX7_college_73 : decode cX7_college 73 = .ok (.aload_n 0, 1) := by decide +kernel
theorem dX7_college_74 : decode cX7_college 74 = .ok (.getfield 60, 3) := by decide +kernel
theorem dX7_college_77 : decode cX7_college 77 = .ok (.imul, 1) := by decide +kernel
theorem dX7_college_78 : decode cX7_college 78 = .ok (.if_icmp .lt 13, 3) := by decide +kernel
theorem dX7_college_81 : decode cX7_college 81 = .ok (.iload_n 3, 1) := by decide +kernel
theorem dX7_college_82 : decode cX7_college 82 = .ok (.bipush 20, 2) := by decide +kernel
theorem dX7_college_84 : decode cX7_college 84 = .ok (.if_icmp .ge 7, 3) := by decide +kernel
theorem dX7_college_87 : decode cX7_college 87 = .ok (.iconst 0, 1) := by decide +kernel
theorem dX7_college_88 : decode cX7_college 88 = .ok (.goto 9, 3) := by decide +kernel
theorem dX7_college_91 : decode cX7_college 91 = .ok (.aload_n 0, 1) := by decide +kernel
theorem dX7_college_92 : decode cX7_college 92 = .ok (.getfield 57, 3) := by decide +kernel
theorem dX7_college_95 : decode cX7_college 95 = .ok (.iload_n 3, 1) := by decide +kernel
theorem dX7_college_96 : decode cX7_college 96 = .ok (.iaload, 1) := by decide +kernel
theorem dX7_college_97 : decode cX7_college 97 = .ok (.iastore, 1) := by decide +kernel
theorem dX7_college_98 : decode cX7_college 98 = .ok (.iinc 3 1, 3) := by decide +kernel
theorem dX7_college_101 : decode cX7_college 101 = .ok (.goto (-41), 3) := by decide +kernel
theorem dX7_college_104 : decode cX7_college 104 = .ok (.iconst 0, 1) := by decide +kernel
theorem dX7_college_105 : decode cX7_college 105 = .ok (.istore_n 3, 1) := by decide +kernel
theorem dX7_college_106 : decode cX7_college 106 = .ok (.iload_n 3, 1) := by decide +kernel
theorem dX7_college_107 : decode cX7_college 107 = .ok (.aload_n 0, 1) := by decide +kernel
theorem dX7_college_108 : decode cX7_college 108 = .ok (.getfield 60, 3) := by decide +kernel
theorem dX7_college_111 : decode cX7_college 111 = .ok (.if_icmp .ge 21, 3) := by decide +kernel
theorem dX7_college_114 : decode cX7_college 114 = .ok (.aload_n 0, 1) := by decide +kernel
theorem dX7_college_115 : decode cX7_college 115 = .ok (.getfield 13, 3) := by decide +kernel
theorem dX7_college_118 : decode cX7_college 118 = .ok (.iload_n 3, 1) := by decide +kernel
theorem dX7_college_119 : decode cX7_college 119 = .ok (.aload_n 0, 1) := by decide +kernel
theorem dX7_college_120 : decode cX7_college 120 = .ok (.getfield 54, 3) := by decide +kernel
theorem dX7_college_123 : decode cX7_college 123 = .ok (.iload_n 3, 1) := by decide +kernel
theorem dX7_college_124 : decode cX7_college 124 = .ok (.iaload, 1) := by decide +kernel
theorem dX7_college_125 : decode cX7_college 125 = .ok (.iastore, 1) := by decide +kernel
theorem dX7_college_126 : decode cX7_college 126 = .ok (.iinc 3 1, 3) := by decide +kernel
theorem dX7_college_129 : decode cX7_college 129 = .ok (.goto (-23), 3) := by decide +kernel
theorem dX7_college_132 : decode cX7_college 132 = .ok (.aload_n 0, 1) := by decide +kernel
theorem dX7_college_133 : decode cX7_college 133 = .ok (.getfield 17, 3) := by decide +kernel
theorem dX7_college_136 : decode cX7_college 136 = .ok (.bipush 24, 2) := by decide +kernel
theorem dX7_college_138 : decode cX7_college 138 = .ok (.iconst 0, 1) := by decide +kernel
theorem dX7_college_139 : decode cX7_college 139 = .ok (.iastore, 1) := by decide +kernel
theorem dX7_college_140 : decode cX7_college 140 = .ok (.aload_n 0, 1) := by decide +kernel
theorem dX7_college_141 : decode cX7_college 141 = .ok (.getfield 17, 3) := by decide +kernel
theorem dX7_college_144 : decode cX7_college 144 = .ok (.bipush 25, 2) := by decide +kernel
theorem dX7_college_146 : decode cX7_college 146 = .ok (.iconst 0, 1) := by decide +kernel
theorem dX7_college_147 : decode cX7_college 147 = .ok (.iastore, 1) := by decide +kernel
theorem dX7_college_148 : decode cX7_college 148 = .ok (.aload_n 0, 1) := by decide +kernel
theorem dX7_college_149 : decode cX7_college 149 = .ok (.iconst 0, 1) := by decide +kernel
theorem dX7_college_150 : decode cX7_college 150 = .ok (.putfield 104, 3) := by decide +kernel
theorem dX7_college_153 : decode cX7_college 153 = .ok (.aload_n 0, 1) := by decide +kernel
theorem dX7_college_154 : decode cX7_college 154 = .ok (.getfield 60, 3) := by decide +kernel
theorem dX7_college_157 : decode cX7_college 157 = .ok (.ireturn, 1) := by decide +kernel
theorem dX7_nails_0 : decode cX7_nails 0 = .ok (.iconst 0, 1) := by decide +kernel
theorem dX7_nails_1 : decode cX7_nails 1 = .ok (.istore_n 1, 1) := by decide +kernel
theorem dX7_nails_2 : decode cX7_nails 2 = .ok (.iconst 0, 1) := by decide +kernel
theorem dX7_nails_3 : decode cX7_nails 3 = .ok (.istore_n 2, 1) := by decide +kernel
theorem dX7_nails_4 : decode cX7_nails 4 = .ok (.iload_n 2, 1) := by decide +kernel
theorem dX7_nails_5 : decode cX7_nails 5 = .ok (.iconst 4, 1) := by decide +kernel
theorem dX7_nails_6 : decode cX7_nails 6 = .ok (.if_icmp .ge 33, 3) := by decide +kernel
theorem dX7_nails_9 : decode cX7_nails 9 = .ok (.iload_n 1, 1) := by decide +kernel
theorem dX7_nails_10 : decode cX7_nails 10 = .ok (.aload_n 0, 1) := by decide +kernel
theorem dX7_nails_11 : decode cX7_nails 11 = .ok (.getfield 17, 3) := by decide +kernel
theorem dX7_nails_14 : decode cX7_nails 14 = .ok (.bipush 20, 2) := by decide +kernel
theorem dX7_nails_16 : decode cX7_nails 16 = .ok (.iload_n 2, 1) := by decide +kernel
theorem dX7_nails_17 : decode cX7_nails 17 = .ok (.iadd, 1) := by decide +kernel
theorem dX7_nails_18 : decode cX7_nails 18 = .ok (.iaload, 1) := by decide +kernel
theorem dX7_nails_19 : decode cX7_nails 19 = .ok (.bipush (-4), 2) := by decide +kernel
theorem dX7_nails_21 : decode cX7_nails 21 = .ok (.if_icmp .ne 9, 3) := by decide +kernel
theorem dX7_nails_24 : decode cX7_nails 24 = .ok (.iconst 1, 1) := by decide +kernel
theorem dX7_nails_25 : decode cX7_nails 25 = .ok (.iload_n 2, 1) := by decide +kernel
theorem dX7_nails_26 : decode cX7_nails 26 = .ok (.ishl, 1) := by decide +kernel
theorem dX7_nails_27 : decode cX7_nails 27 = .ok (.goto 4, 3) := by decide +kernel
theorem dX7_nails_30 : decode cX7_nails 30 = .ok (.iconst 0, 1) := by decide +kernel
theorem dX7_nails_31 : decode cX7_nails 31 = .ok (.ior, 1) := by decide +kernel
theorem dX7_nails_32 : decode cX7_nails 32 = .ok (.istore_n 1, 1) := by decide +kernel
theorem dX7_nails_33 : decode cX7_nails 33 = .ok (.iinc 2 1, 3) := by decide +kernel
theorem dX7_nails_36 : decode cX7_nails 36 = .ok (.goto (-32), 3) := by decide +kernel
theorem dX7_nails_39 : decode cX7_nails 39 = .ok (.iload_n 1, 1) := by decide +kernel
theorem dX7_nails_40 : decode cX7_nails 40 = .ok (.ireturn, 1) := by decide +kernel
theorem dX7_keepers_0 : decode cX7_keepers 0 = .ok (.iconst 0, 1) := by decide +kernel
theorem dX7_keepers_1 : decode cX7_keepers 1 = .ok (.istore_n 1, 1) := by decide +kernel
theorem dX7_keepers_2 : decode cX7_keepers 2 = .ok (.iconst 0, 1) := by decide +kernel
theorem dX7_keepers_3 : decode cX7_keepers 3 = .ok (.istore_n 2, 1) := by decide +kernel
theorem dX7_keepers_4 : decode cX7_keepers 4 = .ok (.iload_n 2, 1) := by decide +kernel
theorem dX7_keepers_5 : decode cX7_keepers 5 = .ok (.iconst 4, 1) := by decide +kernel
theorem dX7_keepers_6 : decode cX7_keepers 6 = .ok (.if_icmp .ge 41, 3) := by decide +kernel
theorem dX7_keepers_9 : decode cX7_keepers 9 = .ok (.iload_n 1, 1) := by decide +kernel
theorem dX7_keepers_10 : decode cX7_keepers 10 = .ok (.aload_n 0, 1) := by decide +kernel
theorem dX7_keepers_11 : decode cX7_keepers 11 = .ok (.getfield 17, 3) := by decide +kernel
theorem dX7_keepers_14 : decode cX7_keepers 14 = .ok (.bipush 20, 2) := by decide +kernel
theorem dX7_keepers_16 : decode cX7_keepers 16 = .ok (.iload_n 2, 1) := by decide +kernel
theorem dX7_keepers_17 : decode cX7_keepers 17 = .ok (.iadd, 1) := by decide +kernel
theorem dX7_keepers_18 : decode cX7_keepers 18 = .ok (.iaload, 1) := by decide +kernel
theorem dX7_keepers_19 : decode cX7_keepers 19 = .ok (.bipush (-4), 2) := by decide +kernel
theorem dX7_keepers_21 : decode cX7_keepers 21 = .ok (.if_icmp .ne 7, 3) := by decide +kernel
theorem dX7_keepers_24 : decode cX7_keepers 24 = .ok (.iconst 0, 1) := by decide +kernel
theorem dX7_keepers_25 : decode cX7_keepers 25 = .ok (.goto 14, 3) := by decide +kernel
theorem dX7_keepers_28 : decode cX7_keepers 28 = .ok (.iconst 1, 1) := by decide +kernel
theorem dX7_keepers_29 : decode cX7_keepers 29 = .ok (.aload_n 0, 1) := by decide +kernel
theorem dX7_keepers_30 : decode cX7_keepers 30 = .ok (.getfield 17, 3) := by decide +kernel
theorem dX7_keepers_33 : decode cX7_keepers 33 = .ok (.bipush 20, 2) := by decide +kernel
theorem dX7_keepers_35 : decode cX7_keepers 35 = .ok (.iload_n 2, 1) := by decide +kernel
theorem dX7_keepers_36 : decode cX7_keepers 36 = .ok (.iadd, 1) := by decide +kernel
theorem dX7_keepers_37 : decode cX7_keepers 37 = .ok (.iaload, 1) := by decide +kernel
theorem dX7_keepers_38 : decode cX7_keepers 38 = .ok (.ishl, 1) := by decide +kernel
theorem dX7_keepers_39 : decode cX7_keepers 39 = .ok (.ior, 1) := by decide +kernel
theorem dX7_keepers_40 : decode cX7_keepers 40 = .ok (.istore_n 1, 1) := by decide +kernel
theorem dX7_keepers_41 : decode cX7_keepers 41 = .ok (.iinc 2 1, 3) := by decide +kernel
theorem dX7_keepers_44 : decode cX7_keepers 44 = .ok (.goto (-40), 3) := by decide +kernel
theorem dX7_keepers_47 : decode cX7_keepers 47 = .ok (.iload_n 1, 1) := by decide +kernel
theorem dX7_keepers_48 : decode cX7_keepers 48 = .ok (.ireturn, 1) := by decide +kernel
theorem dX7_count_0 : decode cX7_count 0 = .ok (.iload_n 1, 1) := by decide +kernel
theorem dX7_count_1 : decode cX7_count 1 = .ok (.tableswitch 116 0 7 #[47, 52, 60, 65, 73, 78, 106, 111], 47) := by decide +kernel
theorem dX7_count_48 : decode cX7_count 48 = .ok (.aload_n 0, 1) := by decide +kernel
theorem dX7_count_49 : decode cX7_count 49 = .ok (.getfield 60, 3) := by decide +kernel
theorem dX7_count_52 : decode cX7_count 52 = .ok (.ireturn, 1) := by decide +kernel
theorem dX7_count_53 : decode cX7_count 53 = .ok (.aload_n 0, 1) := by decide +kernel
theorem dX7_count_54 : decode cX7_count 54 = .ok (.getfield 17, 3) := by decide +kernel
theorem dX7_count_57 : decode cX7_count 57 = .ok (.bipush 24, 2) := by decide +kernel
theorem dX7_count_59 : decode cX7_count 59 = .ok (.iaload, 1) := by decide +kernel
theorem dX7_count_60 : decode cX7_count 60 = .ok (.ireturn, 1) := by decide +kernel
theorem dX7_count_61 : decode cX7_count 61 = .ok (.aload_n 0, 1) := by decide +kernel
theorem dX7_count_62 : decode cX7_count 62 = .ok (.getfield 7, 3) := by decide +kernel
theorem dX7_count_65 : decode cX7_count 65 = .ok (.ireturn, 1) := by decide +kernel
theorem dX7_count_66 : decode cX7_count 66 = .ok (.aload_n 0, 1) := by decide +kernel
theorem dX7_count_67 : decode cX7_count 67 = .ok (.getfield 17, 3) := by decide +kernel
theorem dX7_count_70 : decode cX7_count 70 = .ok (.bipush 25, 2) := by decide +kernel
theorem dX7_count_72 : decode cX7_count 72 = .ok (.iaload, 1) := by decide +kernel
theorem dX7_count_73 : decode cX7_count 73 = .ok (.ireturn, 1) := by decide +kernel
theorem dX7_count_74 : decode cX7_count 74 = .ok (.aload_n 0, 1) := by decide +kernel
theorem dX7_count_75 : decode cX7_count 75 = .ok (.invokevirtual 175, 3) := by decide +kernel
theorem dX7_count_78 : decode cX7_count 78 = .ok (.ireturn, 1) := by decide +kernel
theorem dX7_count_79 : decode cX7_count 79 = .ok (.iconst 0, 1) := by decide +kernel
theorem dX7_count_80 : decode cX7_count 80 = .ok (.istore_n 2, 1) := by decide +kernel
theorem dX7_count_81 : decode cX7_count 81 = .ok (.iconst 0, 1) := by decide +kernel
theorem dX7_count_82 : decode cX7_count 82 = .ok (.istore_n 3, 1) := by decide +kernel
theorem dX7_count_83 : decode cX7_count 83 = .ok (.iload_n 3, 1) := by decide +kernel
theorem dX7_count_84 : decode cX7_count 84 = .ok (.aload_n 0, 1) := by decide +kernel
theorem dX7_count_85 : decode cX7_count 85 = .ok (.getfield 60, 3) := by decide +kernel
theorem dX7_count_88 : decode cX7_count 88 = .ok (.if_icmp .ge 17, 3) := by decide +kernel
theorem dX7_count_91 : decode cX7_count 91 = .ok (.iload_n 2, 1) := by decide +kernel
theorem dX7_count_92 : decode cX7_count 92 = .ok (.aload_n 0, 1) := by decide +kernel
theorem dX7_count_93 : decode cX7_count 93 = .ok (.iload_n 3, 1) := by decide +kernel
theorem dX7_count_94 : decode cX7_count 94 = .ok (.invokevirtual 119, 3) := by decide +kernel
theorem dX7_count_97 : decode cX7_count 97 = .ok (.iadd, 1) := by decide +kernel
theorem dX7_count_98 : decode cX7_count 98 = .ok (.istore_n 2, 1) := by decide +kernel
theorem dX7_count_99 : decode cX7_count 99 = .ok (.iinc 3 1, 3) := by decide +kernel
theorem dX7_count_102 : decode cX7_count 102 = .ok (.goto (-19), 3) := by decide +kernel
theorem dX7_count_105 : decode cX7_count 105 = .ok (.iload_n 2, 1) := by decide +kernel
theorem dX7_count_106 : decode cX7_count 106 = .ok (.ireturn, 1) := by decide +kernel
theorem dX7_count_107 : decode cX7_count 107 = .ok (.aload_n 0, 1) := by decide +kernel
theorem dX7_count_108 : decode cX7_count 108 = .ok (.invokevirtual 178, 3) := by decide +kernel
theorem dX7_count_111 : decode cX7_count 111 = .ok (.ireturn, 1) := by decide +kernel
theorem dX7_count_112 : decode cX7_count 112 = .ok (.aload_n 0, 1) := by decide +kernel
theorem dX7_count_113 : decode cX7_count 113 = .ok (.getfield 104, 3) := by decide +kernel
theorem dX7_count_116 : decode cX7_count 116 = .ok (.ireturn, 1) := by decide +kernel
theorem dX7_count_117 : decode cX7_count 117 = .ok (.iconst (-1), 1) := by decide +kernel
theorem dX7_count_118 : decode cX7_count 118 = .ok (.ireturn, 1) := by decide +kernel
theorem dX7_note_0 : decode cX7_note 0 = .ok (.aload_n 0, 1) := by decide +kernel
theorem dX7_note_1 : decode cX7_note 1 = .ok (.getfield 104, 3) := by decide +kernel
theorem dX7_note_4 : decode cX7_note 4 = .ok (.bipush 8, 2) := by decide +kernel
theorem dX7_note_6 : decode cX7_note 6 = .ok (.if_icmp .ne 43, 3) := by decide +kernel
theorem dX7_note_9 : decode cX7_note 9 = .ok (.iconst 0, 1) := by decide +kernel
theorem dX7_note_10 : decode cX7_note 10 = .ok (.istore_n 1, 1) := by decide +kernel
theorem dX7_note_11 : decode cX7_note 11 = .ok (.iload_n 1, 1) := by decide +kernel
theorem dX7_note_12 : decode cX7_note 12 = .ok (.sipush 189, 3) := by decide +kernel
theorem dX7_note_15 : decode cX7_note 15 = .ok (.if_icmp .ge 24, 3) := by decide +kernel
theorem dX7_note_18 : decode cX7_note 18 = .ok (.aload_n 0, 1) := by decide +kernel
theorem dX7_note_19 : decode cX7_note 19 = .ok (.getfield 23, 3) := by decide +kernel
theorem dX7_note_22 : decode cX7_note 22 = .ok (.iload_n 1, 1) := by decide +kernel
theorem dX7_note_23 : decode cX7_note 23 = .ok (.aload_n 0, 1) := by decide +kernel
theorem dX7_note_24 : decode cX7_note 24 = .ok (.getfield 23, 3) := by decide +kernel
theorem dX7_note_27 : decode cX7_note 27 = .ok (.bipush 27, 2) := by decide +kernel
theorem dX7_note_29 : decode cX7_note 29 = .ok (.iload_n 1, 1) := by decide +kernel
theorem dX7_note_30 : decode cX7_note 30 = .ok (.iadd, 1) := by decide +kernel
theorem dX7_note_31 : decode cX7_note 31 = .ok (.iaload, 1) := by decide +kernel
theorem dX7_note_32 : decode cX7_note 32 = .ok (.iastore, 1) := by decide +kernel
theorem dX7_note_33 : decode cX7_note 33 = .ok (.iinc 1 1, 3) := by decide +kernel
theorem dX7_note_36 : decode cX7_note 36 = .ok (.goto (-25), 3) := by decide +kernel
theorem dX7_note_39 : decode cX7_note 39 = .ok (.aload_n 0, 1) := by decide +kernel
theorem dX7_note_40 : decode cX7_note 40 = .ok (.dup, 1) := by decide +kernel
theorem dX7_note_41 : decode cX7_note 41 = .ok (.getfield 104, 3) := by decide +kernel
theorem dX7_note_44 : decode cX7_note 44 = .ok (.iconst 1, 1) := by decide +kernel
theorem dX7_note_45 : decode cX7_note 45 = .ok (.isub, 1) := by decide +kernel
theorem dX7_note_46 : decode cX7_note 46 = .ok (.putfield 104, 3) := by decide +kernel
theorem dX7_note_49 : decode cX7_note 49 = .ok (.iconst 0, 1) := by decide +kernel
theorem dX7_note_50 : decode cX7_note 50 = .ok (.istore_n 1, 1) := by decide +kernel
theorem dX7_note_51 : decode cX7_note 51 = .ok (.iload_n 1, 1) := by decide +kernel
theorem dX7_note_52 : decode cX7_note 52 = .ok (.bipush 27, 2) := by decide +kernel
theorem dX7_note_54 : decode cX7_note 54 = .ok (.if_icmp .ge 29, 3) := by decide +kernel
theorem dX7_note_57 : decode cX7_note 57 = .ok (.aload_n 0, 1) := by decide +kernel
theorem dX7_note_58 : decode cX7_note 58 = .ok (.getfield 23, 3) := by decide +kernel
theorem dX7_note_61 : decode cX7_note 61 = .ok (.bipush 27, 2) := by decide +kernel
theorem dX7_note_63 : decode cX7_note 63 = .ok (.aload_n 0, 1) := by decide +kernel
theorem dX7_note_64 : decode cX7_note 64 = .ok (.getfield 104, 3) := by decide +kernel
theorem dX7_note_67 : decode cX7_note 67 = .ok (.imul, 1) := by decide +kernel
theorem dX7_note_68 : decode cX7_note 68 = .ok (.iload_n 1, 1) := by decide +kernel
theorem dX7_note_69 : decode cX7_note 69 = .ok (.iadd, 1) := by decide +kernel
theorem dX7_note_70 : decode cX7_note 70 = .ok (.aload_n 0, 1) := by decide +kernel
theorem dX7_note_71 : decode cX7_note 71 = .ok (.getfield 17, 3) := by decide +kernel
theorem dX7_note_74 : decode cX7_note 74 = .ok (.iload_n 1, 1) := by decide +kernel
theorem dX7_note_75 : decode cX7_note 75 = .ok (.iaload, 1) := by decide +kernel
theorem dX7_note_76 : decode cX7_note 76 = .ok (.iastore, 1) := by decide +kernel
theorem dX7_note_77 : decode cX7_note 77 = .ok (.iinc 1 1, 3) := by decide +kernel
theorem dX7_note_80 : decode cX7_note 80 = .ok (.goto (-29), 3) := by decide +kernel
theorem dX7_note_83 : decode cX7_note 83 = .ok (.aload_n 0, 1) := by decide +kernel
theorem dX7_note_84 : decode cX7_note 84 = .ok (.dup, 1) := by decide +kernel
theorem dX7_note_85 : decode cX7_note 85 = .ok (.getfield 104, 3) := by decide +kernel
theorem dX7_note_88 : decode cX7_note 88 = .ok (.iconst 1, 1) := by decide +kernel
theorem dX7_note_89 : decode cX7_note 89 = .ok (.iadd, 1) := by decide +kernel
theorem dX7_note_90 : decode cX7_note 90 = .ok (.putfield 104, 3) := by decide +kernel
theorem dX7_note_93 : decode cX7_note 93 = .ok (.return_, 1) := by decide +kernel
theorem dX7_days_0 : decode cX7_days 0 = .ok (.iload_n 1, 1) := by decide +kernel
theorem dX7_days_1 : decode cX7_days 1 = .ok (.i2l, 1) := by decide +kernel
theorem dX7_days_2 : decode cX7_days 2 = .ok (.lconst 1, 1) := by decide +kernel
theorem dX7_days_3 : decode cX7_days 3 = .ok (.ldc2_w 181, 3) := by decide +kernel
theorem dX7_days_6 : decode cX7_days 6 = .ok (.invokestatic 63, 3) := by decide +kernel
theorem dX7_days_9 : decode cX7_days 9 = .ok (.ifCond .ne 5, 3) := by decide +kernel
theorem dX7_days_12 : decode cX7_days 12 = .ok (.iconst (-1), 1) := by decide +kernel
theorem dX7_days_13 : decode cX7_days 13 = .ok (.ireturn, 1) := by decide +kernel
theorem dX7_days_14 : decode cX7_days 14 = .ok (.aload_n 0, 1) := by decide +kernel
theorem dX7_days_15 : decode cX7_days 15 = .ok (.getfield 17, 3) := by decide +kernel
theorem dX7_days_18 : decode cX7_days 18 = .ok (.bipush 24, 2) := by decide +kernel
theorem dX7_days_20 : decode cX7_days 20 = .ok (.iaload, 1) := by decide +kernel
theorem dX7_days_21 : decode cX7_days 21 = .ok (.iload_n 1, 1) := by decide +kernel
theorem dX7_days_22 : decode cX7_days 22 = .ok (.iadd, 1) := by decide +kernel
theorem dX7_days_23 : decode cX7_days 23 = .ok (.sipush 9999, 3) := by decide +kernel
theorem dX7_days_26 : decode cX7_days 26 = .ok (.if_icmp .le 6, 3) := by decide +kernel
theorem dX7_days_29 : decode cX7_days 29 = .ok (.bipush (-3), 2) := by decide +kernel
theorem dX7_days_31 : decode cX7_days 31 = .ok (.ireturn, 1) := by decide +kernel
theorem dX7_days_32 : decode cX7_days 32 = .ok (.aload_n 0, 1) := by decide +kernel
theorem dX7_days_33 : decode cX7_days 33 = .ok (.getfield 17, 3) := by decide +kernel
theorem dX7_days_36 : decode cX7_days 36 = .ok (.bipush 25, 2) := by decide +kernel
theorem dX7_days_38 : decode cX7_days 38 = .ok (.iaload, 1) := by decide +kernel
theorem dX7_days_39 : decode cX7_days 39 = .ok (.istore_n 2, 1) := by decide +kernel
theorem dX7_days_40 : decode cX7_days 40 = .ok (.iconst 0, 1) := by decide +kernel
theorem dX7_days_41 : decode cX7_days 41 = .ok (.istore_n 3, 1) := by decide +kernel
theorem dX7_days_42 : decode cX7_days 42 = .ok (.iload_n 3, 1) := by decide +kernel
theorem dX7_days_43 : decode cX7_days 43 = .ok (.iload_n 1, 1) := by decide +kernel
theorem dX7_days_44 : decode cX7_days 44 = .ok (.if_icmp .ge 25, 3) := by decide +kernel
theorem dX7_days_47 : decode cX7_days 47 = .ok (.aload_n 0, 1) := by decide +kernel
theorem dX7_days_48 : decode cX7_days 48 = .ok (.invokevirtual 183, 3) := by decide +kernel
theorem dX7_days_51 : decode cX7_days 51 = .ok (.aload_n 0, 1) := by decide +kernel
theorem dX7_days_52 : decode cX7_days 52 = .ok (.invokevirtual 122, 3) := by decide +kernel
theorem dX7_days_55 : decode cX7_days 55 = .ok (.aload_n 0, 1) := by decide +kernel
theorem dX7_days_56 : decode cX7_days 56 = .ok (.invokevirtual 97, 3) := by decide +kernel
theorem dX7_days_59 : decode cX7_days 59 = .ok (.aload_n 0, 1) := by decide +kernel
theorem dX7_days_60 : decode cX7_days 60 = .ok (.invokevirtual 186, 3) := by decide +kernel
theorem dX7_days_63 : decode cX7_days 63 = .ok (.iinc 3 1, 3) := by decide +kernel
theorem dX7_days_66 : decode cX7_days 66 = .ok (.goto (-24), 3) := by decide +kernel
theorem dX7_days_69 : decode cX7_days 69 = .ok (.aload_n 0, 1) := by decide +kernel
theorem dX7_days_70 : decode cX7_days 70 = .ok (.getfield 17, 3) := by decide +kernel
theorem dX7_days_73 : decode cX7_days 73 = .ok (.bipush 25, 2) := by decide +kernel
theorem dX7_days_75 : decode cX7_days 75 = .ok (.iaload, 1) := by decide +kernel
theorem dX7_days_76 : decode cX7_days 76 = .ok (.iload_n 2, 1) := by decide +kernel
theorem dX7_days_77 : decode cX7_days 77 = .ok (.isub, 1) := by decide +kernel
theorem dX7_days_78 : decode cX7_days 78 = .ok (.ireturn, 1) := by decide +kernel
theorem dX7_talk_0 : decode cX7_talk 0 = .ok (.aload_n 0, 1) := by decide +kernel
theorem dX7_talk_1 : decode cX7_talk 1 = .ok (.iload_n 1, 1) := by decide +kernel
theorem dX7_talk_2 : decode cX7_talk 2 = .ok (.invokevirtual 107, 3) := by decide +kernel
theorem dX7_talk_5 : decode cX7_talk 5 = .ok (.ifCond .eq 22, 3) := by decide +kernel
theorem dX7_talk_8 : decode cX7_talk 8 = .ok (.iload_n 2, 1) := by decide +kernel
theorem dX7_talk_9 : decode cX7_talk 9 = .ok (.invokestatic 111, 3) := by decide +kernel
theorem dX7_talk_12 : decode cX7_talk 12 = .ok (.ifCond .eq 15, 3) := by decide +kernel
theorem dX7_talk_15 : decode cX7_talk 15 = .ok (.iload_n 3, 1) := by decide +kernel
theorem dX7_talk_16 : decode cX7_talk 16 = .ok (.i2l, 1) := by decide +kernel
theorem dX7_talk_17 : decode cX7_talk 17 = .ok (.lconst 1, 1) := by decide +kernel
theorem dX7_talk_18 : decode cX7_talk 18 = .ok (.ldc2_w 102, 3) := by decide +kernel
theorem dX7_talk_21 : decode cX7_talk 21 = .ok (.invokestatic 63, 3) := by decide +kernel
theorem dX7_talk_24 : decode cX7_talk 24 = .ok (.ifCond .ne 5, 3) := by decide +kernel
theorem dX7_talk_27 : decode cX7_talk 27 = .ok (.iconst (-1), 1) := by decide +kernel
theorem dX7_talk_28 : decode cX7_talk 28 = .ok (.ireturn, 1) := by decide +kernel
theorem dX7_talk_29 : decode cX7_talk 29 = .ok (.aload_n 0, 1) := by decide +kernel
theorem dX7_talk_30 : decode cX7_talk 30 = .ok (.getfield 17, 3) := by decide +kernel
theorem dX7_talk_33 : decode cX7_talk 33 = .ok (.iconst 4, 1) := by decide +kernel
theorem dX7_talk_34 : decode cX7_talk 34 = .ok (.iload_n 1, 1) := by decide +kernel
theorem dX7_talk_35 : decode cX7_talk 35 = .ok (.imul, 1) := by decide +kernel
theorem dX7_talk_36 : decode cX7_talk 36 = .ok (.iload_n 2, 1) := by decide +kernel
theorem dX7_talk_37 : decode cX7_talk 37 = .ok (.iadd, 1) := by decide +kernel
theorem dX7_talk_38 : decode cX7_talk 38 = .ok (.iaload, 1) := by decide +kernel
theorem dX7_talk_39 : decode cX7_talk 39 = .ok (.bipush 20, 2) := by decide +kernel
theorem dX7_talk_41 : decode cX7_talk 41 = .ok (.if_icmp .ne 6, 3) := by decide +kernel
theorem dX7_talk_44 : decode cX7_talk 44 = .ok (.bipush (-2), 2) := by decide +kernel
theorem dX7_talk_46 : decode cX7_talk 46 = .ok (.ireturn, 1) := by decide +kernel
theorem dX7_talk_47 : decode cX7_talk 47 = .ok (.aload_n 0, 1) := by decide +kernel
theorem dX7_talk_48 : decode cX7_talk 48 = .ok (.invokevirtual 183, 3) := by decide +kernel
theorem dX7_talk_51 : decode cX7_talk 51 = .ok (.aload_n 0, 1) := by decide +kernel
theorem dX7_talk_52 : decode cX7_talk 52 = .ok (.invokevirtual 122, 3) := by decide +kernel
theorem dX7_talk_55 : decode cX7_talk 55 = .ok (.aload_n 0, 1) := by decide +kernel
theorem dX7_talk_56 : decode cX7_talk 56 = .ok (.iload_n 1, 1) := by decide +kernel
theorem dX7_talk_57 : decode cX7_talk 57 = .ok (.iload_n 2, 1) := by decide +kernel
theorem dX7_talk_58 : decode cX7_talk 58 = .ok (.iload_n 3, 1) := by decide +kernel
theorem dX7_talk_59 : decode cX7_talk 59 = .ok (.invokevirtual 89, 3) := by decide +kernel
theorem dX7_talk_62 : decode cX7_talk 62 = .ok (.aload_n 0, 1) := by decide +kernel
theorem dX7_talk_63 : decode cX7_talk 63 = .ok (.invokevirtual 186, 3) := by decide +kernel
theorem dX7_talk_66 : decode cX7_talk 66 = .ok (.aload_n 0, 1) := by decide +kernel
theorem dX7_talk_67 : decode cX7_talk 67 = .ok (.getfield 17, 3) := by decide +kernel
theorem dX7_talk_70 : decode cX7_talk 70 = .ok (.iconst 4, 1) := by decide +kernel
theorem dX7_talk_71 : decode cX7_talk 71 = .ok (.iload_n 1, 1) := by decide +kernel
theorem dX7_talk_72 : decode cX7_talk 72 = .ok (.imul, 1) := by decide +kernel
theorem dX7_talk_73 : decode cX7_talk 73 = .ok (.iload_n 2, 1) := by decide +kernel
theorem dX7_talk_74 : decode cX7_talk 74 = .ok (.iadd, 1) := by decide +kernel
theorem dX7_talk_75 : decode cX7_talk 75 = .ok (.iaload, 1) := by decide +kernel
theorem dX7_talk_76 : decode cX7_talk 76 = .ok (.ireturn, 1) := by decide +kernel
theorem dX7_give_0 : decode cX7_give 0 = .ok (.iload_n 1, 1) := by decide +kernel
theorem dX7_give_1 : decode cX7_give 1 = .ok (.invokestatic 111, 3) := by decide +kernel
theorem dX7_give_4 : decode cX7_give 4 = .ok (.ifCond .eq 17, 3) := by decide +kernel
theorem dX7_give_7 : decode cX7_give 7 = .ok (.iload_n 2, 1) := by decide +kernel
theorem dX7_give_8 : decode cX7_give 8 = .ok (.bipush (-4), 2) := by decide +kernel
theorem dX7_give_10 : decode cX7_give 10 = .ok (.if_icmp .eq 13, 3) := by decide +kernel
theorem dX7_give_13 : decode cX7_give 13 = .ok (.aload_n 0, 1) := by decide +kernel
theorem dX7_give_14 : decode cX7_give 14 = .ok (.iload_n 2, 1) := by decide +kernel
theorem dX7_give_15 : decode cX7_give 15 = .ok (.invokevirtual 107, 3) := by decide +kernel
theorem dX7_give_18 : decode cX7_give 18 = .ok (.ifCond .ne 5, 3) := by decide +kernel
theorem dX7_give_21 : decode cX7_give 21 = .ok (.iconst (-1), 1) := by decide +kernel
theorem dX7_give_22 : decode cX7_give 22 = .ok (.ireturn, 1) := by decide +kernel
theorem dX7_give_23 : decode cX7_give 23 = .ok (.aload_n 0, 1) := by decide +kernel
theorem dX7_give_24 : decode cX7_give 24 = .ok (.getfield 17, 3) := by decide +kernel
theorem dX7_give_27 : decode cX7_give 27 = .ok (.bipush 20, 2) := by decide +kernel
theorem dX7_give_29 : decode cX7_give 29 = .ok (.iload_n 1, 1) := by decide +kernel
theorem dX7_give_30 : decode cX7_give 30 = .ok (.iadd, 1) := by decide +kernel
theorem dX7_give_31 : decode cX7_give 31 = .ok (.iaload, 1) := by decide +kernel
theorem dX7_give_32 : decode cX7_give 32 = .ok (.istore_n 3, 1) := by decide +kernel
theorem dX7_give_33 : decode cX7_give 33 = .ok (.iload_n 3, 1) := by decide +kernel
theorem dX7_give_34 : decode cX7_give 34 = .ok (.iload_n 2, 1) := by decide +kernel
theorem dX7_give_35 : decode cX7_give 35 = .ok (.if_icmp .ne 6, 3) := by decide +kernel
theorem dX7_give_38 : decode cX7_give 38 = .ok (.bipush (-2), 2) := by decide +kernel
theorem dX7_give_40 : decode cX7_give 40 = .ok (.ireturn, 1) := by decide +kernel
theorem dX7_give_41 : decode cX7_give 41 = .ok (.aload_n 0, 1) := by decide +kernel
theorem dX7_give_42 : decode cX7_give 42 = .ok (.invokevirtual 183, 3) := by decide +kernel
theorem dX7_give_45 : decode cX7_give 45 = .ok (.aload_n 0, 1) := by decide +kernel
theorem dX7_give_46 : decode cX7_give 46 = .ok (.getfield 17, 3) := by decide +kernel
theorem dX7_give_49 : decode cX7_give 49 = .ok (.bipush 20, 2) := by decide +kernel
theorem dX7_give_51 : decode cX7_give 51 = .ok (.iload_n 1, 1) := by decide +kernel
theorem dX7_give_52 : decode cX7_give 52 = .ok (.iadd, 1) := by decide +kernel
theorem dX7_give_53 : decode cX7_give 53 = .ok (.iload_n 2, 1) := by decide +kernel
theorem dX7_give_54 : decode cX7_give 54 = .ok (.iastore, 1) := by decide +kernel
theorem dX7_give_55 : decode cX7_give 55 = .ok (.iload_n 3, 1) := by decide +kernel
theorem dX7_give_56 : decode cX7_give 56 = .ok (.ireturn, 1) := by decide +kernel
theorem dX7_drift_0 : decode cX7_drift 0 = .ok (.iload_n 1, 1) := by decide +kernel
theorem dX7_drift_1 : decode cX7_drift 1 = .ok (.i2l, 1) := by decide +kernel
theorem dX7_drift_2 : decode cX7_drift 2 = .ok (.lconst 1, 1) := by decide +kernel
theorem dX7_drift_3 : decode cX7_drift 3 = .ok (.ldc2_w 181, 3) := by decide +kernel
theorem dX7_drift_6 : decode cX7_drift 6 = .ok (.invokestatic 63, 3) := by decide +kernel
theorem dX7_drift_9 : decode cX7_drift 9 = .ok (.ifCond .ne 5, 3) := by decide +kernel
theorem dX7_drift_12 : decode cX7_drift 12 = .ok (.iconst (-1), 1) := by decide +kernel
theorem dX7_drift_13 : decode cX7_drift 13 = .ok (.ireturn, 1) := by decide +kernel
theorem dX7_drift_14 : decode cX7_drift 14 = .ok (.aload_n 0, 1) := by decide +kernel
theorem dX7_drift_15 : decode cX7_drift 15 = .ok (.getfield 17, 3) := by decide +kernel
theorem dX7_drift_18 : decode cX7_drift 18 = .ok (.bipush 24, 2) := by decide +kernel
theorem dX7_drift_20 : decode cX7_drift 20 = .ok (.iaload, 1) := by decide +kernel
theorem dX7_drift_21 : decode cX7_drift 21 = .ok (.iload_n 1, 1) := by decide +kernel
theorem dX7_drift_22 : decode cX7_drift 22 = .ok (.iadd, 1) := by decide +kernel
theorem dX7_drift_23 : decode cX7_drift 23 = .ok (.sipush 9999, 3) := by decide +kernel
theorem dX7_drift_26 : decode cX7_drift 26 = .ok (.if_icmp .le 6, 3) := by decide +kernel
theorem dX7_drift_29 : decode cX7_drift 29 = .ok (.bipush (-3), 2) := by decide +kernel
theorem dX7_drift_31 : decode cX7_drift 31 = .ok (.ireturn, 1) := by decide +kernel
theorem dX7_drift_32 : decode cX7_drift 32 = .ok (.aload_n 0, 1) := by decide +kernel
theorem dX7_drift_33 : decode cX7_drift 33 = .ok (.getfield 17, 3) := by decide +kernel
theorem dX7_drift_36 : decode cX7_drift 36 = .ok (.bipush 25, 2) := by decide +kernel
theorem dX7_drift_38 : decode cX7_drift 38 = .ok (.iaload, 1) := by decide +kernel
theorem dX7_drift_39 : decode cX7_drift 39 = .ok (.istore_n 2, 1) := by decide +kernel
theorem dX7_drift_40 : decode cX7_drift 40 = .ok (.iconst 0, 1) := by decide +kernel
theorem dX7_drift_41 : decode cX7_drift 41 = .ok (.istore_n 3, 1) := by decide +kernel
theorem dX7_drift_42 : decode cX7_drift 42 = .ok (.iload_n 3, 1) := by decide +kernel
theorem dX7_drift_43 : decode cX7_drift 43 = .ok (.iload_n 1, 1) := by decide +kernel
theorem dX7_drift_44 : decode cX7_drift 44 = .ok (.if_icmp .ge 94, 3) := by decide +kernel
theorem dX7_drift_47 : decode cX7_drift 47 = .ok (.aload_n 0, 1) := by decide +kernel
theorem dX7_drift_48 : decode cX7_drift 48 = .ok (.invokevirtual 183, 3) := by decide +kernel
theorem dX7_drift_51 : decode cX7_drift 51 = .ok (.aload_n 0, 1) := by decide +kernel
theorem dX7_drift_52 : decode cX7_drift 52 = .ok (.invokevirtual 122, 3) := by decide +kernel
theorem dX7_drift_55 : decode cX7_drift 55 = .ok (.aload_n 0, 1) := by decide +kernel
theorem dX7_drift_56 : decode cX7_drift 56 = .ok (.getfield 17, 3) := by decide +kernel
theorem dX7_drift_59 : decode cX7_drift 59 = .ok (.bipush 26, 2) := by decide +kernel
theorem dX7_drift_61 : decode cX7_drift 61 = .ok (.iaload, 1) := by decide +kernel
theorem dX7_drift_62 : decode cX7_drift 62 = .ok (.i2l, 1) := by decide +kernel
theorem dX7_drift_63 : decode cX7_drift 63 = .ok (.ldc2_w 189, 3) := by decide +kernel
theorem dX7_drift_66 : decode cX7_drift 66 = .ok (.lmul, 1) := by decide +kernel
theorem dX7_drift_67 : decode cX7_drift 67 = .ok (.ldc2_w 191, 3) := by decide +kernel
theorem dX7_drift_70 : decode cX7_drift 70 = .ok (.ladd, 1) := by decide +kernel
theorem dX7_drift_71 : decode cX7_drift 71 = .ok (.ldc2_w 193, 3) := by decide +kernel
theorem dX7_drift_74 : decode cX7_drift 74 = .ok (.land, 1) := by decide +kernel
theorem dX7_drift_75 : decode cX7_drift 75 = .ok (.l2i, 1) := by decide +kernel
theorem dX7_drift_76 : decode cX7_drift 76 = .ok (.istore 4, 2) := by decide +kernel
theorem dX7_drift_78 : decode cX7_drift 78 = .ok (.aload_n 0, 1) := by decide +kernel
theorem dX7_drift_79 : decode cX7_drift 79 = .ok (.getfield 20, 3) := by decide +kernel
theorem dX7_drift_82 : decode cX7_drift 82 = .ok (.bipush 26, 2) := by decide +kernel
theorem dX7_drift_84 : decode cX7_drift 84 = .ok (.iload 4, 2) := by decide +kernel
theorem dX7_drift_86 : decode cX7_drift 86 = .ok (.iastore, 1) := by decide +kernel
theorem dX7_drift_87 : decode cX7_drift 87 = .ok (.aload_n 0, 1) := by decide +kernel
theorem dX7_drift_88 : decode cX7_drift 88 = .ok (.getfield 60, 3) := by decide +kernel
theorem dX7_drift_91 : decode cX7_drift 91 = .ok (.ifCond .le 33, 3) := by decide +kernel
theorem dX7_drift_94 : decode cX7_drift 94 = .ok (.aload_n 0, 1) := by decide +kernel
theorem dX7_drift_95 : decode cX7_drift 95 = .ok (.iload 4, 2) := by decide +kernel
theorem dX7_drift_97 : decode cX7_drift 97 = .ok (.ldc 195, 2) := by decide +kernel
theorem dX7_drift_99 : decode cX7_drift 99 = .ok (.idiv, 1) := by decide +kernel
theorem dX7_drift_100 : decode cX7_drift 100 = .ok (.aload_n 0, 1) := by decide +kernel
theorem dX7_drift_101 : decode cX7_drift 101 = .ok (.getfield 60, 3) := by decide +kernel
theorem dX7_drift_104 : decode cX7_drift 104 = .ok (.irem, 1) := by decide +kernel
theorem dX7_drift_105 : decode cX7_drift 105 = .ok (.iload 4, 2) := by decide +kernel
theorem dX7_drift_107 : decode cX7_drift 107 = .ok (.sipush 256, 3) := by decide +kernel
theorem dX7_drift_110 : decode cX7_drift 110 = .ok (.idiv, 1) := by decide +kernel
theorem dX7_drift_111 : decode cX7_drift 111 = .ok (.iconst 4, 1) := by decide +kernel
theorem dX7_drift_112 : decode cX7_drift 112 = .ok (.irem, 1) := by decide +kernel
theorem dX7_drift_113 : decode cX7_drift 113 = .ok (.iload 4, 2) := by decide +kernel
theorem dX7_drift_115 : decode cX7_drift 115 = .ok (.sipush 1024, 3) := by decide +kernel
theorem dX7_drift_118 : decode cX7_drift 118 = .ok (.idiv, 1) := by decide +kernel
theorem dX7_drift_119 : decode cX7_drift 119 = .ok (.iconst 4, 1) := by decide +kernel
theorem dX7_drift_120 : decode cX7_drift 120 = .ok (.irem, 1) := by decide +kernel
theorem dX7_drift_121 : decode cX7_drift 121 = .ok (.invokevirtual 89, 3) := by decide +kernel
theorem dX7_drift_124 : decode cX7_drift 124 = .ok (.aload_n 0, 1) := by decide +kernel
theorem dX7_drift_125 : decode cX7_drift 125 = .ok (.invokevirtual 97, 3) := by decide +kernel
theorem dX7_drift_128 : decode cX7_drift 128 = .ok (.aload_n 0, 1) := by decide +kernel
theorem dX7_drift_129 : decode cX7_drift 129 = .ok (.invokevirtual 186, 3) := by decide +kernel
theorem dX7_drift_132 : decode cX7_drift 132 = .ok (.iinc 3 1, 3) := by decide +kernel
theorem dX7_drift_135 : decode cX7_drift 135 = .ok (.goto (-93), 3) := by decide +kernel
theorem dX7_drift_138 : decode cX7_drift 138 = .ok (.aload_n 0, 1) := by decide +kernel
theorem dX7_drift_139 : decode cX7_drift 139 = .ok (.getfield 17, 3) := by decide +kernel
theorem dX7_drift_142 : decode cX7_drift 142 = .ok (.bipush 25, 2) := by decide +kernel
theorem dX7_drift_144 : decode cX7_drift 144 = .ok (.iaload, 1) := by decide +kernel
theorem dX7_drift_145 : decode cX7_drift 145 = .ok (.iload_n 2, 1) := by decide +kernel
theorem dX7_drift_146 : decode cX7_drift 146 = .ok (.isub, 1) := by decide +kernel
theorem dX7_drift_147 : decode cX7_drift 147 = .ok (.ireturn, 1) := by decide +kernel
theorem dX7_undo_0 : decode cX7_undo 0 = .ok (.aload_n 0, 1) := by decide +kernel
theorem dX7_undo_1 : decode cX7_undo 1 = .ok (.getfield 104, 3) := by decide +kernel
theorem dX7_undo_4 : decode cX7_undo 4 = .ok (.ifCond .ne 6, 3) := by decide +kernel
theorem dX7_undo_7 : decode cX7_undo 7 = .ok (.bipush (-4), 2) := by decide +kernel
theorem dX7_undo_9 : decode cX7_undo 9 = .ok (.ireturn, 1) := by decide +kernel
theorem dX7_undo_10 : decode cX7_undo 10 = .ok (.aload_n 0, 1) := by decide +kernel
theorem dX7_undo_11 : decode cX7_undo 11 = .ok (.dup, 1) := by decide +kernel
theorem dX7_undo_12 : decode cX7_undo 12 = .ok (.getfield 104, 3) := by decide +kernel
theorem dX7_undo_15 : decode cX7_undo 15 = .ok (.iconst 1, 1) := by decide +kernel
theorem dX7_undo_16 : decode cX7_undo 16 = .ok (.isub, 1) := by decide +kernel
theorem dX7_undo_17 : decode cX7_undo 17 = .ok (.putfield 104, 3) := by decide +kernel
theorem dX7_undo_20 : decode cX7_undo 20 = .ok (.iconst 0, 1) := by decide +kernel
theorem dX7_undo_21 : decode cX7_undo 21 = .ok (.istore_n 1, 1) := by decide +kernel
theorem dX7_undo_22 : decode cX7_undo 22 = .ok (.iload_n 1, 1) := by decide +kernel
theorem dX7_undo_23 : decode cX7_undo 23 = .ok (.bipush 27, 2) := by decide +kernel
theorem dX7_undo_25 : decode cX7_undo 25 = .ok (.if_icmp .ge 29, 3) := by decide +kernel
theorem dX7_undo_28 : decode cX7_undo 28 = .ok (.aload_n 0, 1) := by decide +kernel
theorem dX7_undo_29 : decode cX7_undo 29 = .ok (.getfield 17, 3) := by decide +kernel
theorem dX7_undo_32 : decode cX7_undo 32 = .ok (.iload_n 1, 1) := by decide +kernel
theorem dX7_undo_33 : decode cX7_undo 33 = .ok (.aload_n 0, 1) := by decide +kernel
theorem dX7_undo_34 : decode cX7_undo 34 = .ok (.getfield 23, 3) := by decide +kernel
theorem dX7_undo_37 : decode cX7_undo 37 = .ok (.bipush 27, 2) := by decide +kernel
theorem dX7_undo_39 : decode cX7_undo 39 = .ok (.aload_n 0, 1) := by decide +kernel
theorem dX7_undo_40 : decode cX7_undo 40 = .ok (.getfield 104, 3) := by decide +kernel
theorem dX7_undo_43 : decode cX7_undo 43 = .ok (.imul, 1) := by decide +kernel
theorem dX7_undo_44 : decode cX7_undo 44 = .ok (.iload_n 1, 1) := by decide +kernel
theorem dX7_undo_45 : decode cX7_undo 45 = .ok (.iadd, 1) := by decide +kernel
theorem dX7_undo_46 : decode cX7_undo 46 = .ok (.iaload, 1) := by decide +kernel
theorem dX7_undo_47 : decode cX7_undo 47 = .ok (.iastore, 1) := by decide +kernel
theorem dX7_undo_48 : decode cX7_undo 48 = .ok (.iinc 1 1, 3) := by decide +kernel
theorem dX7_undo_51 : decode cX7_undo 51 = .ok (.goto (-29), 3) := by decide +kernel
theorem dX7_undo_54 : decode cX7_undo 54 = .ok (.aload_n 0, 1) := by decide +kernel
theorem dX7_undo_55 : decode cX7_undo 55 = .ok (.getfield 104, 3) := by decide +kernel
theorem dX7_undo_58 : decode cX7_undo 58 = .ok (.ireturn, 1) := by decide +kernel
theorem dX7_seed_0 : decode cX7_seed 0 = .ok (.iload_n 1, 1) := by decide +kernel
theorem dX7_seed_1 : decode cX7_seed 1 = .ok (.ifCond .ge 5, 3) := by decide +kernel
theorem dX7_seed_4 : decode cX7_seed 4 = .ok (.iconst (-1), 1) := by decide +kernel
theorem dX7_seed_5 : decode cX7_seed 5 = .ok (.ireturn, 1) := by decide +kernel
theorem dX7_seed_6 : decode cX7_seed 6 = .ok (.aload_n 0, 1) := by decide +kernel
theorem dX7_seed_7 : decode cX7_seed 7 = .ok (.getfield 17, 3) := by decide +kernel
theorem dX7_seed_10 : decode cX7_seed 10 = .ok (.bipush 26, 2) := by decide +kernel
theorem dX7_seed_12 : decode cX7_seed 12 = .ok (.iaload, 1) := by decide +kernel
theorem dX7_seed_13 : decode cX7_seed 13 = .ok (.istore_n 2, 1) := by decide +kernel
theorem dX7_seed_14 : decode cX7_seed 14 = .ok (.aload_n 0, 1) := by decide +kernel
theorem dX7_seed_15 : decode cX7_seed 15 = .ok (.getfield 17, 3) := by decide +kernel
theorem dX7_seed_18 : decode cX7_seed 18 = .ok (.bipush 26, 2) := by decide +kernel
theorem dX7_seed_20 : decode cX7_seed 20 = .ok (.iload_n 1, 1) := by decide +kernel
theorem dX7_seed_21 : decode cX7_seed 21 = .ok (.iastore, 1) := by decide +kernel
theorem dX7_seed_22 : decode cX7_seed 22 = .ok (.iload_n 2, 1) := by decide +kernel
theorem dX7_seed_23 : decode cX7_seed 23 = .ok (.ireturn, 1) := by decide +kernel
theorem dX7_keeper_0 : decode cX7_keeper 0 = .ok (.iload_n 1, 1) := by decide +kernel
theorem dX7_keeper_1 : decode cX7_keeper 1 = .ok (.invokestatic 111, 3) := by decide +kernel
theorem dX7_keeper_4 : decode cX7_keeper 4 = .ok (.ifCond .eq 15, 3) := by decide +kernel
theorem dX7_keeper_7 : decode cX7_keeper 7 = .ok (.iload_n 2, 1) := by decide +kernel
theorem dX7_keeper_8 : decode cX7_keeper 8 = .ok (.i2l, 1) := by decide +kernel
theorem dX7_keeper_9 : decode cX7_keeper 9 = .ok (.lconst 0, 1) := by decide +kernel
theorem dX7_keeper_10 : decode cX7_keeper 10 = .ok (.ldc2_w 196, 3) := by decide +kernel
theorem dX7_keeper_13 : decode cX7_keeper 13 = .ok (.invokestatic 63, 3) := by decide +kernel
theorem dX7_keeper_16 : decode cX7_keeper 16 = .ok (.ifCond .ne 5, 3) := by decide +kernel
theorem dX7_keeper_19 : decode cX7_keeper 19 = .ok (.iconst (-1), 1) := by decide +kernel
theorem dX7_keeper_20 : decode cX7_keeper 20 = .ok (.ireturn, 1) := by decide +kernel
theorem dX7_keeper_21 : decode cX7_keeper 21 = .ok (.aload_n 0, 1) := by decide +kernel
theorem dX7_keeper_22 : decode cX7_keeper 22 = .ok (.invokevirtual 122, 3) := by decide +kernel
theorem dX7_keeper_25 : decode cX7_keeper 25 = .ok (.aload_n 0, 1) := by decide +kernel
theorem dX7_keeper_26 : decode cX7_keeper 26 = .ok (.iload_n 2, 1) := by decide +kernel
theorem dX7_keeper_27 : decode cX7_keeper 27 = .ok (.invokevirtual 198, 3) := by decide +kernel
theorem dX7_keeper_30 : decode cX7_keeper 30 = .ok (.aload_n 0, 1) := by decide +kernel
theorem dX7_keeper_31 : decode cX7_keeper 31 = .ok (.getfield 20, 3) := by decide +kernel
theorem dX7_keeper_34 : decode cX7_keeper 34 = .ok (.bipush 20, 2) := by decide +kernel
theorem dX7_keeper_36 : decode cX7_keeper 36 = .ok (.iload_n 1, 1) := by decide +kernel
theorem dX7_keeper_37 : decode cX7_keeper 37 = .ok (.iadd, 1) := by decide +kernel
theorem dX7_keeper_38 : decode cX7_keeper 38 = .ok (.iaload, 1) := by decide +kernel
theorem dX7_keeper_39 : decode cX7_keeper 39 = .ok (.ireturn, 1) := by decide +kernel
theorem dX7_ahead_0 : decode cX7_ahead 0 = .ok (.aload_n 0, 1) := by decide +kernel
theorem dX7_ahead_1 : decode cX7_ahead 1 = .ok (.iload_n 1, 1) := by decide +kernel
theorem dX7_ahead_2 : decode cX7_ahead 2 = .ok (.invokevirtual 107, 3) := by decide +kernel
theorem dX7_ahead_5 : decode cX7_ahead 5 = .ok (.ifCond .eq 22, 3) := by decide +kernel
theorem dX7_ahead_8 : decode cX7_ahead 8 = .ok (.iload_n 2, 1) := by decide +kernel
theorem dX7_ahead_9 : decode cX7_ahead 9 = .ok (.invokestatic 111, 3) := by decide +kernel
theorem dX7_ahead_12 : decode cX7_ahead 12 = .ok (.ifCond .eq 15, 3) := by decide +kernel
theorem dX7_ahead_15 : decode cX7_ahead 15 = .ok (.iload_n 3, 1) := by decide +kernel
theorem dX7_ahead_16 : decode cX7_ahead 16 = .ok (.i2l, 1) := by decide +kernel
theorem dX7_ahead_17 : decode cX7_ahead 17 = .ok (.lconst 0, 1) := by decide +kernel
theorem dX7_ahead_18 : decode cX7_ahead 18 = .ok (.ldc2_w 196, 3) := by decide +kernel
theorem dX7_ahead_21 : decode cX7_ahead 21 = .ok (.invokestatic 63, 3) := by decide +kernel
theorem dX7_ahead_24 : decode cX7_ahead 24 = .ok (.ifCond .ne 5, 3) := by decide +kernel
theorem dX7_ahead_27 : decode cX7_ahead 27 = .ok (.iconst (-1), 1) := by decide +kernel
theorem dX7_ahead_28 : decode cX7_ahead 28 = .ok (.ireturn, 1) := by decide +kernel
theorem dX7_ahead_29 : decode cX7_ahead 29 = .ok (.aload_n 0, 1) := by decide +kernel
theorem dX7_ahead_30 : decode cX7_ahead 30 = .ok (.invokevirtual 122, 3) := by decide +kernel
theorem dX7_ahead_33 : decode cX7_ahead 33 = .ok (.aload_n 0, 1) := by decide +kernel
theorem dX7_ahead_34 : decode cX7_ahead 34 = .ok (.iload_n 3, 1) := by decide +kernel
theorem dX7_ahead_35 : decode cX7_ahead 35 = .ok (.invokevirtual 198, 3) := by decide +kernel
theorem dX7_ahead_38 : decode cX7_ahead 38 = .ok (.aload_n 0, 1) := by decide +kernel
theorem dX7_ahead_39 : decode cX7_ahead 39 = .ok (.getfield 20, 3) := by decide +kernel
theorem dX7_ahead_42 : decode cX7_ahead 42 = .ok (.iconst 4, 1) := by decide +kernel
theorem dX7_ahead_43 : decode cX7_ahead 43 = .ok (.iload_n 1, 1) := by decide +kernel
theorem dX7_ahead_44 : decode cX7_ahead 44 = .ok (.imul, 1) := by decide +kernel
theorem dX7_ahead_45 : decode cX7_ahead 45 = .ok (.iload_n 2, 1) := by decide +kernel
theorem dX7_ahead_46 : decode cX7_ahead 46 = .ok (.iadd, 1) := by decide +kernel
theorem dX7_ahead_47 : decode cX7_ahead 47 = .ok (.iaload, 1) := by decide +kernel
theorem dX7_ahead_48 : decode cX7_ahead 48 = .ok (.ireturn, 1) := by decide +kernel
theorem dX7_then_0 : decode cX7_then 0 = .ok (.iload_n 1, 1) := by decide +kernel
theorem dX7_then_1 : decode cX7_then 1 = .ok (.i2l, 1) := by decide +kernel
theorem dX7_then_2 : decode cX7_then 2 = .ok (.lconst 0, 1) := by decide +kernel
theorem dX7_then_3 : decode cX7_then 3 = .ok (.ldc2_w 196, 3) := by decide +kernel
theorem dX7_then_6 : decode cX7_then 6 = .ok (.invokestatic 63, 3) := by decide +kernel
theorem dX7_then_9 : decode cX7_then 9 = .ok (.ifCond .ne 5, 3) := by decide +kernel
theorem dX7_then_12 : decode cX7_then 12 = .ok (.iconst (-1), 1) := by decide +kernel
theorem dX7_then_13 : decode cX7_then 13 = .ok (.ireturn, 1) := by decide +kernel
theorem dX7_then_14 : decode cX7_then 14 = .ok (.aload_n 0, 1) := by decide +kernel
theorem dX7_then_15 : decode cX7_then 15 = .ok (.invokevirtual 122, 3) := by decide +kernel
theorem dX7_then_18 : decode cX7_then 18 = .ok (.aload_n 0, 1) := by decide +kernel
theorem dX7_then_19 : decode cX7_then 19 = .ok (.iload_n 1, 1) := by decide +kernel
theorem dX7_then_20 : decode cX7_then 20 = .ok (.invokevirtual 198, 3) := by decide +kernel
theorem dX7_then_23 : decode cX7_then 23 = .ok (.aload_n 0, 1) := by decide +kernel
theorem dX7_then_24 : decode cX7_then 24 = .ok (.getfield 20, 3) := by decide +kernel
theorem dX7_then_27 : decode cX7_then 27 = .ok (.bipush 25, 2) := by decide +kernel
theorem dX7_then_29 : decode cX7_then 29 = .ok (.iaload, 1) := by decide +kernel
theorem dX7_then_30 : decode cX7_then 30 = .ok (.ireturn, 1) := by decide +kernel
theorem dX7_in_0 : decode cX7_in 0 = .ok (.iload_n 1, 1) := by decide +kernel
theorem dX7_in_1 : decode cX7_in 1 = .ok (.invokestatic 111, 3) := by decide +kernel
theorem dX7_in_4 : decode cX7_in 4 = .ok (.ifCond .ne 5, 3) := by decide +kernel
theorem dX7_in_7 : decode cX7_in 7 = .ok (.iconst (-1), 1) := by decide +kernel
theorem dX7_in_8 : decode cX7_in 8 = .ok (.ireturn, 1) := by decide +kernel
theorem dX7_in_9 : decode cX7_in 9 = .ok (.aload_n 0, 1) := by decide +kernel
theorem dX7_in_10 : decode cX7_in 10 = .ok (.invokevirtual 122, 3) := by decide +kernel
theorem dX7_in_13 : decode cX7_in 13 = .ok (.iconst 1, 1) := by decide +kernel
theorem dX7_in_14 : decode cX7_in 14 = .ok (.istore_n 2, 1) := by decide +kernel
theorem dX7_in_15 : decode cX7_in 15 = .ok (.iload_n 2, 1) := by decide +kernel
theorem dX7_in_16 : decode cX7_in 16 = .ok (.bipush 61, 2) := by decide +kernel
theorem dX7_in_18 : decode cX7_in 18 = .ok (.if_icmp .ge 27, 3) := by decide +kernel
theorem dX7_in_21 : decode cX7_in 21 = .ok (.aload_n 0, 1) := by decide +kernel
theorem dX7_in_22 : decode cX7_in 22 = .ok (.invokevirtual 97, 3) := by decide +kernel
theorem dX7_in_25 : decode cX7_in 25 = .ok (.aload_n 0, 1) := by decide +kernel
theorem dX7_in_26 : decode cX7_in 26 = .ok (.getfield 79, 3) := by decide +kernel
theorem dX7_in_29 : decode cX7_in 29 = .ok (.iload_n 1, 1) := by decide +kernel
theorem dX7_in_30 : decode cX7_in 30 = .ok (.ishr, 1) := by decide +kernel
theorem dX7_in_31 : decode cX7_in 31 = .ok (.iconst 1, 1) := by decide +kernel
theorem dX7_in_32 : decode cX7_in 32 = .ok (.iand, 1) := by decide +kernel
theorem dX7_in_33 : decode cX7_in 33 = .ok (.iconst 1, 1) := by decide +kernel
theorem dX7_in_34 : decode cX7_in 34 = .ok (.if_icmp .ne 5, 3) := by decide +kernel
theorem dX7_in_37 : decode cX7_in 37 = .ok (.iload_n 2, 1) := by decide +kernel
theorem dX7_in_38 : decode cX7_in 38 = .ok (.ireturn, 1) := by decide +kernel
theorem dX7_in_39 : decode cX7_in 39 = .ok (.iinc 2 1, 3) := by decide +kernel
theorem dX7_in_42 : decode cX7_in 42 = .ok (.goto (-27), 3) := by decide +kernel
theorem dX7_in_45 : decode cX7_in 45 = .ok (.bipush (-4), 2) := by decide +kernel
theorem dX7_in_47 : decode cX7_in 47 = .ok (.ireturn, 1) := by decide +kernel
theorem dX7_holds_0 : decode cX7_holds 0 = .ok (.iload_n 1, 1) := by decide +kernel
theorem dX7_holds_1 : decode cX7_holds 1 = .ok (.invokestatic 111, 3) := by decide +kernel
theorem dX7_holds_4 : decode cX7_holds 4 = .ok (.ifCond .ne 5, 3) := by decide +kernel
theorem dX7_holds_7 : decode cX7_holds 7 = .ok (.iconst (-1), 1) := by decide +kernel
theorem dX7_holds_8 : decode cX7_holds 8 = .ok (.ireturn, 1) := by decide +kernel
theorem dX7_holds_9 : decode cX7_holds 9 = .ok (.aload_n 0, 1) := by decide +kernel
theorem dX7_holds_10 : decode cX7_holds 10 = .ok (.invokevirtual 122, 3) := by decide +kernel
theorem dX7_holds_13 : decode cX7_holds 13 = .ok (.iconst 1, 1) := by decide +kernel
theorem dX7_holds_14 : decode cX7_holds 14 = .ok (.istore_n 2, 1) := by decide +kernel
theorem dX7_holds_15 : decode cX7_holds 15 = .ok (.iload_n 2, 1) := by decide +kernel
theorem dX7_holds_16 : decode cX7_holds 16 = .ok (.bipush 61, 2) := by decide +kernel
theorem dX7_holds_18 : decode cX7_holds 18 = .ok (.if_icmp .ge 48, 3) := by decide +kernel
theorem dX7_holds_21 : decode cX7_holds 21 = .ok (.aload_n 0, 1) := by decide +kernel
theorem dX7_holds_22 : decode cX7_holds 22 = .ok (.invokevirtual 97, 3) := by decide +kernel
theorem dX7_holds_25 : decode cX7_holds 25 = .ok (.aload_n 0, 1) := by decide +kernel
theorem dX7_holds_26 : decode cX7_holds 26 = .ok (.getfield 79, 3) := by decide +kernel
theorem dX7_holds_29 : decode cX7_holds 29 = .ok (.iload_n 1, 1) := by decide +kernel
theorem dX7_holds_30 : decode cX7_holds 30 = .ok (.ishr, 1) := by decide +kernel
theorem dX7_holds_31 : decode cX7_holds 31 = .ok (.iconst 1, 1) := by decide +kernel
theorem dX7_holds_32 : decode cX7_holds 32 = .ok (.iand, 1) := by decide +kernel
theorem dX7_holds_33 : decode cX7_holds 33 = .ok (.iconst 1, 1) := by decide +kernel
theorem dX7_holds_34 : decode cX7_holds 34 = .ok (.if_icmp .eq 24, 3) := by decide +kernel
theorem dX7_holds_37 : decode cX7_holds 37 = .ok (.aload_n 0, 1) := by decide +kernel
theorem dX7_holds_38 : decode cX7_holds 38 = .ok (.getfield 20, 3) := by decide +kernel
theorem dX7_holds_41 : decode cX7_holds 41 = .ok (.bipush 20, 2) := by decide +kernel
theorem dX7_holds_43 : decode cX7_holds 43 = .ok (.iload_n 1, 1) := by decide +kernel
theorem dX7_holds_44 : decode cX7_holds 44 = .ok (.iadd, 1) := by decide +kernel
theorem dX7_holds_45 : decode cX7_holds 45 = .ok (.iaload, 1) := by decide +kernel
theorem dX7_holds_46 : decode cX7_holds 46 = .ok (.aload_n 0, 1) := by decide +kernel
theorem dX7_holds_47 : decode cX7_holds 47 = .ok (.getfield 17, 3) := by decide +kernel
theorem dX7_holds_50 : decode cX7_holds 50 = .ok (.bipush 20, 2) := by decide +kernel
theorem dX7_holds_52 : decode cX7_holds 52 = .ok (.iload_n 1, 1) := by decide +kernel
theorem dX7_holds_53 : decode cX7_holds 53 = .ok (.iadd, 1) := by decide +kernel
theorem dX7_holds_54 : decode cX7_holds 54 = .ok (.iaload, 1) := by decide +kernel
theorem dX7_holds_55 : decode cX7_holds 55 = .ok (.if_icmp .eq 5, 3) := by decide +kernel
theorem dX7_holds_58 : decode cX7_holds 58 = .ok (.iload_n 2, 1) := by decide +kernel
theorem dX7_holds_59 : decode cX7_holds 59 = .ok (.ireturn, 1) := by decide +kernel
theorem dX7_holds_60 : decode cX7_holds 60 = .ok (.iinc 2 1, 3) := by decide +kernel
theorem dX7_holds_63 : decode cX7_holds 63 = .ok (.goto (-48), 3) := by decide +kernel
theorem dX7_holds_66 : decode cX7_holds 66 = .ok (.bipush (-4), 2) := by decide +kernel
theorem dX7_holds_68 : decode cX7_holds 68 = .ok (.ireturn, 1) := by decide +kernel
theorem dX7_had_0 : decode cX7_had 0 = .ok (.iload_n 1, 1) := by decide +kernel
theorem dX7_had_1 : decode cX7_had 1 = .ok (.invokestatic 111, 3) := by decide +kernel
theorem dX7_had_4 : decode cX7_had 4 = .ok (.ifCond .eq 15, 3) := by decide +kernel
theorem dX7_had_7 : decode cX7_had 7 = .ok (.iload_n 2, 1) := by decide +kernel
theorem dX7_had_8 : decode cX7_had 8 = .ok (.i2l, 1) := by decide +kernel
theorem dX7_had_9 : decode cX7_had 9 = .ok (.lconst 0, 1) := by decide +kernel
theorem dX7_had_10 : decode cX7_had 10 = .ok (.ldc2_w 196, 3) := by decide +kernel
theorem dX7_had_13 : decode cX7_had 13 = .ok (.invokestatic 63, 3) := by decide +kernel
theorem dX7_had_16 : decode cX7_had 16 = .ok (.ifCond .ne 5, 3) := by decide +kernel
theorem dX7_had_19 : decode cX7_had 19 = .ok (.iconst (-1), 1) := by decide +kernel
theorem dX7_had_20 : decode cX7_had 20 = .ok (.ireturn, 1) := by decide +kernel
theorem dX7_had_21 : decode cX7_had 21 = .ok (.aload_n 0, 1) := by decide +kernel
theorem dX7_had_22 : decode cX7_had 22 = .ok (.invokevirtual 122, 3) := by decide +kernel
theorem dX7_had_25 : decode cX7_had 25 = .ok (.aload_n 0, 1) := by decide +kernel
theorem dX7_had_26 : decode cX7_had 26 = .ok (.getfield 20, 3) := by decide +kernel
theorem dX7_had_29 : decode cX7_had 29 = .ok (.bipush 20, 2) := by decide +kernel
theorem dX7_had_31 : decode cX7_had 31 = .ok (.iload_n 1, 1) := by decide +kernel
theorem dX7_had_32 : decode cX7_had 32 = .ok (.iadd, 1) := by decide +kernel
theorem dX7_had_33 : decode cX7_had 33 = .ok (.iaload, 1) := by decide +kernel
theorem dX7_had_34 : decode cX7_had 34 = .ok (.bipush (-4), 2) := by decide +kernel
theorem dX7_had_36 : decode cX7_had 36 = .ok (.if_icmp .ne 7, 3) := by decide +kernel
theorem dX7_had_39 : decode cX7_had 39 = .ok (.iconst 0, 1) := by decide +kernel
theorem dX7_had_40 : decode cX7_had 40 = .ok (.goto 14, 3) := by decide +kernel
theorem dX7_had_43 : decode cX7_had 43 = .ok (.iconst 1, 1) := by decide +kernel
theorem dX7_had_44 : decode cX7_had 44 = .ok (.aload_n 0, 1) := by decide +kernel
theorem dX7_had_45 : decode cX7_had 45 = .ok (.getfield 20, 3) := by decide +kernel
theorem dX7_had_48 : decode cX7_had 48 = .ok (.bipush 20, 2) := by decide +kernel
theorem dX7_had_50 : decode cX7_had 50 = .ok (.iload_n 1, 1) := by decide +kernel
theorem dX7_had_51 : decode cX7_had 51 = .ok (.iadd, 1) := by decide +kernel
theorem dX7_had_52 : decode cX7_had 52 = .ok (.iaload, 1) := by decide +kernel
theorem dX7_had_53 : decode cX7_had 53 = .ok (.ishl, 1) := by decide +kernel
theorem dX7_had_54 : decode cX7_had 54 = .ok (.istore_n 3, 1) := by decide +kernel
theorem dX7_had_55 : decode cX7_had 55 = .ok (.iconst 0, 1) := by decide +kernel
theorem dX7_had_56 : decode cX7_had 56 = .ok (.istore 4, 2) := by decide +kernel
theorem dX7_had_58 : decode cX7_had 58 = .ok (.iload 4, 2) := by decide +kernel
theorem dX7_had_60 : decode cX7_had 60 = .ok (.iload_n 2, 1) := by decide +kernel
theorem dX7_had_61 : decode cX7_had 61 = .ok (.if_icmp .ge 45, 3) := by decide +kernel
theorem dX7_had_64 : decode cX7_had 64 = .ok (.aload_n 0, 1) := by decide +kernel
theorem dX7_had_65 : decode cX7_had 65 = .ok (.invokevirtual 97, 3) := by decide +kernel
theorem dX7_had_68 : decode cX7_had 68 = .ok (.iload_n 3, 1) := by decide +kernel
theorem dX7_had_69 : decode cX7_had 69 = .ok (.aload_n 0, 1) := by decide +kernel
theorem dX7_had_70 : decode cX7_had 70 = .ok (.getfield 20, 3) := by decide +kernel
theorem dX7_had_73 : decode cX7_had 73 = .ok (.bipush 20, 2) := by decide +kernel
theorem dX7_had_75 : decode cX7_had 75 = .ok (.iload_n 1, 1) := by decide +kernel
theorem dX7_had_76 : decode cX7_had 76 = .ok (.iadd, 1) := by decide +kernel
theorem dX7_had_77 : decode cX7_had 77 = .ok (.iaload, 1) := by decide +kernel
theorem dX7_had_78 : decode cX7_had 78 = .ok (.bipush (-4), 2) := by decide +kernel
theorem dX7_had_80 : decode cX7_had 80 = .ok (.if_icmp .ne 7, 3) := by decide +kernel
theorem dX7_had_83 : decode cX7_had 83 = .ok (.iconst 0, 1) := by decide +kernel
theorem dX7_had_84 : decode cX7_had 84 = .ok (.goto 14, 3) := by decide +kernel
theorem dX7_had_87 : decode cX7_had 87 = .ok (.iconst 1, 1) := by decide +kernel
theorem dX7_had_88 : decode cX7_had 88 = .ok (.aload_n 0, 1) := by decide +kernel
theorem dX7_had_89 : decode cX7_had 89 = .ok (.getfield 20, 3) := by decide +kernel
theorem dX7_had_92 : decode cX7_had 92 = .ok (.bipush 20, 2) := by decide +kernel
theorem dX7_had_94 : decode cX7_had 94 = .ok (.iload_n 1, 1) := by decide +kernel
theorem dX7_had_95 : decode cX7_had 95 = .ok (.iadd, 1) := by decide +kernel
theorem dX7_had_96 : decode cX7_had 96 = .ok (.iaload, 1) := by decide +kernel
theorem dX7_had_97 : decode cX7_had 97 = .ok (.ishl, 1) := by decide +kernel
theorem dX7_had_98 : decode cX7_had 98 = .ok (.ior, 1) := by decide +kernel
theorem dX7_had_99 : decode cX7_had 99 = .ok (.istore_n 3, 1) := by decide +kernel
theorem dX7_had_100 : decode cX7_had 100 = .ok (.iinc 4 1, 3) := by decide +kernel
theorem dX7_had_103 : decode cX7_had 103 = .ok (.goto (-45), 3) := by decide +kernel
theorem dX7_had_106 : decode cX7_had 106 = .ok (.iload_n 3, 1) := by decide +kernel
theorem dX7_had_107 : decode cX7_had 107 = .ok (.ireturn, 1) := by decide +kernel
theorem dX7_keep_0 : decode cX7_keep 0 = .ok (.iload_n 1, 1) := by decide +kernel
theorem dX7_keep_1 : decode cX7_keep 1 = .ok (.i2l, 1) := by decide +kernel
theorem dX7_keep_2 : decode cX7_keep 2 = .ok (.lconst 1, 1) := by decide +kernel
theorem dX7_keep_3 : decode cX7_keep 3 = .ok (.ldc2_w 201, 3) := by decide +kernel
theorem dX7_keep_6 : decode cX7_keep 6 = .ok (.invokestatic 63, 3) := by decide +kernel
theorem dX7_keep_9 : decode cX7_keep 9 = .ok (.ifCond .eq 17, 3) := by decide +kernel
theorem dX7_keep_12 : decode cX7_keep 12 = .ok (.iload_n 2, 1) := by decide +kernel
theorem dX7_keep_13 : decode cX7_keep 13 = .ok (.i2l, 1) := by decide +kernel
theorem dX7_keep_14 : decode cX7_keep 14 = .ok (.ldc2_w 203, 3) := by decide +kernel
theorem dX7_keep_17 : decode cX7_keep 17 = .ok (.ldc2_w 67, 3) := by decide +kernel
theorem dX7_keep_20 : decode cX7_keep 20 = .ok (.invokestatic 63, 3) := by decide +kernel
theorem dX7_keep_23 : decode cX7_keep 23 = .ok (.ifCond .ne 5, 3) := by decide +kernel
theorem dX7_keep_26 : decode cX7_keep 26 = .ok (.iconst (-1), 1) := by decide +kernel
theorem dX7_keep_27 : decode cX7_keep 27 = .ok (.ireturn, 1) := by decide +kernel
theorem dX7_keep_28 : decode cX7_keep 28 = .ok (.aload_n 0, 1) := by decide +kernel
theorem dX7_keep_29 : decode cX7_keep 29 = .ok (.getfield 60, 3) := by decide +kernel
theorem dX7_keep_32 : decode cX7_keep 32 = .ok (.aload_n 0, 1) := by decide +kernel
theorem dX7_keep_33 : decode cX7_keep 33 = .ok (.getfield 60, 3) := by decide +kernel
theorem dX7_keep_36 : decode cX7_keep 36 = .ok (.imul, 1) := by decide +kernel
theorem dX7_keep_37 : decode cX7_keep 37 = .ok (.aload_n 0, 1) := by decide +kernel
theorem dX7_keep_38 : decode cX7_keep 38 = .ok (.getfield 60, 3) := by decide +kernel
theorem dX7_keep_41 : decode cX7_keep 41 = .ok (.imul, 1) := by decide +kernel
theorem dX7_keep_42 : decode cX7_keep 42 = .ok (.aload_n 0, 1) := by decide +kernel
theorem dX7_keep_43 : decode cX7_keep 43 = .ok (.getfield 60, 3) := by decide +kernel
theorem dX7_keep_46 : decode cX7_keep 46 = .ok (.imul, 1) := by decide +kernel
theorem dX7_keep_47 : decode cX7_keep 47 = .ok (.istore_n 3, 1) := by decide +kernel
theorem dX7_keep_48 : decode cX7_keep 48 = .ok (.bipush (-4), 2) := by decide +kernel
theorem dX7_keep_50 : decode cX7_keep 50 = .ok (.istore 4, 2) := by decide +kernel
theorem dX7_keep_52 : decode cX7_keep 52 = .ok (.iconst 0, 1) := by decide +kernel
theorem dX7_keep_53 : decode cX7_keep 53 = .ok (.istore 5, 2) := by decide +kernel
theorem dX7_keep_55 : decode cX7_keep 55 = .ok (.iconst 0, 1) := by decide +kernel
theorem dX7_keep_56 : decode cX7_keep 56 = .ok (.istore 6, 2) := by decide +kernel
theorem dX7_keep_58 : decode cX7_keep 58 = .ok (.iconst 0, 1) := by decide +kernel
theorem dX7_keep_59 : decode cX7_keep 59 = .ok (.istore 7, 2) := by decide +kernel
theorem dX7_keep_61 : decode cX7_keep 61 = .ok (.iload 7, 2) := by decide +kernel
theorem dX7_keep_63 : decode cX7_keep 63 = .ok (.iload_n 3, 1) := by decide +kernel
theorem dX7_keep_64 : decode cX7_keep 64 = .ok (.if_icmp .ge 189, 3) := by decide +kernel
theorem dX7_keep_67 : decode cX7_keep 67 = .ok (.aload_n 0, 1) := by decide +kernel
theorem dX7_keep_68 : decode cX7_keep 68 = .ok (.invokevirtual 122, 3) := by decide +kernel
theorem dX7_keep_71 : decode cX7_keep 71 = .ok (.iload 7, 2) := by decide +kernel
theorem dX7_keep_73 : decode cX7_keep 73 = .ok (.istore 8, 2) := by decide +kernel
theorem dX7_keep_75 : decode cX7_keep 75 = .ok (.iconst 0, 1) := by decide +kernel
theorem dX7_keep_76 : decode cX7_keep 76 = .ok (.istore 9, 2) := by decide +kernel
theorem dX7_keep_78 : decode cX7_keep 78 = .ok (.iconst 3, 1) := by decide +kernel
theorem dX7_keep_79 : decode cX7_keep 79 = .ok (.istore 10, 2) := by decide +kernel
theorem dX7_keep_81 : decode cX7_keep 81 = .ok (.iload 10, 2) := by decide +kernel
theorem dX7_keep_83 : decode cX7_keep 83 = .ok (.ifCond .lt 65, 3) := by decide +kernel
theorem dX7_keep_86 : decode cX7_keep 86 = .ok (.iload 9, 2) := by decide +kernel
theorem dX7_keep_88 : decode cX7_keep 88 = .ok (.aload_n 0, 1) := by decide +kernel
theorem dX7_keep_89 : decode cX7_keep 89 = .ok (.getfield 17, 3) := by decide +kernel
theorem dX7_keep_92 : decode cX7_keep 92 = .ok (.bipush 20, 2) := by decide +kernel
theorem dX7_keep_94 : decode cX7_keep 94 = .ok (.iload 10, 2) := by decide +kernel
theorem dX7_keep_96 : decode cX7_keep 96 = .ok (.iadd, 1) := by decide +kernel
theorem dX7_keep_97 : decode cX7_keep 97 = .ok (.iaload, 1) := by decide +kernel
theorem dX7_keep_98 : decode cX7_keep 98 = .ok (.iload 8, 2) := by decide +kernel
theorem dX7_keep_100 : decode cX7_keep 100 = .ok (.aload_n 0, 1) := by decide +kernel
theorem dX7_keep_101 : decode cX7_keep 101 = .ok (.getfield 60, 3) := by decide +kernel
theorem dX7_keep_104 : decode cX7_keep 104 = .ok (.irem, 1) := by decide +kernel
theorem dX7_keep_105 : decode cX7_keep 105 = .ok (.if_icmp .ne 7, 3) := by decide +kernel
theorem dX7_keep_108 : decode cX7_keep 108 = .ok (.iconst 0, 1) := by decide +kernel
theorem dX7_keep_109 : decode cX7_keep 109 = .ok (.goto 4, 3) := by decide +kernel
theorem dX7_keep_112 : decode cX7_keep 112 = .ok (.iconst 1, 1) := by decide +kernel
theorem dX7_keep_113 : decode cX7_keep 113 = .ok (.iadd, 1) := by decide +kernel
theorem dX7_keep_114 : decode cX7_keep 114 = .ok (.istore 9, 2) := by decide +kernel
theorem dX7_keep_116 : decode cX7_keep 116 = .ok (.aload_n 0, 1) := by decide +kernel
theorem dX7_keep_117 : decode cX7_keep 117 = .ok (.getfield 20, 3) := by decide +kernel
theorem dX7_keep_120 : decode cX7_keep 120 = .ok (.bipush 20, 2) := by decide +kernel
theorem dX7_keep_122 : decode cX7_keep 122 = .ok (.iload 10, 2) := by decide +kernel
theorem dX7_keep_124 : decode cX7_keep 124 = .ok (.iadd, 1) := by decide +kernel
theorem dX7_keep_125 : decode cX7_keep 125 = .ok (.iload 8, 2) := by decide +kernel
theorem dX7_keep_127 : decode cX7_keep 127 = .ok (.aload_n 0, 1) := by decide +kernel
theorem dX7_keep_128 : decode cX7_keep 128 = .ok (.getfield 60, 3) := by decide +kernel
theorem dX7_keep_131 : decode cX7_keep 131 = .ok (.irem, 1) := by decide +kernel
theorem dX7_keep_132 : decode cX7_keep 132 = .ok (.iastore, 1) := by decide +kernel
theorem dX7_keep_133 : decode cX7_keep 133 = .ok (.iload 8, 2) := by decide +kernel
theorem dX7_keep_135 : decode cX7_keep 135 = .ok (.aload_n 0, 1) := by decide +kernel
theorem dX7_keep_136 : decode cX7_keep 136 = .ok (.getfield 60, 3) := by decide +kernel
theorem dX7_keep_139 : decode cX7_keep 139 = .ok (.idiv, 1) := by decide +kernel
theorem dX7_keep_140 : decode cX7_keep 140 = .ok (.istore 8, 2) := by decide +kernel
theorem dX7_keep_142 : decode cX7_keep 142 = .ok (.iinc 10 (-1), 3) := by decide +kernel
theorem dX7_keep_145 : decode cX7_keep 145 = .ok (.goto (-64), 3) := by decide +kernel
theorem dX7_keep_148 : decode cX7_keep 148 = .ok (.aload_n 0, 1) := by decide +kernel
theorem dX7_keep_149 : decode cX7_keep 149 = .ok (.iload_n 1, 1) := by decide +kernel
theorem dX7_keep_150 : decode cX7_keep 150 = .ok (.invokevirtual 198, 3) := by decide +kernel
theorem dX7_keep_153 : decode cX7_keep 153 = .ok (.aload_n 0, 1) := by decide +kernel
theorem dX7_keep_154 : decode cX7_keep 154 = .ok (.getfield 20, 3) := by decide +kernel
theorem dX7_keep_157 : decode cX7_keep 157 = .ok (.bipush 25, 2) := by decide +kernel
theorem dX7_keep_159 : decode cX7_keep 159 = .ok (.iaload, 1) := by decide +kernel
theorem dX7_keep_160 : decode cX7_keep 160 = .ok (.aload_n 0, 1) := by decide +kernel
theorem dX7_keep_161 : decode cX7_keep 161 = .ok (.getfield 17, 3) := by decide +kernel
theorem dX7_keep_164 : decode cX7_keep 164 = .ok (.bipush 25, 2) := by decide +kernel
theorem dX7_keep_166 : decode cX7_keep 166 = .ok (.iaload, 1) := by decide +kernel
theorem dX7_keep_167 : decode cX7_keep 167 = .ok (.isub, 1) := by decide +kernel
theorem dX7_keep_168 : decode cX7_keep 168 = .ok (.istore 10, 2) := by decide +kernel
theorem dX7_keep_170 : decode cX7_keep 170 = .ok (.iload 4, 2) := by decide +kernel
theorem dX7_keep_172 : decode cX7_keep 172 = .ok (.bipush (-4), 2) := by decide +kernel
theorem dX7_keep_174 : decode cX7_keep 174 = .ok (.if_icmp .eq 24, 3) := by decide +kernel
theorem dX7_keep_177 : decode cX7_keep 177 = .ok (.iload 10, 2) := by decide +kernel
theorem dX7_keep_179 : decode cX7_keep 179 = .ok (.iload 5, 2) := by decide +kernel
theorem dX7_keep_181 : decode cX7_keep 181 = .ok (.if_icmp .lt 17, 3) := by decide +kernel
theorem dX7_keep_184 : decode cX7_keep 184 = .ok (.iload 10, 2) := by decide +kernel
theorem dX7_keep_186 : decode cX7_keep 186 = .ok (.iload 5, 2) := by decide +kernel
theorem dX7_keep_188 : decode cX7_keep 188 = .ok (.if_icmp .ne 14, 3) := by decide +kernel
theorem dX7_keep_191 : decode cX7_keep 191 = .ok (.iload 9, 2) := by decide +kernel
theorem dX7_keep_193 : decode cX7_keep 193 = .ok (.iload 6, 2) := by decide +kernel
theorem dX7_keep_195 : decode cX7_keep 195 = .ok (.if_icmp .ge 7, 3) := by decide +kernel
theorem dX7_keep_198 : decode cX7_keep 198 = .ok (.iconst 1, 1) := by decide +kernel
theorem dX7_keep_199 : decode cX7_keep 199 = .ok (.goto 4, 3) := by decide +kernel
theorem dX7_keep_202 : decode cX7_keep 202 = .ok (.iconst 0, 1) := by decide +kernel
theorem dX7_keep_203 : decode cX7_keep 203 = .ok (.istore 11, 2) := by decide +kernel
theorem dX7_keep_205 : decode cX7_keep 205 = .ok (.iload 11, 2) := by decide +kernel
theorem dX7_keep_207 : decode cX7_keep 207 = .ok (.ifCond .eq 8, 3) := by decide +kernel
theorem dX7_keep_210 : decode cX7_keep 210 = .ok (.iload 7, 2) := by decide +kernel
theorem dX7_keep_212 : decode cX7_keep 212 = .ok (.goto 5, 3) := by decide +kernel
theorem dX7_keep_215 : decode cX7_keep 215 = .ok (.iload 4, 2) := by decide +kernel
theorem dX7_keep_217 : decode cX7_keep 217 = .ok (.istore 4, 2) := by decide +kernel
theorem dX7_keep_219 : decode cX7_keep 219 = .ok (.iload 11, 2) := by decide +kernel
theorem dX7_keep_221 : decode cX7_keep 221 = .ok (.ifCond .eq 8, 3) := by decide +kernel
theorem dX7_keep_224 : decode cX7_keep 224 = .ok (.iload 10, 2) := by decide +kernel
theorem dX7_keep_226 : decode cX7_keep 226 = .ok (.goto 5, 3) := by decide +kernel
theorem dX7_keep_229 : decode cX7_keep 229 = .ok (.iload 5, 2) := by decide +kernel
theorem dX7_keep_231 : decode cX7_keep 231 = .ok (.istore 5, 2) := by decide +kernel
theorem dX7_keep_233 : decode cX7_keep 233 = .ok (.iload 11, 2) := by decide +kernel
theorem dX7_keep_235 : decode cX7_keep 235 = .ok (.ifCond .eq 8, 3) := by decide +kernel
theorem dX7_keep_238 : decode cX7_keep 238 = .ok (.iload 9, 2) := by decide +kernel
theorem dX7_keep_240 : decode cX7_keep 240 = .ok (.goto 5, 3) := by decide +kernel
theorem dX7_keep_243 : decode cX7_keep 243 = .ok (.iload 6, 2) := by decide +kernel
theorem dX7_keep_245 : decode cX7_keep 245 = .ok (.istore 6, 2) := by decide +kernel
theorem dX7_keep_247 : decode cX7_keep 247 = .ok (.iinc 7 1, 3) := by decide +kernel
theorem dX7_keep_250 : decode cX7_keep 250 = .ok (.goto (-189), 3) := by decide +kernel
theorem dX7_keep_253 : decode cX7_keep 253 = .ok (.iload 4, 2) := by decide +kernel
theorem dX7_keep_255 : decode cX7_keep 255 = .ok (.bipush (-4), 2) := by decide +kernel
theorem dX7_keep_257 : decode cX7_keep 257 = .ok (.if_icmp .ne 6, 3) := by decide +kernel
theorem dX7_keep_260 : decode cX7_keep 260 = .ok (.bipush (-4), 2) := by decide +kernel
theorem dX7_keep_262 : decode cX7_keep 262 = .ok (.ireturn, 1) := by decide +kernel
theorem dX7_keep_263 : decode cX7_keep 263 = .ok (.iload_n 2, 1) := by decide +kernel
theorem dX7_keep_264 : decode cX7_keep 264 = .ok (.ifCond .ne 20, 3) := by decide +kernel
theorem dX7_keep_267 : decode cX7_keep 267 = .ok (.aload_n 0, 1) := by decide +kernel
theorem dX7_keep_268 : decode cX7_keep 268 = .ok (.getfield 60, 3) := by decide +kernel
theorem dX7_keep_271 : decode cX7_keep 271 = .ok (.aload_n 0, 1) := by decide +kernel
theorem dX7_keep_272 : decode cX7_keep 272 = .ok (.getfield 60, 3) := by decide +kernel
theorem dX7_keep_275 : decode cX7_keep 275 = .ok (.imul, 1) := by decide +kernel
theorem dX7_keep_276 : decode cX7_keep 276 = .ok (.aload_n 0, 1) := by decide +kernel
theorem dX7_keep_277 : decode cX7_keep 277 = .ok (.getfield 60, 3) := by decide +kernel
theorem dX7_keep_280 : decode cX7_keep 280 = .ok (.imul, 1) := by decide +kernel
theorem dX7_keep_281 : decode cX7_keep 281 = .ok (.goto 33, 3) := by decide +kernel
theorem dX7_keep_284 : decode cX7_keep 284 = .ok (.iload_n 2, 1) := by decide +kernel
theorem dX7_keep_285 : decode cX7_keep 285 = .ok (.iconst 1, 1) := by decide +kernel
theorem dX7_keep_286 : decode cX7_keep 286 = .ok (.if_icmp .ne 15, 3) := by decide +kernel
theorem dX7_keep_289 : decode cX7_keep 289 = .ok (.aload_n 0, 1) := by decide +kernel
theorem dX7_keep_290 : decode cX7_keep 290 = .ok (.getfield 60, 3) := by decide +kernel
theorem dX7_keep_293 : decode cX7_keep 293 = .ok (.aload_n 0, 1) := by decide +kernel
theorem dX7_keep_294 : decode cX7_keep 294 = .ok (.getfield 60, 3) := by decide +kernel
theorem dX7_keep_297 : decode cX7_keep 297 = .ok (.imul, 1) := by decide +kernel
theorem dX7_keep_298 : decode cX7_keep 298 = .ok (.goto 16, 3) := by decide +kernel
theorem dX7_keep_301 : decode cX7_keep 301 = .ok (.iload_n 2, 1) := by decide +kernel
theorem dX7_keep_302 : decode cX7_keep 302 = .ok (.iconst 2, 1) := by decide +kernel
theorem dX7_keep_303 : decode cX7_keep 303 = .ok (.if_icmp .ne 10, 3) := by decide +kernel
theorem dX7_keep_306 : decode cX7_keep 306 = .ok (.aload_n 0, 1) := by decide +kernel
theorem dX7_keep_307 : decode cX7_keep 307 = .ok (.getfield 60, 3) := by decide +kernel
theorem dX7_keep_310 : decode cX7_keep 310 = .ok (.goto 4, 3) := by decide +kernel
theorem dX7_keep_313 : decode cX7_keep 313 = .ok (.iconst 1, 1) := by decide +kernel
theorem dX7_keep_314 : decode cX7_keep 314 = .ok (.istore 7, 2) := by decide +kernel
theorem dX7_keep_316 : decode cX7_keep 316 = .ok (.iload_n 2, 1) := by decide +kernel
theorem dX7_keep_317 : decode cX7_keep 317 = .ok (.iconst (-1), 1) := by decide +kernel
theorem dX7_keep_318 : decode cX7_keep 318 = .ok (.if_icmp .ne 8, 3) := by decide +kernel
theorem dX7_keep_321 : decode cX7_keep 321 = .ok (.iload 5, 2) := by decide +kernel
theorem dX7_keep_323 : decode cX7_keep 323 = .ok (.goto 24, 3) := by decide +kernel
theorem dX7_keep_326 : decode cX7_keep 326 = .ok (.iload_n 2, 1) := by decide +kernel
theorem dX7_keep_327 : decode cX7_keep 327 = .ok (.bipush (-2), 2) := by decide +kernel
theorem dX7_keep_329 : decode cX7_keep 329 = .ok (.if_icmp .ne 8, 3) := by decide +kernel
theorem dX7_keep_332 : decode cX7_keep 332 = .ok (.iload 6, 2) := by decide +kernel
theorem dX7_keep_334 : decode cX7_keep 334 = .ok (.goto 13, 3) := by decide +kernel
theorem dX7_keep_337 : decode cX7_keep 337 = .ok (.iload 4, 2) := by decide +kernel
theorem dX7_keep_339 : decode cX7_keep 339 = .ok (.iload 7, 2) := by decide +kernel
theorem dX7_keep_341 : decode cX7_keep 341 = .ok (.idiv, 1) := by decide +kernel
theorem dX7_keep_342 : decode cX7_keep 342 = .ok (.aload_n 0, 1) := by decide +kernel
theorem dX7_keep_343 : decode cX7_keep 343 = .ok (.getfield 60, 3) := by decide +kernel
theorem dX7_keep_346 : decode cX7_keep 346 = .ok (.irem, 1) := by decide +kernel
theorem dX7_keep_347 : decode cX7_keep 347 = .ok (.ireturn, 1) := by decide +kernel
theorem dX7_tempt_0 : decode cX7_tempt 0 = .ok (.iload_n 1, 1) := by decide +kernel
theorem dX7_tempt_1 : decode cX7_tempt 1 = .ok (.invokestatic 111, 3) := by decide +kernel
theorem dX7_tempt_4 : decode cX7_tempt 4 = .ok (.ifCond .eq 15, 3) := by decide +kernel
theorem dX7_tempt_7 : decode cX7_tempt 7 = .ok (.iload_n 2, 1) := by decide +kernel
theorem dX7_tempt_8 : decode cX7_tempt 8 = .ok (.i2l, 1) := by decide +kernel
theorem dX7_tempt_9 : decode cX7_tempt 9 = .ok (.lconst 1, 1) := by decide +kernel
theorem dX7_tempt_10 : decode cX7_tempt 10 = .ok (.ldc2_w 201, 3) := by decide +kernel
theorem dX7_tempt_13 : decode cX7_tempt 13 = .ok (.invokestatic 63, 3) := by decide +kernel
theorem dX7_tempt_16 : decode cX7_tempt 16 = .ok (.ifCond .ne 5, 3) := by decide +kernel
theorem dX7_tempt_19 : decode cX7_tempt 19 = .ok (.iconst (-1), 1) := by decide +kernel
theorem dX7_tempt_20 : decode cX7_tempt 20 = .ok (.ireturn, 1) := by decide +kernel
theorem dX7_tempt_21 : decode cX7_tempt 21 = .ok (.iconst 0, 1) := by decide +kernel
theorem dX7_tempt_22 : decode cX7_tempt 22 = .ok (.istore_n 3, 1) := by decide +kernel
theorem dX7_tempt_23 : decode cX7_tempt 23 = .ok (.iload_n 3, 1) := by decide +kernel
theorem dX7_tempt_24 : decode cX7_tempt 24 = .ok (.bipush 21, 2) := by decide +kernel
theorem dX7_tempt_26 : decode cX7_tempt 26 = .ok (.if_icmp .ge 95, 3) := by decide +kernel
theorem dX7_tempt_29 : decode cX7_tempt 29 = .ok (.aload_n 0, 1) := by decide +kernel
theorem dX7_tempt_30 : decode cX7_tempt 30 = .ok (.getfield 17, 3) := by decide +kernel
theorem dX7_tempt_33 : decode cX7_tempt 33 = .ok (.bipush 20, 2) := by decide +kernel
theorem dX7_tempt_35 : decode cX7_tempt 35 = .ok (.iload_n 1, 1) := by decide +kernel
theorem dX7_tempt_36 : decode cX7_tempt 36 = .ok (.iadd, 1) := by decide +kernel
theorem dX7_tempt_37 : decode cX7_tempt 37 = .ok (.iaload, 1) := by decide +kernel
theorem dX7_tempt_38 : decode cX7_tempt 38 = .ok (.bipush (-4), 2) := by decide +kernel
theorem dX7_tempt_40 : decode cX7_tempt 40 = .ok (.if_icmp .eq 81, 3) := by decide +kernel
theorem dX7_tempt_43 : decode cX7_tempt 43 = .ok (.aload_n 0, 1) := by decide +kernel
theorem dX7_tempt_44 : decode cX7_tempt 44 = .ok (.invokevirtual 122, 3) := by decide +kernel
theorem dX7_tempt_47 : decode cX7_tempt 47 = .ok (.aload_n 0, 1) := by decide +kernel
theorem dX7_tempt_48 : decode cX7_tempt 48 = .ok (.aload_n 0, 1) := by decide +kernel
theorem dX7_tempt_49 : decode cX7_tempt 49 = .ok (.getfield 17, 3) := by decide +kernel
theorem dX7_tempt_52 : decode cX7_tempt 52 = .ok (.bipush 20, 2) := by decide +kernel
theorem dX7_tempt_54 : decode cX7_tempt 54 = .ok (.iload_n 1, 1) := by decide +kernel
theorem dX7_tempt_55 : decode cX7_tempt 55 = .ok (.iadd, 1) := by decide +kernel
theorem dX7_tempt_56 : decode cX7_tempt 56 = .ok (.iaload, 1) := by decide +kernel
theorem dX7_tempt_57 : decode cX7_tempt 57 = .ok (.iload_n 1, 1) := by decide +kernel
theorem dX7_tempt_58 : decode cX7_tempt 58 = .ok (.iload_n 3, 1) := by decide +kernel
theorem dX7_tempt_59 : decode cX7_tempt 59 = .ok (.invokevirtual 89, 3) := by decide +kernel
theorem dX7_tempt_62 : decode cX7_tempt 62 = .ok (.iconst 0, 1) := by decide +kernel
theorem dX7_tempt_63 : decode cX7_tempt 63 = .ok (.istore 4, 2) := by decide +kernel
theorem dX7_tempt_65 : decode cX7_tempt 65 = .ok (.iconst 0, 1) := by decide +kernel
theorem dX7_tempt_66 : decode cX7_tempt 66 = .ok (.istore 5, 2) := by decide +kernel
theorem dX7_tempt_68 : decode cX7_tempt 68 = .ok (.iload 5, 2) := by decide +kernel
theorem dX7_tempt_70 : decode cX7_tempt 70 = .ok (.iload_n 2, 1) := by decide +kernel
theorem dX7_tempt_71 : decode cX7_tempt 71 = .ok (.if_icmp .ge 37, 3) := by decide +kernel
theorem dX7_tempt_74 : decode cX7_tempt 74 = .ok (.aload_n 0, 1) := by decide +kernel
theorem dX7_tempt_75 : decode cX7_tempt 75 = .ok (.invokevirtual 97, 3) := by decide +kernel
theorem dX7_tempt_78 : decode cX7_tempt 78 = .ok (.iload 4, 2) := by decide +kernel
theorem dX7_tempt_80 : decode cX7_tempt 80 = .ok (.ifCond .ne 15, 3) := by decide +kernel
theorem dX7_tempt_83 : decode cX7_tempt 83 = .ok (.aload_n 0, 1) := by decide +kernel
theorem dX7_tempt_84 : decode cX7_tempt 84 = .ok (.getfield 79, 3) := by decide +kernel
theorem dX7_tempt_87 : decode cX7_tempt 87 = .ok (.iload_n 1, 1) := by decide +kernel
theorem dX7_tempt_88 : decode cX7_tempt 88 = .ok (.ishr, 1) := by decide +kernel
theorem dX7_tempt_89 : decode cX7_tempt 89 = .ok (.iconst 1, 1) := by decide +kernel
theorem dX7_tempt_90 : decode cX7_tempt 90 = .ok (.iand, 1) := by decide +kernel
theorem dX7_tempt_91 : decode cX7_tempt 91 = .ok (.iconst 1, 1) := by decide +kernel
theorem dX7_tempt_92 : decode cX7_tempt 92 = .ok (.if_icmp .ne 7, 3) := by decide +kernel
theorem dX7_tempt_95 : decode cX7_tempt 95 = .ok (.iconst 1, 1) := by decide +kernel
theorem dX7_tempt_96 : decode cX7_tempt 96 = .ok (.goto 4, 3) := by decide +kernel
theorem dX7_tempt_99 : decode cX7_tempt 99 = .ok (.iconst 0, 1) := by decide +kernel
theorem dX7_tempt_100 : decode cX7_tempt 100 = .ok (.istore 4, 2) := by decide +kernel
theorem dX7_tempt_102 : decode cX7_tempt 102 = .ok (.iinc 5 1, 3) := by decide +kernel
theorem dX7_tempt_105 : decode cX7_tempt 105 = .ok (.goto (-37), 3) := by decide +kernel
theorem dX7_tempt_108 : decode cX7_tempt 108 = .ok (.iload 4, 2) := by decide +kernel
theorem dX7_tempt_110 : decode cX7_tempt 110 = .ok (.ifCond .eq 5, 3) := by decide +kernel
theorem dX7_tempt_113 : decode cX7_tempt 113 = .ok (.iload_n 3, 1) := by decide +kernel
theorem dX7_tempt_114 : decode cX7_tempt 114 = .ok (.ireturn, 1) := by decide +kernel
theorem dX7_tempt_115 : decode cX7_tempt 115 = .ok (.iinc 3 1, 3) := by decide +kernel
theorem dX7_tempt_118 : decode cX7_tempt 118 = .ok (.goto (-95), 3) := by decide +kernel
theorem dX7_tempt_121 : decode cX7_tempt 121 = .ok (.bipush (-4), 2) := by decide +kernel
theorem dX7_tempt_123 : decode cX7_tempt 123 = .ok (.ireturn, 1) := by decide +kernel
theorem dX7_strict_0 : decode cX7_strict 0 = .ok (.iload_n 1, 1) := by decide +kernel
theorem dX7_strict_1 : decode cX7_strict 1 = .ok (.i2l, 1) := by decide +kernel
theorem dX7_strict_2 : decode cX7_strict 2 = .ok (.lconst 1, 1) := by decide +kernel
theorem dX7_strict_3 : decode cX7_strict 3 = .ok (.ldc2_w 201, 3) := by decide +kernel
theorem dX7_strict_6 : decode cX7_strict 6 = .ok (.invokestatic 63, 3) := by decide +kernel
theorem dX7_strict_9 : decode cX7_strict 9 = .ok (.ifCond .ne 5, 3) := by decide +kernel
theorem dX7_strict_12 : decode cX7_strict 12 = .ok (.iconst (-1), 1) := by decide +kernel
theorem dX7_strict_13 : decode cX7_strict 13 = .ok (.ireturn, 1) := by decide +kernel
theorem dX7_strict_14 : decode cX7_strict 14 = .ok (.aload_n 0, 1) := by decide +kernel
theorem dX7_strict_15 : decode cX7_strict 15 = .ok (.getfield 7, 3) := by decide +kernel
theorem dX7_strict_18 : decode cX7_strict 18 = .ok (.istore_n 2, 1) := by decide +kernel
theorem dX7_strict_19 : decode cX7_strict 19 = .ok (.bipush (-4), 2) := by decide +kernel
theorem dX7_strict_21 : decode cX7_strict 21 = .ok (.istore_n 3, 1) := by decide +kernel
theorem dX7_strict_22 : decode cX7_strict 22 = .ok (.aload_n 0, 1) := by decide +kernel
theorem dX7_strict_23 : decode cX7_strict 23 = .ok (.bipush 20, 2) := by decide +kernel
theorem dX7_strict_25 : decode cX7_strict 25 = .ok (.putfield 7, 3) := by decide +kernel
theorem dX7_strict_28 : decode cX7_strict 28 = .ok (.aload_n 0, 1) := by decide +kernel
theorem dX7_strict_29 : decode cX7_strict 29 = .ok (.getfield 7, 3) := by decide +kernel
theorem dX7_strict_32 : decode cX7_strict 32 = .ok (.ifCond .le 58, 3) := by decide +kernel
theorem dX7_strict_35 : decode cX7_strict 35 = .ok (.iload_n 3, 1) := by decide +kernel
theorem dX7_strict_36 : decode cX7_strict 36 = .ok (.bipush (-4), 2) := by decide +kernel
theorem dX7_strict_38 : decode cX7_strict 38 = .ok (.if_icmp .ne 52, 3) := by decide +kernel
theorem dX7_strict_41 : decode cX7_strict 41 = .ok (.aload_n 0, 1) := by decide +kernel
theorem dX7_strict_42 : decode cX7_strict 42 = .ok (.invokevirtual 122, 3) := by decide +kernel
theorem dX7_strict_45 : decode cX7_strict 45 = .ok (.aload_n 0, 1) := by decide +kernel
theorem dX7_strict_46 : decode cX7_strict 46 = .ok (.iload_n 1, 1) := by decide +kernel
theorem dX7_strict_47 : decode cX7_strict 47 = .ok (.invokevirtual 198, 3) := by decide +kernel
theorem dX7_strict_50 : decode cX7_strict 50 = .ok (.aload_n 0, 1) := by decide +kernel
theorem dX7_strict_51 : decode cX7_strict 51 = .ok (.getfield 20, 3) := by decide +kernel
theorem dX7_strict_54 : decode cX7_strict 54 = .ok (.bipush 25, 2) := by decide +kernel
theorem dX7_strict_56 : decode cX7_strict 56 = .ok (.iaload, 1) := by decide +kernel
theorem dX7_strict_57 : decode cX7_strict 57 = .ok (.aload_n 0, 1) := by decide +kernel
theorem dX7_strict_58 : decode cX7_strict 58 = .ok (.getfield 17, 3) := by decide +kernel
theorem dX7_strict_61 : decode cX7_strict 61 = .ok (.bipush 25, 2) := by decide +kernel
theorem dX7_strict_63 : decode cX7_strict 63 = .ok (.iaload, 1) := by decide +kernel
theorem dX7_strict_64 : decode cX7_strict 64 = .ok (.if_icmp .ne 10, 3) := by decide +kernel
theorem dX7_strict_67 : decode cX7_strict 67 = .ok (.aload_n 0, 1) := by decide +kernel
theorem dX7_strict_68 : decode cX7_strict 68 = .ok (.getfield 7, 3) := by decide +kernel
theorem dX7_strict_71 : decode cX7_strict 71 = .ok (.goto 5, 3) := by decide +kernel
theorem dX7_strict_74 : decode cX7_strict 74 = .ok (.bipush (-4), 2) := by decide +kernel
theorem dX7_strict_76 : decode cX7_strict 76 = .ok (.istore_n 3, 1) := by decide +kernel
theorem dX7_strict_77 : decode cX7_strict 77 = .ok (.aload_n 0, 1) := by decide +kernel
theorem dX7_strict_78 : decode cX7_strict 78 = .ok (.dup, 1) := by decide +kernel
theorem dX7_strict_79 : decode cX7_strict 79 = .ok (.getfield 7, 3) := by decide +kernel
theorem dX7_strict_82 : decode cX7_strict 82 = .ok (.iconst 1, 1) := by decide +kernel
theorem dX7_strict_83 : decode cX7_strict 83 = .ok (.isub, 1) := by decide +kernel
theorem dX7_strict_84 : decode cX7_strict 84 = .ok (.putfield 7, 3) := by decide +kernel
theorem dX7_strict_87 : decode cX7_strict 87 = .ok (.goto (-59), 3) := by decide +kernel
theorem dX7_strict_90 : decode cX7_strict 90 = .ok (.aload_n 0, 1) := by decide +kernel
theorem dX7_strict_91 : decode cX7_strict 91 = .ok (.iload_n 2, 1) := by decide +kernel
theorem dX7_strict_92 : decode cX7_strict 92 = .ok (.putfield 7, 3) := by decide +kernel
theorem dX7_strict_95 : decode cX7_strict 95 = .ok (.iload_n 3, 1) := by decide +kernel
theorem dX7_strict_96 : decode cX7_strict 96 = .ok (.ireturn, 1) := by decide +kernel
theorem dX7_yawn_0 : decode cX7_yawn 0 = .ok (.iload_n 1, 1) := by decide +kernel
theorem dX7_yawn_1 : decode cX7_yawn 1 = .ok (.invokestatic 111, 3) := by decide +kernel
theorem dX7_yawn_4 : decode cX7_yawn 4 = .ok (.ifCond .eq 25, 3) := by decide +kernel
theorem dX7_yawn_7 : decode cX7_yawn 7 = .ok (.iload_n 2, 1) := by decide +kernel
theorem dX7_yawn_8 : decode cX7_yawn 8 = .ok (.i2l, 1) := by decide +kernel
theorem dX7_yawn_9 : decode cX7_yawn 9 = .ok (.lconst 0, 1) := by decide +kernel
theorem dX7_yawn_10 : decode cX7_yawn 10 = .ok (.ldc2_w 205, 3) := by decide +kernel
theorem dX7_yawn_13 : decode cX7_yawn 13 = .ok (.invokestatic 63, 3) := by decide +kernel
theorem dX7_yawn_16 : decode cX7_yawn 16 = .ok (.ifCond .eq 13, 3) := by decide +kernel
theorem dX7_yawn_19 : decode cX7_yawn 19 = .ok (.iload_n 3, 1) := by decide +kernel
theorem dX7_yawn_20 : decode cX7_yawn 20 = .ok (.i2l, 1) := by decide +kernel
theorem dX7_yawn_21 : decode cX7_yawn 21 = .ok (.lconst 0, 1) := by decide +kernel
theorem dX7_yawn_22 : decode cX7_yawn 22 = .ok (.lconst 1, 1) := by decide +kernel
theorem dX7_yawn_23 : decode cX7_yawn 23 = .ok (.invokestatic 63, 3) := by decide +kernel
theorem dX7_yawn_26 : decode cX7_yawn 26 = .ok (.ifCond .ne 5, 3) := by decide +kernel
theorem dX7_yawn_29 : decode cX7_yawn 29 = .ok (.iconst (-1), 1) := by decide +kernel
theorem dX7_yawn_30 : decode cX7_yawn 30 = .ok (.ireturn, 1) := by decide +kernel
theorem dX7_yawn_31 : decode cX7_yawn 31 = .ok (.iconst 1, 1) := by decide +kernel
theorem dX7_yawn_32 : decode cX7_yawn 32 = .ok (.istore 4, 2) := by decide +kernel
theorem dX7_yawn_34 : decode cX7_yawn 34 = .ok (.iconst 1, 1) := by decide +kernel
theorem dX7_yawn_35 : decode cX7_yawn 35 = .ok (.istore 5, 2) := by decide +kernel
theorem dX7_yawn_37 : decode cX7_yawn 37 = .ok (.iconst 0, 1) := by decide +kernel
theorem dX7_yawn_38 : decode cX7_yawn 38 = .ok (.istore 6, 2) := by decide +kernel
theorem dX7_yawn_40 : decode cX7_yawn 40 = .ok (.iload 6, 2) := by decide +kernel
theorem dX7_yawn_42 : decode cX7_yawn 42 = .ok (.aload_n 0, 1) := by decide +kernel
theorem dX7_yawn_43 : decode cX7_yawn 43 = .ok (.getfield 60, 3) := by decide +kernel
theorem dX7_yawn_46 : decode cX7_yawn 46 = .ok (.if_icmp .ge 68, 3) := by decide +kernel
theorem dX7_yawn_49 : decode cX7_yawn 49 = .ok (.aload_n 0, 1) := by decide +kernel
theorem dX7_yawn_50 : decode cX7_yawn 50 = .ok (.getfield 17, 3) := by decide +kernel
theorem dX7_yawn_53 : decode cX7_yawn 53 = .ok (.iconst 4, 1) := by decide +kernel
theorem dX7_yawn_54 : decode cX7_yawn 54 = .ok (.iload 6, 2) := by decide +kernel
theorem dX7_yawn_56 : decode cX7_yawn 56 = .ok (.imul, 1) := by decide +kernel
theorem dX7_yawn_57 : decode cX7_yawn 57 = .ok (.iload_n 1, 1) := by decide +kernel
theorem dX7_yawn_58 : decode cX7_yawn 58 = .ok (.iadd, 1) := by decide +kernel
theorem dX7_yawn_59 : decode cX7_yawn 59 = .ok (.iaload, 1) := by decide +kernel
theorem dX7_yawn_60 : decode cX7_yawn 60 = .ok (.aload_n 0, 1) := by decide +kernel
theorem dX7_yawn_61 : decode cX7_yawn 61 = .ok (.getfield 7, 3) := by decide +kernel
theorem dX7_yawn_64 : decode cX7_yawn 64 = .ok (.if_icmp .lt 7, 3) := by decide +kernel
theorem dX7_yawn_67 : decode cX7_yawn 67 = .ok (.iconst 1, 1) := by decide +kernel
theorem dX7_yawn_68 : decode cX7_yawn 68 = .ok (.goto 4, 3) := by decide +kernel
theorem dX7_yawn_71 : decode cX7_yawn 71 = .ok (.iconst 0, 1) := by decide +kernel
theorem dX7_yawn_72 : decode cX7_yawn 72 = .ok (.istore 7, 2) := by decide +kernel
theorem dX7_yawn_74 : decode cX7_yawn 74 = .ok (.iload 4, 2) := by decide +kernel
theorem dX7_yawn_76 : decode cX7_yawn 76 = .ok (.iload 7, 2) := by decide +kernel
theorem dX7_yawn_78 : decode cX7_yawn 78 = .ok (.ifCond .eq 10, 3) := by decide +kernel
theorem dX7_yawn_81 : decode cX7_yawn 81 = .ok (.bipush 10, 2) := by decide +kernel
theorem dX7_yawn_83 : decode cX7_yawn 83 = .ok (.iload_n 2, 1) := by decide +kernel
theorem dX7_yawn_84 : decode cX7_yawn 84 = .ok (.isub, 1) := by decide +kernel
theorem dX7_yawn_85 : decode cX7_yawn 85 = .ok (.goto 4, 3) := by decide +kernel
theorem dX7_yawn_88 : decode cX7_yawn 88 = .ok (.iconst 1, 1) := by decide +kernel
theorem dX7_yawn_89 : decode cX7_yawn 89 = .ok (.imul, 1) := by decide +kernel
theorem dX7_yawn_90 : decode cX7_yawn 90 = .ok (.istore 4, 2) := by decide +kernel
theorem dX7_yawn_92 : decode cX7_yawn 92 = .ok (.iload 5, 2) := by decide +kernel
theorem dX7_yawn_94 : decode cX7_yawn 94 = .ok (.iload 7, 2) := by decide +kernel
theorem dX7_yawn_96 : decode cX7_yawn 96 = .ok (.ifCond .eq 8, 3) := by decide +kernel
theorem dX7_yawn_99 : decode cX7_yawn 99 = .ok (.bipush 10, 2) := by decide +kernel
theorem dX7_yawn_101 : decode cX7_yawn 101 = .ok (.goto 4, 3) := by decide +kernel
theorem dX7_yawn_104 : decode cX7_yawn 104 = .ok (.iconst 1, 1) := by decide +kernel
theorem dX7_yawn_105 : decode cX7_yawn 105 = .ok (.imul, 1) := by decide +kernel
theorem dX7_yawn_106 : decode cX7_yawn 106 = .ok (.istore 5, 2) := by decide +kernel
theorem dX7_yawn_108 : decode cX7_yawn 108 = .ok (.iinc 6 1, 3) := by decide +kernel
theorem dX7_yawn_111 : decode cX7_yawn 111 = .ok (.goto (-71), 3) := by decide +kernel
theorem dX7_yawn_114 : decode cX7_yawn 114 = .ok (.iload 4, 2) := by decide +kernel
theorem dX7_yawn_116 : decode cX7_yawn 116 = .ok (.istore 6, 2) := by decide +kernel
theorem dX7_yawn_118 : decode cX7_yawn 118 = .ok (.iload 5, 2) := by decide +kernel
theorem dX7_yawn_120 : decode cX7_yawn 120 = .ok (.istore 7, 2) := by decide +kernel
theorem dX7_yawn_122 : decode cX7_yawn 122 = .ok (.iload 7, 2) := by decide +kernel
theorem dX7_yawn_124 : decode cX7_yawn 124 = .ok (.ifCond .eq 21, 3) := by decide +kernel
theorem dX7_yawn_127 : decode cX7_yawn 127 = .ok (.iload 6, 2) := by decide +kernel
theorem dX7_yawn_129 : decode cX7_yawn 129 = .ok (.iload 7, 2) := by decide +kernel
theorem dX7_yawn_131 : decode cX7_yawn 131 = .ok (.irem, 1) := by decide +kernel
theorem dX7_yawn_132 : decode cX7_yawn 132 = .ok (.istore 8, 2) := by decide +kernel
theorem dX7_yawn_134 : decode cX7_yawn 134 = .ok (.iload 7, 2) := by decide +kernel
theorem dX7_yawn_136 : decode cX7_yawn 136 = .ok (.istore 6, 2) := by decide +kernel
theorem dX7_yawn_138 : decode cX7_yawn 138 = .ok (.iload 8, 2) := by decide +kernel
theorem dX7_yawn_140 : decode cX7_yawn 140 = .ok (.istore 7, 2) := by decide +kernel
theorem dX7_yawn_142 : decode cX7_yawn 142 = .ok (.goto (-20), 3) := by decide +kernel
theorem dX7_yawn_145 : decode cX7_yawn 145 = .ok (.iload_n 3, 1) := by decide +kernel
theorem dX7_yawn_146 : decode cX7_yawn 146 = .ok (.ifCond .ne 11, 3) := by decide +kernel
theorem dX7_yawn_149 : decode cX7_yawn 149 = .ok (.iload 4, 2) := by decide +kernel
theorem dX7_yawn_151 : decode cX7_yawn 151 = .ok (.iload 6, 2) := by decide +kernel
theorem dX7_yawn_153 : decode cX7_yawn 153 = .ok (.idiv, 1) := by decide +kernel
theorem dX7_yawn_154 : decode cX7_yawn 154 = .ok (.goto 8, 3) := by decide +kernel
theorem dX7_yawn_157 : decode cX7_yawn 157 = .ok (.iload 5, 2) := by decide +kernel
theorem dX7_yawn_159 : decode cX7_yawn 159 = .ok (.iload 6, 2) := by decide +kernel
theorem dX7_yawn_161 : decode cX7_yawn 161 = .ok (.idiv, 1) := by decide +kernel
theorem dX7_yawn_162 : decode cX7_yawn 162 = .ok (.ireturn, 1) := by decide +kernel
theorem dX7_image_0 : decode cX7_image 0 = .ok (.aload_n 0, 1) := by decide +kernel
theorem dX7_image_1 : decode cX7_image 1 = .ok (.getfield 26, 3) := by decide +kernel
theorem dX7_image_4 : decode cX7_image 4 = .ok (.iconst 0, 1) := by decide +kernel
theorem dX7_image_5 : decode cX7_image 5 = .ok (.aload_n 0, 1) := by decide +kernel
theorem dX7_image_6 : decode cX7_image 6 = .ok (.getfield 60, 3) := by decide +kernel
theorem dX7_image_9 : decode cX7_image 9 = .ok (.iastore, 1) := by decide +kernel
theorem dX7_image_10 : decode cX7_image 10 = .ok (.aload_n 0, 1) := by decide +kernel
theorem dX7_image_11 : decode cX7_image 11 = .ok (.getfield 26, 3) := by decide +kernel
theorem dX7_image_14 : decode cX7_image 14 = .ok (.iconst 1, 1) := by decide +kernel
theorem dX7_image_15 : decode cX7_image 15 = .ok (.aload_n 0, 1) := by decide +kernel
theorem dX7_image_16 : decode cX7_image 16 = .ok (.getfield 7, 3) := by decide +kernel
theorem dX7_image_19 : decode cX7_image 19 = .ok (.iastore, 1) := by decide +kernel
theorem dX7_image_20 : decode cX7_image 20 = .ok (.aload_n 0, 1) := by decide +kernel
theorem dX7_image_21 : decode cX7_image 21 = .ok (.getfield 26, 3) := by decide +kernel
theorem dX7_image_24 : decode cX7_image 24 = .ok (.iconst 2, 1) := by decide +kernel
theorem dX7_image_25 : decode cX7_image 25 = .ok (.aload_n 0, 1) := by decide +kernel
theorem dX7_image_26 : decode cX7_image 26 = .ok (.getfield 104, 3) := by decide +kernel
theorem dX7_image_29 : decode cX7_image 29 = .ok (.iastore, 1) := by decide +kernel
theorem dX7_image_30 : decode cX7_image 30 = .ok (.iconst 0, 1) := by decide +kernel
theorem dX7_image_31 : decode cX7_image 31 = .ok (.istore_n 1, 1) := by decide +kernel
theorem dX7_image_32 : decode cX7_image 32 = .ok (.iload_n 1, 1) := by decide +kernel
theorem dX7_image_33 : decode cX7_image 33 = .ok (.iconst 5, 1) := by decide +kernel
theorem dX7_image_34 : decode cX7_image 34 = .ok (.if_icmp .ge 23, 3) := by decide +kernel
theorem dX7_image_37 : decode cX7_image 37 = .ok (.aload_n 0, 1) := by decide +kernel
theorem dX7_image_38 : decode cX7_image 38 = .ok (.getfield 26, 3) := by decide +kernel
theorem dX7_image_41 : decode cX7_image 41 = .ok (.iconst 3, 1) := by decide +kernel
theorem dX7_image_42 : decode cX7_image 42 = .ok (.iload_n 1, 1) := by decide +kernel
theorem dX7_image_43 : decode cX7_image 43 = .ok (.iadd, 1) := by decide +kernel
theorem dX7_image_44 : decode cX7_image 44 = .ok (.aload_n 0, 1) := by decide +kernel
theorem dX7_image_45 : decode cX7_image 45 = .ok (.getfield 13, 3) := by decide +kernel
theorem dX7_image_48 : decode cX7_image 48 = .ok (.iload_n 1, 1) := by decide +kernel
theorem dX7_image_49 : decode cX7_image 49 = .ok (.iaload, 1) := by decide +kernel
theorem dX7_image_50 : decode cX7_image 50 = .ok (.iastore, 1) := by decide +kernel
theorem dX7_image_51 : decode cX7_image 51 = .ok (.iinc 1 1, 3) := by decide +kernel
theorem dX7_image_54 : decode cX7_image 54 = .ok (.goto (-22), 3) := by decide +kernel
theorem dX7_image_57 : decode cX7_image 57 = .ok (.iconst 0, 1) := by decide +kernel
theorem dX7_image_58 : decode cX7_image 58 = .ok (.istore_n 1, 1) := by decide +kernel
theorem dX7_image_59 : decode cX7_image 59 = .ok (.iload_n 1, 1) := by decide +kernel
theorem dX7_image_60 : decode cX7_image 60 = .ok (.bipush 27, 2) := by decide +kernel
theorem dX7_image_62 : decode cX7_image 62 = .ok (.if_icmp .ge 21, 3) := by decide +kernel
theorem dX7_image_65 : decode cX7_image 65 = .ok (.aload_n 0, 1) := by decide +kernel
theorem dX7_image_66 : decode cX7_image 66 = .ok (.getfield 29, 3) := by decide +kernel
theorem dX7_image_69 : decode cX7_image 69 = .ok (.iload_n 1, 1) := by decide +kernel
theorem dX7_image_70 : decode cX7_image 70 = .ok (.aload_n 0, 1) := by decide +kernel
theorem dX7_image_71 : decode cX7_image 71 = .ok (.getfield 17, 3) := by decide +kernel
theorem dX7_image_74 : decode cX7_image 74 = .ok (.iload_n 1, 1) := by decide +kernel
theorem dX7_image_75 : decode cX7_image 75 = .ok (.iaload, 1) := by decide +kernel
theorem dX7_image_76 : decode cX7_image 76 = .ok (.iastore, 1) := by decide +kernel
theorem dX7_image_77 : decode cX7_image 77 = .ok (.iinc 1 1, 3) := by decide +kernel
theorem dX7_image_80 : decode cX7_image 80 = .ok (.goto (-21), 3) := by decide +kernel
theorem dX7_image_83 : decode cX7_image 83 = .ok (.iconst 0, 1) := by decide +kernel
theorem dX7_image_84 : decode cX7_image 84 = .ok (.istore_n 1, 1) := by decide +kernel
theorem dX7_image_85 : decode cX7_image 85 = .ok (.iload_n 1, 1) := by decide +kernel
theorem dX7_image_86 : decode cX7_image 86 = .ok (.sipush 216, 3) := by decide +kernel
theorem dX7_image_89 : decode cX7_image 89 = .ok (.if_icmp .ge 21, 3) := by decide +kernel
theorem dX7_image_92 : decode cX7_image 92 = .ok (.aload_n 0, 1) := by decide +kernel
theorem dX7_image_93 : decode cX7_image 93 = .ok (.getfield 32, 3) := by decide +kernel
theorem dX7_image_96 : decode cX7_image 96 = .ok (.iload_n 1, 1) := by decide +kernel
theorem dX7_image_97 : decode cX7_image 97 = .ok (.aload_n 0, 1) := by decide +kernel
theorem dX7_image_98 : decode cX7_image 98 = .ok (.getfield 23, 3) := by decide +kernel
theorem dX7_image_101 : decode cX7_image 101 = .ok (.iload_n 1, 1) := by decide +kernel
theorem dX7_image_102 : decode cX7_image 102 = .ok (.iaload, 1) := by decide +kernel
theorem dX7_image_103 : decode cX7_image 103 = .ok (.iastore, 1) := by decide +kernel
theorem dX7_image_104 : decode cX7_image 104 = .ok (.iinc 1 1, 3) := by decide +kernel
theorem dX7_image_107 : decode cX7_image 107 = .ok (.goto (-22), 3) := by decide +kernel
theorem dX7_image_110 : decode cX7_image 110 = .ok (.aload_n 0, 1) := by decide +kernel
theorem dX7_image_111 : decode cX7_image 111 = .ok (.iconst 1, 1) := by decide +kernel
theorem dX7_image_112 : decode cX7_image 112 = .ok (.putfield 207, 3) := by decide +kernel
theorem dX7_image_115 : decode cX7_image 115 = .ok (.iconst 1, 1) := by decide +kernel
theorem dX7_image_116 : decode cX7_image 116 = .ok (.ireturn, 1) := by decide +kernel
theorem dX7_restore_0 : decode cX7_restore 0 = .ok (.aload_n 0, 1) := by decide +kernel
theorem dX7_restore_1 : decode cX7_restore 1 = .ok (.getfield 207, 3) := by decide +kernel
theorem dX7_restore_4 : decode cX7_restore 4 = .ok (.ifCond .ne 6, 3) := by decide +kernel
theorem dX7_restore_7 : decode cX7_restore 7 = .ok (.bipush (-4), 2) := by decide +kernel
theorem dX7_restore_9 : decode cX7_restore 9 = .ok (.ireturn, 1) := by decide +kernel
theorem dX7_restore_10 : decode cX7_restore 10 = .ok (.aload_n 0, 1) := by decide +kernel
theorem dX7_restore_11 : decode cX7_restore 11 = .ok (.aload_n 0, 1) := by decide +kernel
theorem dX7_restore_12 : decode cX7_restore 12 = .ok (.getfield 26, 3) := by decide +kernel
theorem dX7_restore_15 : decode cX7_restore 15 = .ok (.iconst 0, 1) := by decide +kernel
theorem dX7_restore_16 : decode cX7_restore 16 = .ok (.iaload, 1) := by decide +kernel
theorem dX7_restore_17 : decode cX7_restore 17 = .ok (.putfield 60, 3) := by decide +kernel
theorem dX7_restore_20 : decode cX7_restore 20 = .ok (.aload_n 0, 1) := by decide +kernel
theorem dX7_restore_21 : decode cX7_restore 21 = .ok (.aload_n 0, 1) := by decide +kernel
theorem dX7_restore_22 : decode cX7_restore 22 = .ok (.getfield 26, 3) := by decide +kernel
theorem dX7_restore_25 : decode cX7_restore 25 = .ok (.iconst 1, 1) := by decide +kernel
theorem dX7_restore_26 : decode cX7_restore 26 = .ok (.iaload, 1) := by decide +kernel
theorem dX7_restore_27 : decode cX7_restore 27 = .ok (.putfield 7, 3) := by decide +kernel
theorem dX7_restore_30 : decode cX7_restore 30 = .ok (.aload_n 0, 1) := by decide +kernel
theorem dX7_restore_31 : decode cX7_restore 31 = .ok (.aload_n 0, 1) := by decide +kernel
theorem dX7_restore_32 : decode cX7_restore 32 = .ok (.getfield 26, 3) := by decide +kernel
theorem dX7_restore_35 : decode cX7_restore 35 = .ok (.iconst 2, 1) := by decide +kernel
theorem dX7_restore_36 : decode cX7_restore 36 = .ok (.iaload, 1) := by decide +kernel
theorem dX7_restore_37 : decode cX7_restore 37 = .ok (.putfield 104, 3) := by decide +kernel
theorem dX7_restore_40 : decode cX7_restore 40 = .ok (.iconst 0, 1) := by decide +kernel
theorem dX7_restore_41 : decode cX7_restore 41 = .ok (.istore_n 1, 1) := by decide +kernel
theorem dX7_restore_42 : decode cX7_restore 42 = .ok (.iload_n 1, 1) := by decide +kernel
theorem dX7_restore_43 : decode cX7_restore 43 = .ok (.iconst 5, 1) := by decide +kernel
theorem dX7_restore_44 : decode cX7_restore 44 = .ok (.if_icmp .ge 23, 3) := by decide +kernel
theorem dX7_restore_47 : decode cX7_restore 47 = .ok (.aload_n 0, 1) := by decide +kernel
theorem dX7_restore_48 : decode cX7_restore 48 = .ok (.getfield 13, 3) := by decide +kernel
theorem dX7_restore_51 : decode cX7_restore 51 = .ok (.iload_n 1, 1) := by decide +kernel
theorem dX7_restore_52 : decode cX7_restore 52 = .ok (.aload_n 0, 1) := by decide +kernel
theorem dX7_restore_53 : decode cX7_restore 53 = .ok (.getfield 26, 3) := by decide +kernel
theorem dX7_restore_56 : decode cX7_restore 56 = .ok (.iconst 3, 1) := by decide +kernel
theorem dX7_restore_57 : decode cX7_restore 57 = .ok (.iload_n 1, 1) := by decide +kernel
theorem dX7_restore_58 : decode cX7_restore 58 = .ok (.iadd, 1) := by decide +kernel
theorem dX7_restore_59 : decode cX7_restore 59 = .ok (.iaload, 1) := by decide +kernel
theorem dX7_restore_60 : decode cX7_restore 60 = .ok (.iastore, 1) := by decide +kernel
theorem dX7_restore_61 : decode cX7_restore 61 = .ok (.iinc 1 1, 3) := by decide +kernel
theorem dX7_restore_64 : decode cX7_restore 64 = .ok (.goto (-22), 3) := by decide +kernel
theorem dX7_restore_67 : decode cX7_restore 67 = .ok (.iconst 0, 1) := by decide +kernel
theorem dX7_restore_68 : decode cX7_restore 68 = .ok (.istore_n 1, 1) := by decide +kernel
theorem dX7_restore_69 : decode cX7_restore 69 = .ok (.iload_n 1, 1) := by decide +kernel
theorem dX7_restore_70 : decode cX7_restore 70 = .ok (.bipush 27, 2) := by decide +kernel
theorem dX7_restore_72 : decode cX7_restore 72 = .ok (.if_icmp .ge 21, 3) := by decide +kernel
theorem dX7_restore_75 : decode cX7_restore 75 = .ok (.aload_n 0, 1) := by decide +kernel
theorem dX7_restore_76 : decode cX7_restore 76 = .ok (.getfield 17, 3) := by decide +kernel
theorem dX7_restore_79 : decode cX7_restore 79 = .ok (.iload_n 1, 1) := by decide +kernel
theorem dX7_restore_80 : decode cX7_restore 80 = .ok (.aload_n 0, 1) := by decide +kernel
theorem dX7_restore_81 : decode cX7_restore 81 = .ok (.getfield 29, 3) := by decide +kernel
theorem dX7_restore_84 : decode cX7_restore 84 = .ok (.iload_n 1, 1) := by decide +kernel
theorem dX7_restore_85 : decode cX7_restore 85 = .ok (.iaload, 1) := by decide +kernel
theorem dX7_restore_86 : decode cX7_restore 86 = .ok (.iastore, 1) := by decide +kernel
theorem dX7_restore_87 : decode cX7_restore 87 = .ok (.iinc 1 1, 3) := by decide +kernel
theorem dX7_restore_90 : decode cX7_restore 90 = .ok (.goto (-21), 3) := by decide +kernel
theorem dX7_restore_93 : decode cX7_restore 93 = .ok (.iconst 0, 1) := by decide +kernel
theorem dX7_restore_94 : decode cX7_restore 94 = .ok (.istore_n 1, 1) := by decide +kernel
theorem dX7_restore_95 : decode cX7_restore 95 = .ok (.iload_n 1, 1) := by decide +kernel
theorem dX7_restore_96 : decode cX7_restore 96 = .ok (.sipush 216, 3) := by decide +kernel
theorem dX7_restore_99 : decode cX7_restore 99 = .ok (.if_icmp .ge 21, 3) := by decide +kernel
theorem dX7_restore_102 : decode cX7_restore 102 = .ok (.aload_n 0, 1) := by decide +kernel
theorem dX7_restore_103 : decode cX7_restore 103 = .ok (.getfield 23, 3) := by decide +kernel
theorem dX7_restore_106 : decode cX7_restore 106 = .ok (.iload_n 1, 1) := by decide +kernel
theorem dX7_restore_107 : decode cX7_restore 107 = .ok (.aload_n 0, 1) := by decide +kernel
theorem dX7_restore_108 : decode cX7_restore 108 = .ok (.getfield 32, 3) := by decide +kernel
theorem dX7_restore_111 : decode cX7_restore 111 = .ok (.iload_n 1, 1) := by decide +kernel
theorem dX7_restore_112 : decode cX7_restore 112 = .ok (.iaload, 1) := by decide +kernel
theorem dX7_restore_113 : decode cX7_restore 113 = .ok (.iastore, 1) := by decide +kernel
theorem dX7_restore_114 : decode cX7_restore 114 = .ok (.iinc 1 1, 3) := by decide +kernel
theorem dX7_restore_117 : decode cX7_restore 117 = .ok (.goto (-22), 3) := by decide +kernel
theorem dX7_restore_120 : decode cX7_restore 120 = .ok (.iconst 1, 1) := by decide +kernel
theorem dX7_restore_121 : decode cX7_restore 121 = .ok (.ireturn, 1) := by decide +kernel
theorem dX7_isSheet_0 : decode cX7_isSheet 0 = .ok (.iload_n 0, 1) := by decide +kernel
theorem dX7_isSheet_1 : decode cX7_isSheet 1 = .ok (.i2l, 1) := by decide +kernel
theorem dX7_isSheet_2 : decode cX7_isSheet 2 = .ok (.lconst 0, 1) := by decide +kernel
theorem dX7_isSheet_3 : decode cX7_isSheet 3 = .ok (.ldc2_w 67, 3) := by decide +kernel
theorem dX7_isSheet_6 : decode cX7_isSheet 6 = .ok (.invokestatic 63, 3) := by decide +kernel
theorem dX7_isSheet_9 : decode cX7_isSheet 9 = .ok (.ireturn, 1) := by decide +kernel
theorem dX7_isLane_0 : decode cX7_isLane 0 = .ok (.iload_n 0, 1) := by decide +kernel
theorem dX7_isLane_1 : decode cX7_isLane 1 = .ok (.i2l, 1) := by decide +kernel
theorem dX7_isLane_2 : decode cX7_isLane 2 = .ok (.lconst 0, 1) := by decide +kernel
theorem dX7_isLane_3 : decode cX7_isLane 3 = .ok (.ldc2_w 67, 3) := by decide +kernel
theorem dX7_isLane_6 : decode cX7_isLane 6 = .ok (.invokestatic 63, 3) := by decide +kernel
theorem dX7_isLane_9 : decode cX7_isLane 9 = .ok (.ireturn, 1) := by decide +kernel
theorem dX7_isSpan_0 : decode cX7_isSpan 0 = .ok (.iload_n 2, 1) := by decide +kernel
theorem dX7_isSpan_1 : decode cX7_isSpan 1 = .ok (.ifCond .lt 27, 3) := by decide +kernel
theorem dX7_isSpan_4 : decode cX7_isSpan 4 = .ok (.iload_n 3, 1) := by decide +kernel
theorem dX7_isSpan_5 : decode cX7_isSpan 5 = .ok (.ifCond .lt 23, 3) := by decide +kernel
theorem dX7_isSpan_8 : decode cX7_isSpan 8 = .ok (.iload_n 2, 1) := by decide +kernel
theorem dX7_isSpan_9 : decode cX7_isSpan 9 = .ok (.i2l, 1) := by decide +kernel
theorem dX7_isSpan_10 : decode cX7_isSpan 10 = .ok (.iload_n 3, 1) := by decide +kernel
theorem dX7_isSpan_11 : decode cX7_isSpan 11 = .ok (.i2l, 1) := by decide +kernel
theorem dX7_isSpan_12 : decode cX7_isSpan 12 = .ok (.ladd, 1) := by decide +kernel
theorem dX7_isSpan_13 : decode cX7_isSpan 13 = .ok (.aload_n 0, 1) := by decide +kernel
theorem dX7_isSpan_14 : decode cX7_isSpan 14 = .ok (.getfield 42, 3) := by decide +kernel
theorem dX7_isSpan_17 : decode cX7_isSpan 17 = .ok (.iload_n 1, 1) := by decide +kernel
theorem dX7_isSpan_18 : decode cX7_isSpan 18 = .ok (.iaload, 1) := by decide +kernel
theorem dX7_isSpan_19 : decode cX7_isSpan 19 = .ok (.i2l, 1) := by decide +kernel
theorem dX7_isSpan_20 : decode cX7_isSpan 20 = .ok (.lcmp, 1) := by decide +kernel
theorem dX7_isSpan_21 : decode cX7_isSpan 21 = .ok (.ifCond .gt 7, 3) := by decide +kernel
theorem dX7_isSpan_24 : decode cX7_isSpan 24 = .ok (.iconst 1, 1) := by decide +kernel
theorem dX7_isSpan_25 : decode cX7_isSpan 25 = .ok (.goto 4, 3) := by decide +kernel
theorem dX7_isSpan_28 : decode cX7_isSpan 28 = .ok (.iconst 0, 1) := by decide +kernel
theorem dX7_isSpan_29 : decode cX7_isSpan 29 = .ok (.ireturn, 1) := by decide +kernel
theorem dX7_lacks_0 : decode cX7_lacks 0 = .ok (.aload_n 0, 1) := by decide +kernel
theorem dX7_lacks_1 : decode cX7_lacks 1 = .ok (.getfield 42, 3) := by decide +kernel
theorem dX7_lacks_4 : decode cX7_lacks 4 = .ok (.iload_n 1, 1) := by decide +kernel
theorem dX7_lacks_5 : decode cX7_lacks 5 = .ok (.iaload, 1) := by decide +kernel
theorem dX7_lacks_6 : decode cX7_lacks 6 = .ok (.ifCond .ge 8, 3) := by decide +kernel
theorem dX7_lacks_9 : decode cX7_lacks 9 = .ok (.bipush (-11), 2) := by decide +kernel
theorem dX7_lacks_11 : decode cX7_lacks 11 = .ok (.goto 35, 3) := by decide +kernel
theorem dX7_lacks_14 : decode cX7_lacks 14 = .ok (.aload_n 0, 1) := by decide +kernel
theorem dX7_lacks_15 : decode cX7_lacks 15 = .ok (.getfield 39, 3) := by decide +kernel
theorem dX7_lacks_18 : decode cX7_lacks 18 = .ok (.iload_n 1, 1) := by decide +kernel
theorem dX7_lacks_19 : decode cX7_lacks 19 = .ok (.iaload, 1) := by decide +kernel
theorem dX7_lacks_20 : decode cX7_lacks 20 = .ok (.iload_n 2, 1) := by decide +kernel
theorem dX7_lacks_21 : decode cX7_lacks 21 = .ok (.if_icmp .eq 8, 3) := by decide +kernel
theorem dX7_lacks_24 : decode cX7_lacks 24 = .ok (.bipush (-12), 2) := by decide +kernel
theorem dX7_lacks_26 : decode cX7_lacks 26 = .ok (.goto 20, 3) := by decide +kernel
theorem dX7_lacks_29 : decode cX7_lacks 29 = .ok (.aload_n 0, 1) := by decide +kernel
theorem dX7_lacks_30 : decode cX7_lacks 30 = .ok (.iload_n 1, 1) := by decide +kernel
theorem dX7_lacks_31 : decode cX7_lacks 31 = .ok (.iload_n 3, 1) := by decide +kernel
theorem dX7_lacks_32 : decode cX7_lacks 32 = .ok (.iload 4, 2) := by decide +kernel
theorem dX7_lacks_34 : decode cX7_lacks 34 = .ok (.invokevirtual 211, 3) := by decide +kernel
theorem dX7_lacks_37 : decode cX7_lacks 37 = .ok (.ifCond .eq 7, 3) := by decide +kernel
theorem dX7_lacks_40 : decode cX7_lacks 40 = .ok (.iconst 0, 1) := by decide +kernel
theorem dX7_lacks_41 : decode cX7_lacks 41 = .ok (.goto 5, 3) := by decide +kernel
theorem dX7_lacks_44 : decode cX7_lacks 44 = .ok (.bipush (-13), 2) := by decide +kernel
theorem dX7_lacks_46 : decode cX7_lacks 46 = .ok (.ireturn, 1) := by decide +kernel
theorem dX7_isTold_0 : decode cX7_isTold 0 = .ok (.iconst 1, 1) := by decide +kernel
theorem dX7_isTold_1 : decode cX7_isTold 1 = .ok (.istore 6, 2) := by decide +kernel
theorem dX7_isTold_3 : decode cX7_isTold 3 = .ok (.iconst 0, 1) := by decide +kernel
theorem dX7_isTold_4 : decode cX7_isTold 4 = .ok (.istore 7, 2) := by decide +kernel
theorem dX7_isTold_6 : decode cX7_isTold 6 = .ok (.iload 7, 2) := by decide +kernel
theorem dX7_isTold_8 : decode cX7_isTold 8 = .ok (.iload 5, 2) := by decide +kernel
theorem dX7_isTold_10 : decode cX7_isTold 10 = .ok (.if_icmp .ge 55, 3) := by decide +kernel
theorem dX7_isTold_13 : decode cX7_isTold 13 = .ok (.aload_n 0, 1) := by decide +kernel
theorem dX7_isTold_14 : decode cX7_isTold 14 = .ok (.invokevirtual 97, 3) := by decide +kernel
theorem dX7_isTold_17 : decode cX7_isTold 17 = .ok (.iload 6, 2) := by decide +kernel
theorem dX7_isTold_19 : decode cX7_isTold 19 = .ok (.ifCond .eq 37, 3) := by decide +kernel
theorem dX7_isTold_22 : decode cX7_isTold 22 = .ok (.aload_n 0, 1) := by decide +kernel
theorem dX7_isTold_23 : decode cX7_isTold 23 = .ok (.getfield 35, 3) := by decide +kernel
theorem dX7_isTold_26 : decode cX7_isTold 26 = .ok (.bipush 24, 2) := by decide +kernel
theorem dX7_isTold_28 : decode cX7_isTold 28 = .ok (.iload_n 3, 1) := by decide +kernel
theorem dX7_isTold_29 : decode cX7_isTold 29 = .ok (.imul, 1) := by decide +kernel
theorem dX7_isTold_30 : decode cX7_isTold 30 = .ok (.iload 4, 2) := by decide +kernel
theorem dX7_isTold_32 : decode cX7_isTold 32 = .ok (.iadd, 1) := by decide +kernel
theorem dX7_isTold_33 : decode cX7_isTold 33 = .ok (.iload 7, 2) := by decide +kernel
theorem dX7_isTold_35 : decode cX7_isTold 35 = .ok (.iadd, 1) := by decide +kernel
theorem dX7_isTold_36 : decode cX7_isTold 36 = .ok (.laload, 1) := by decide +kernel
theorem dX7_isTold_37 : decode cX7_isTold 37 = .ok (.aload_n 0, 1) := by decide +kernel
theorem dX7_isTold_38 : decode cX7_isTold 38 = .ok (.getfield 20, 3) := by decide +kernel
theorem dX7_isTold_41 : decode cX7_isTold 41 = .ok (.iconst 4, 1) := by decide +kernel
theorem dX7_isTold_42 : decode cX7_isTold 42 = .ok (.iload_n 1, 1) := by decide +kernel
theorem dX7_isTold_43 : decode cX7_isTold 43 = .ok (.imul, 1) := by decide +kernel
theorem dX7_isTold_44 : decode cX7_isTold 44 = .ok (.iload_n 2, 1) := by decide +kernel
theorem dX7_isTold_45 : decode cX7_isTold 45 = .ok (.iadd, 1) := by decide +kernel
theorem dX7_isTold_46 : decode cX7_isTold 46 = .ok (.iaload, 1) := by decide +kernel
theorem dX7_isTold_47 : decode cX7_isTold 47 = .ok (.i2l, 1) := by decide +kernel
theorem dX7_isTold_48 : decode cX7_isTold 48 = .ok (.lcmp, 1) := by decide +kernel
theorem dX7_isTold_49 : decode cX7_isTold 49 = .ok (.ifCond .ne 7, 3) := by decide +kernel
theorem dX7_isTold_52 : decode cX7_isTold 52 = .ok (.iconst 1, 1) := by decide +kernel
theorem dX7_isTold_53 : decode cX7_isTold 53 = .ok (.goto 4, 3) := by decide +kernel
theorem dX7_isTold_56 : decode cX7_isTold 56 = .ok (.iconst 0, 1) := by decide +kernel
theorem dX7_isTold_57 : decode cX7_isTold 57 = .ok (.istore 6, 2) := by decide +kernel
theorem dX7_isTold_59 : decode cX7_isTold 59 = .ok (.iinc 7 1, 3) := by decide +kernel
theorem dX7_isTold_62 : decode cX7_isTold 62 = .ok (.goto (-56), 3) := by decide +kernel
theorem dX7_isTold_65 : decode cX7_isTold 65 = .ok (.iload 6, 2) := by decide +kernel
theorem dX7_isTold_67 : decode cX7_isTold 67 = .ok (.ireturn, 1) := by decide +kernel
theorem dX7_toldKinds_0 : decode cX7_toldKinds 0 = .ok (.iconst 0, 1) := by decide +kernel
theorem dX7_toldKinds_1 : decode cX7_toldKinds 1 = .ok (.istore 6, 2) := by decide +kernel
theorem dX7_toldKinds_3 : decode cX7_toldKinds 3 = .ok (.aload_n 0, 1) := by decide +kernel
theorem dX7_toldKinds_4 : decode cX7_toldKinds 4 = .ok (.iload_n 1, 1) := by decide +kernel
theorem dX7_toldKinds_5 : decode cX7_toldKinds 5 = .ok (.putfield 48, 3) := by decide +kernel
theorem dX7_toldKinds_8 : decode cX7_toldKinds 8 = .ok (.aload_n 0, 1) := by decide +kernel
theorem dX7_toldKinds_9 : decode cX7_toldKinds 9 = .ok (.iconst 0, 1) := by decide +kernel
theorem dX7_toldKinds_10 : decode cX7_toldKinds 10 = .ok (.putfield 69, 3) := by decide +kernel
theorem dX7_toldKinds_13 : decode cX7_toldKinds 13 = .ok (.aload_n 0, 1) := by decide +kernel
theorem dX7_toldKinds_14 : decode cX7_toldKinds 14 = .ok (.getfield 69, 3) := by decide +kernel
theorem dX7_toldKinds_17 : decode cX7_toldKinds 17 = .ok (.iconst 5, 1) := by decide +kernel
theorem dX7_toldKinds_18 : decode cX7_toldKinds 18 = .ok (.if_icmp .ge 49, 3) := by decide +kernel
theorem dX7_toldKinds_21 : decode cX7_toldKinds 21 = .ok (.aload_n 0, 1) := by decide +kernel
theorem dX7_toldKinds_22 : decode cX7_toldKinds 22 = .ok (.invokevirtual 122, 3) := by decide +kernel
theorem dX7_toldKinds_25 : decode cX7_toldKinds 25 = .ok (.iload 6, 2) := by decide +kernel
theorem dX7_toldKinds_27 : decode cX7_toldKinds 27 = .ok (.aload_n 0, 1) := by decide +kernel
theorem dX7_toldKinds_28 : decode cX7_toldKinds 28 = .ok (.iload_n 1, 1) := by decide +kernel
theorem dX7_toldKinds_29 : decode cX7_toldKinds 29 = .ok (.iload_n 2, 1) := by decide +kernel
theorem dX7_toldKinds_30 : decode cX7_toldKinds 30 = .ok (.iload_n 3, 1) := by decide +kernel
theorem dX7_toldKinds_31 : decode cX7_toldKinds 31 = .ok (.iload 4, 2) := by decide +kernel
theorem dX7_toldKinds_33 : decode cX7_toldKinds 33 = .ok (.iload 5, 2) := by decide +kernel
theorem dX7_toldKinds_35 : decode cX7_toldKinds 35 = .ok (.invokevirtual 215, 3) := by decide +kernel
theorem dX7_toldKinds_38 : decode cX7_toldKinds 38 = .ok (.ifCond .eq 12, 3) := by decide +kernel
theorem dX7_toldKinds_41 : decode cX7_toldKinds 41 = .ok (.iconst 1, 1) := by decide +kernel
theorem dX7_toldKinds_42 : decode cX7_toldKinds 42 = .ok (.aload_n 0, 1) := by decide +kernel
theorem dX7_toldKinds_43 : decode cX7_toldKinds 43 = .ok (.getfield 69, 3) := by decide +kernel
theorem dX7_toldKinds_46 : decode cX7_toldKinds 46 = .ok (.ishl, 1) := by decide +kernel
theorem dX7_toldKinds_47 : decode cX7_toldKinds 47 = .ok (.goto 4, 3) := by decide +kernel
theorem dX7_toldKinds_50 : decode cX7_toldKinds 50 = .ok (.iconst 0, 1) := by decide +kernel
theorem dX7_toldKinds_51 : decode cX7_toldKinds 51 = .ok (.ior, 1) := by decide +kernel
theorem dX7_toldKinds_52 : decode cX7_toldKinds 52 = .ok (.istore 6, 2) := by decide +kernel
theorem dX7_toldKinds_54 : decode cX7_toldKinds 54 = .ok (.aload_n 0, 1) := by decide +kernel
theorem dX7_toldKinds_55 : decode cX7_toldKinds 55 = .ok (.dup, 1) := by decide +kernel
theorem dX7_toldKinds_56 : decode cX7_toldKinds 56 = .ok (.getfield 69, 3) := by decide +kernel
theorem dX7_toldKinds_59 : decode cX7_toldKinds 59 = .ok (.iconst 1, 1) := by decide +kernel
theorem dX7_toldKinds_60 : decode cX7_toldKinds 60 = .ok (.iadd, 1) := by decide +kernel
theorem dX7_toldKinds_61 : decode cX7_toldKinds 61 = .ok (.putfield 69, 3) := by decide +kernel
theorem dX7_toldKinds_64 : decode cX7_toldKinds 64 = .ok (.goto (-51), 3) := by decide +kernel
theorem dX7_toldKinds_67 : decode cX7_toldKinds 67 = .ok (.aload_n 0, 1) := by decide +kernel
theorem dX7_toldKinds_68 : decode cX7_toldKinds 68 = .ok (.bipush (-4), 2) := by decide +kernel
theorem dX7_toldKinds_70 : decode cX7_toldKinds 70 = .ok (.putfield 48, 3) := by decide +kernel
theorem dX7_toldKinds_73 : decode cX7_toldKinds 73 = .ok (.iload 6, 2) := by decide +kernel
theorem dX7_toldKinds_75 : decode cX7_toldKinds 75 = .ok (.ireturn, 1) := by decide +kernel
theorem dX7_toldWants_0 : decode cX7_toldWants 0 = .ok (.iconst 0, 1) := by decide +kernel
theorem dX7_toldWants_1 : decode cX7_toldWants 1 = .ok (.istore 6, 2) := by decide +kernel
theorem dX7_toldWants_3 : decode cX7_toldWants 3 = .ok (.iconst 0, 1) := by decide +kernel
theorem dX7_toldWants_4 : decode cX7_toldWants 4 = .ok (.istore 7, 2) := by decide +kernel
theorem dX7_toldWants_6 : decode cX7_toldWants 6 = .ok (.iload 7, 2) := by decide +kernel
theorem dX7_toldWants_8 : decode cX7_toldWants 8 = .ok (.bipush 21, 2) := by decide +kernel
theorem dX7_toldWants_10 : decode cX7_toldWants 10 = .ok (.if_icmp .ge 52, 3) := by decide +kernel
theorem dX7_toldWants_13 : decode cX7_toldWants 13 = .ok (.aload_n 0, 1) := by decide +kernel
theorem dX7_toldWants_14 : decode cX7_toldWants 14 = .ok (.invokevirtual 122, 3) := by decide +kernel
theorem dX7_toldWants_17 : decode cX7_toldWants 17 = .ok (.aload_n 0, 1) := by decide +kernel
theorem dX7_toldWants_18 : decode cX7_toldWants 18 = .ok (.getfield 20, 3) := by decide +kernel
theorem dX7_toldWants_21 : decode cX7_toldWants 21 = .ok (.iconst 4, 1) := by decide +kernel
theorem dX7_toldWants_22 : decode cX7_toldWants 22 = .ok (.iload_n 1, 1) := by decide +kernel
theorem dX7_toldWants_23 : decode cX7_toldWants 23 = .ok (.imul, 1) := by decide +kernel
theorem dX7_toldWants_24 : decode cX7_toldWants 24 = .ok (.iload_n 2, 1) := by decide +kernel
theorem dX7_toldWants_25 : decode cX7_toldWants 25 = .ok (.iadd, 1) := by decide +kernel
theorem dX7_toldWants_26 : decode cX7_toldWants 26 = .ok (.iload 7, 2) := by decide +kernel
theorem dX7_toldWants_28 : decode cX7_toldWants 28 = .ok (.iastore, 1) := by decide +kernel
theorem dX7_toldWants_29 : decode cX7_toldWants 29 = .ok (.iload 6, 2) := by decide +kernel
theorem dX7_toldWants_31 : decode cX7_toldWants 31 = .ok (.aload_n 0, 1) := by decide +kernel
theorem dX7_toldWants_32 : decode cX7_toldWants 32 = .ok (.iload_n 1, 1) := by decide +kernel
theorem dX7_toldWants_33 : decode cX7_toldWants 33 = .ok (.iload_n 2, 1) := by decide +kernel
theorem dX7_toldWants_34 : decode cX7_toldWants 34 = .ok (.iload_n 3, 1) := by decide +kernel
theorem dX7_toldWants_35 : decode cX7_toldWants 35 = .ok (.iload 4, 2) := by decide +kernel
theorem dX7_toldWants_37 : decode cX7_toldWants 37 = .ok (.iload 5, 2) := by decide +kernel
theorem dX7_toldWants_39 : decode cX7_toldWants 39 = .ok (.invokevirtual 215, 3) := by decide +kernel
theorem dX7_toldWants_42 : decode cX7_toldWants 42 = .ok (.ifCond .eq 10, 3) := by decide +kernel
theorem dX7_toldWants_45 : decode cX7_toldWants 45 = .ok (.iconst 1, 1) := by decide +kernel
theorem dX7_toldWants_46 : decode cX7_toldWants 46 = .ok (.iload 7, 2) := by decide +kernel
theorem dX7_toldWants_48 : decode cX7_toldWants 48 = .ok (.ishl, 1) := by decide +kernel
theorem dX7_toldWants_49 : decode cX7_toldWants 49 = .ok (.goto 4, 3) := by decide +kernel
theorem dX7_toldWants_52 : decode cX7_toldWants 52 = .ok (.iconst 0, 1) := by decide +kernel
theorem dX7_toldWants_53 : decode cX7_toldWants 53 = .ok (.ior, 1) := by decide +kernel
theorem dX7_toldWants_54 : decode cX7_toldWants 54 = .ok (.istore 6, 2) := by decide +kernel
theorem dX7_toldWants_56 : decode cX7_toldWants 56 = .ok (.iinc 7 1, 3) := by decide +kernel
theorem dX7_toldWants_59 : decode cX7_toldWants 59 = .ok (.goto (-53), 3) := by decide +kernel
theorem dX7_toldWants_62 : decode cX7_toldWants 62 = .ok (.iload 6, 2) := by decide +kernel
theorem dX7_toldWants_64 : decode cX7_toldWants 64 = .ok (.ireturn, 1) := by decide +kernel
theorem dX7_toldRules_0 : decode cX7_toldRules 0 = .ok (.iconst 0, 1) := by decide +kernel
theorem dX7_toldRules_1 : decode cX7_toldRules 1 = .ok (.istore 6, 2) := by decide +kernel
theorem dX7_toldRules_3 : decode cX7_toldRules 3 = .ok (.aload_n 0, 1) := by decide +kernel
theorem dX7_toldRules_4 : decode cX7_toldRules 4 = .ok (.getfield 7, 3) := by decide +kernel
theorem dX7_toldRules_7 : decode cX7_toldRules 7 = .ok (.istore 7, 2) := by decide +kernel
theorem dX7_toldRules_9 : decode cX7_toldRules 9 = .ok (.aload_n 0, 1) := by decide +kernel
theorem dX7_toldRules_10 : decode cX7_toldRules 10 = .ok (.iconst 1, 1) := by decide +kernel
theorem dX7_toldRules_11 : decode cX7_toldRules 11 = .ok (.putfield 7, 3) := by decide +kernel
theorem dX7_toldRules_14 : decode cX7_toldRules 14 = .ok (.aload_n 0, 1) := by decide +kernel
theorem dX7_toldRules_15 : decode cX7_toldRules 15 = .ok (.getfield 7, 3) := by decide +kernel
theorem dX7_toldRules_18 : decode cX7_toldRules 18 = .ok (.bipush 21, 2) := by decide +kernel
theorem dX7_toldRules_20 : decode cX7_toldRules 20 = .ok (.if_icmp .ge 49, 3) := by decide +kernel
theorem dX7_toldRules_23 : decode cX7_toldRules 23 = .ok (.aload_n 0, 1) := by decide +kernel
theorem dX7_toldRules_24 : decode cX7_toldRules 24 = .ok (.invokevirtual 122, 3) := by decide +kernel
theorem dX7_toldRules_27 : decode cX7_toldRules 27 = .ok (.iload 6, 2) := by decide +kernel
theorem dX7_toldRules_29 : decode cX7_toldRules 29 = .ok (.aload_n 0, 1) := by decide +kernel
theorem dX7_toldRules_30 : decode cX7_toldRules 30 = .ok (.iload_n 1, 1) := by decide +kernel
theorem dX7_toldRules_31 : decode cX7_toldRules 31 = .ok (.iload_n 2, 1) := by decide +kernel
theorem dX7_toldRules_32 : decode cX7_toldRules 32 = .ok (.iload_n 3, 1) := by decide +kernel
theorem dX7_toldRules_33 : decode cX7_toldRules 33 = .ok (.iload 4, 2) := by decide +kernel
theorem dX7_toldRules_35 : decode cX7_toldRules 35 = .ok (.iload 5, 2) := by decide +kernel
theorem dX7_toldRules_37 : decode cX7_toldRules 37 = .ok (.invokevirtual 215, 3) := by decide +kernel
theorem dX7_toldRules_40 : decode cX7_toldRules 40 = .ok (.ifCond .eq 12, 3) := by decide +kernel
theorem dX7_toldRules_43 : decode cX7_toldRules 43 = .ok (.iconst 1, 1) := by decide +kernel
theorem dX7_toldRules_44 : decode cX7_toldRules 44 = .ok (.aload_n 0, 1) := by decide +kernel
theorem dX7_toldRules_45 : decode cX7_toldRules 45 = .ok (.getfield 7, 3) := by decide +kernel
theorem dX7_toldRules_48 : decode cX7_toldRules 48 = .ok (.ishl, 1) := by decide +kernel
theorem dX7_toldRules_49 : decode cX7_toldRules 49 = .ok (.goto 4, 3) := by decide +kernel
theorem dX7_toldRules_52 : decode cX7_toldRules 52 = .ok (.iconst 0, 1) := by decide +kernel
theorem dX7_toldRules_53 : decode cX7_toldRules 53 = .ok (.ior, 1) := by decide +kernel
theorem dX7_toldRules_54 : decode cX7_toldRules 54 = .ok (.istore 6, 2) := by decide +kernel
theorem dX7_toldRules_56 : decode cX7_toldRules 56 = .ok (.aload_n 0, 1) := by decide +kernel
theorem dX7_toldRules_57 : decode cX7_toldRules 57 = .ok (.dup, 1) := by decide +kernel
theorem dX7_toldRules_58 : decode cX7_toldRules 58 = .ok (.getfield 7, 3) := by decide +kernel
theorem dX7_toldRules_61 : decode cX7_toldRules 61 = .ok (.iconst 1, 1) := by decide +kernel
theorem dX7_toldRules_62 : decode cX7_toldRules 62 = .ok (.iadd, 1) := by decide +kernel
theorem dX7_toldRules_63 : decode cX7_toldRules 63 = .ok (.putfield 7, 3) := by decide +kernel
theorem dX7_toldRules_66 : decode cX7_toldRules 66 = .ok (.goto (-52), 3) := by decide +kernel
theorem dX7_toldRules_69 : decode cX7_toldRules 69 = .ok (.aload_n 0, 1) := by decide +kernel
theorem dX7_toldRules_70 : decode cX7_toldRules 70 = .ok (.iload 7, 2) := by decide +kernel
theorem dX7_toldRules_72 : decode cX7_toldRules 72 = .ok (.putfield 7, 3) := by decide +kernel
theorem dX7_toldRules_75 : decode cX7_toldRules 75 = .ok (.iload 6, 2) := by decide +kernel
theorem dX7_toldRules_77 : decode cX7_toldRules 77 = .ok (.ireturn, 1) := by decide +kernel
theorem dX7_told_0 : decode cX7_told 0 = .ok (.aload_n 0, 1) := by decide +kernel
theorem dX7_told_1 : decode cX7_told 1 = .ok (.iload_n 1, 1) := by decide +kernel
theorem dX7_told_2 : decode cX7_told 2 = .ok (.invokevirtual 107, 3) := by decide +kernel
theorem dX7_told_5 : decode cX7_told 5 = .ok (.ifCond .eq 51, 3) := by decide +kernel
theorem dX7_told_8 : decode cX7_told 8 = .ok (.iload_n 2, 1) := by decide +kernel
theorem dX7_told_9 : decode cX7_told 9 = .ok (.invokestatic 111, 3) := by decide +kernel
theorem dX7_told_12 : decode cX7_told 12 = .ok (.ifCond .eq 44, 3) := by decide +kernel
theorem dX7_told_15 : decode cX7_told 15 = .ok (.iload_n 3, 1) := by decide +kernel
theorem dX7_told_16 : decode cX7_told 16 = .ok (.invokestatic 219, 3) := by decide +kernel
theorem dX7_told_19 : decode cX7_told 19 = .ok (.ifCond .eq 37, 3) := by decide +kernel
theorem dX7_told_22 : decode cX7_told 22 = .ok (.iload 4, 2) := by decide +kernel
theorem dX7_told_24 : decode cX7_told 24 = .ok (.invokestatic 222, 3) := by decide +kernel
theorem dX7_told_27 : decode cX7_told 27 = .ok (.ifCond .eq 29, 3) := by decide +kernel
theorem dX7_told_30 : decode cX7_told 30 = .ok (.iload 6, 2) := by decide +kernel
theorem dX7_told_32 : decode cX7_told 32 = .ok (.i2l, 1) := by decide +kernel
theorem dX7_told_33 : decode cX7_told 33 = .ok (.lconst 1, 1) := by decide +kernel
theorem dX7_told_34 : decode cX7_told 34 = .ok (.ldc2_w 225, 3) := by decide +kernel
theorem dX7_told_37 : decode cX7_told 37 = .ok (.invokestatic 63, 3) := by decide +kernel
theorem dX7_told_40 : decode cX7_told 40 = .ok (.ifCond .eq 16, 3) := by decide +kernel
theorem dX7_told_43 : decode cX7_told 43 = .ok (.iload 7, 2) := by decide +kernel
theorem dX7_told_45 : decode cX7_told 45 = .ok (.i2l, 1) := by decide +kernel
theorem dX7_told_46 : decode cX7_told 46 = .ok (.lconst 0, 1) := by decide +kernel
theorem dX7_told_47 : decode cX7_told 47 = .ok (.ldc2_w 114, 3) := by decide +kernel
theorem dX7_told_50 : decode cX7_told 50 = .ok (.invokestatic 63, 3) := by decide +kernel
theorem dX7_told_53 : decode cX7_told 53 = .ok (.ifCond .ne 5, 3) := by decide +kernel
theorem dX7_told_56 : decode cX7_told 56 = .ok (.iconst (-1), 1) := by decide +kernel
theorem dX7_told_57 : decode cX7_told 57 = .ok (.ireturn, 1) := by decide +kernel
theorem dX7_told_58 : decode cX7_told 58 = .ok (.aload_n 0, 1) := by decide +kernel
theorem dX7_told_59 : decode cX7_told 59 = .ok (.iload_n 3, 1) := by decide +kernel
theorem dX7_told_60 : decode cX7_told 60 = .ok (.iload 4, 2) := by decide +kernel
theorem dX7_told_62 : decode cX7_told 62 = .ok (.iload 5, 2) := by decide +kernel
theorem dX7_told_64 : decode cX7_told 64 = .ok (.iload 6, 2) := by decide +kernel
theorem dX7_told_66 : decode cX7_told 66 = .ok (.invokevirtual 227, 3) := by decide +kernel
theorem dX7_told_69 : decode cX7_told 69 = .ok (.istore 8, 2) := by decide +kernel
theorem dX7_told_71 : decode cX7_told 71 = .ok (.iload 8, 2) := by decide +kernel
theorem dX7_told_73 : decode cX7_told 73 = .ok (.ifCond .eq 6, 3) := by decide +kernel
theorem dX7_told_76 : decode cX7_told 76 = .ok (.iload 8, 2) := by decide +kernel
theorem dX7_told_78 : decode cX7_told 78 = .ok (.ireturn, 1) := by decide +kernel
theorem dX7_told_79 : decode cX7_told 79 = .ok (.iload 7, 2) := by decide +kernel
theorem dX7_told_81 : decode cX7_told 81 = .ok (.ifCond .ne 17, 3) := by decide +kernel
theorem dX7_told_84 : decode cX7_told 84 = .ok (.aload_n 0, 1) := by decide +kernel
theorem dX7_told_85 : decode cX7_told 85 = .ok (.iload_n 1, 1) := by decide +kernel
theorem dX7_told_86 : decode cX7_told 86 = .ok (.iload_n 2, 1) := by decide +kernel
theorem dX7_told_87 : decode cX7_told 87 = .ok (.iload_n 3, 1) := by decide +kernel
theorem dX7_told_88 : decode cX7_told 88 = .ok (.iload 5, 2) := by decide +kernel
theorem dX7_told_90 : decode cX7_told 90 = .ok (.iload 6, 2) := by decide +kernel
theorem dX7_told_92 : decode cX7_told 92 = .ok (.invokevirtual 231, 3) := by decide +kernel
theorem dX7_told_95 : decode cX7_told 95 = .ok (.goto 34, 3) := by decide +kernel
theorem dX7_told_98 : decode cX7_told 98 = .ok (.iload 7, 2) := by decide +kernel
theorem dX7_told_100 : decode cX7_told 100 = .ok (.iconst 1, 1) := by decide +kernel
theorem dX7_told_101 : decode cX7_told 101 = .ok (.if_icmp .ne 17, 3) := by decide +kernel
theorem dX7_told_104 : decode cX7_told 104 = .ok (.aload_n 0, 1) := by decide +kernel
theorem dX7_told_105 : decode cX7_told 105 = .ok (.iload_n 1, 1) := by decide +kernel
theorem dX7_told_106 : decode cX7_told 106 = .ok (.iload_n 2, 1) := by decide +kernel
theorem dX7_told_107 : decode cX7_told 107 = .ok (.iload_n 3, 1) := by decide +kernel
theorem dX7_told_108 : decode cX7_told 108 = .ok (.iload 5, 2) := by decide +kernel
theorem dX7_told_110 : decode cX7_told 110 = .ok (.iload 6, 2) := by decide +kernel
theorem dX7_told_112 : decode cX7_told 112 = .ok (.invokevirtual 235, 3) := by decide +kernel
theorem dX7_told_115 : decode cX7_told 115 = .ok (.goto 14, 3) := by decide +kernel
theorem dX7_told_118 : decode cX7_told 118 = .ok (.aload_n 0, 1) := by decide +kernel
theorem dX7_told_119 : decode cX7_told 119 = .ok (.iload_n 1, 1) := by decide +kernel
theorem dX7_told_120 : decode cX7_told 120 = .ok (.iload_n 2, 1) := by decide +kernel
theorem dX7_told_121 : decode cX7_told 121 = .ok (.iload_n 3, 1) := by decide +kernel
theorem dX7_told_122 : decode cX7_told 122 = .ok (.iload 5, 2) := by decide +kernel
theorem dX7_told_124 : decode cX7_told 124 = .ok (.iload 6, 2) := by decide +kernel
theorem dX7_told_126 : decode cX7_told 126 = .ok (.invokevirtual 238, 3) := by decide +kernel
theorem dX7_told_129 : decode cX7_told 129 = .ok (.ireturn, 1) := by decide +kernel
theorem dX7_film_0 : decode cX7_film 0 = .ok (.aload_n 0, 1) := by decide +kernel
theorem dX7_film_1 : decode cX7_film 1 = .ok (.iload_n 1, 1) := by decide +kernel
theorem dX7_film_2 : decode cX7_film 2 = .ok (.invokevirtual 107, 3) := by decide +kernel
theorem dX7_film_5 : decode cX7_film 5 = .ok (.ifCond .eq 38, 3) := by decide +kernel
theorem dX7_film_8 : decode cX7_film 8 = .ok (.iload_n 2, 1) := by decide +kernel
theorem dX7_film_9 : decode cX7_film 9 = .ok (.invokestatic 111, 3) := by decide +kernel
theorem dX7_film_12 : decode cX7_film 12 = .ok (.ifCond .eq 31, 3) := by decide +kernel
theorem dX7_film_15 : decode cX7_film 15 = .ok (.iload_n 3, 1) := by decide +kernel
theorem dX7_film_16 : decode cX7_film 16 = .ok (.i2l, 1) := by decide +kernel
theorem dX7_film_17 : decode cX7_film 17 = .ok (.lconst 1, 1) := by decide +kernel
theorem dX7_film_18 : decode cX7_film 18 = .ok (.ldc2_w 241, 3) := by decide +kernel
theorem dX7_film_21 : decode cX7_film 21 = .ok (.invokestatic 63, 3) := by decide +kernel
theorem dX7_film_24 : decode cX7_film 24 = .ok (.ifCond .eq 19, 3) := by decide +kernel
theorem dX7_film_27 : decode cX7_film 27 = .ok (.iload 4, 2) := by decide +kernel
theorem dX7_film_29 : decode cX7_film 29 = .ok (.invokestatic 219, 3) := by decide +kernel
theorem dX7_film_32 : decode cX7_film 32 = .ok (.ifCond .eq 11, 3) := by decide +kernel
theorem dX7_film_35 : decode cX7_film 35 = .ok (.iload 5, 2) := by decide +kernel
theorem dX7_film_37 : decode cX7_film 37 = .ok (.invokestatic 222, 3) := by decide +kernel
theorem dX7_film_40 : decode cX7_film 40 = .ok (.ifCond .ne 5, 3) := by decide +kernel
theorem dX7_film_43 : decode cX7_film 43 = .ok (.iconst (-1), 1) := by decide +kernel
theorem dX7_film_44 : decode cX7_film 44 = .ok (.ireturn, 1) := by decide +kernel
theorem dX7_film_45 : decode cX7_film 45 = .ok (.aload_n 0, 1) := by decide +kernel
theorem dX7_film_46 : decode cX7_film 46 = .ok (.iload 4, 2) := by decide +kernel
theorem dX7_film_48 : decode cX7_film 48 = .ok (.iload 5, 2) := by decide +kernel
theorem dX7_film_50 : decode cX7_film 50 = .ok (.iload 6, 2) := by decide +kernel
theorem dX7_film_52 : decode cX7_film 52 = .ok (.iload_n 3, 1) := by decide +kernel
theorem dX7_film_53 : decode cX7_film 53 = .ok (.invokevirtual 227, 3) := by decide +kernel
theorem dX7_film_56 : decode cX7_film 56 = .ok (.istore 7, 2) := by decide +kernel
theorem dX7_film_58 : decode cX7_film 58 = .ok (.iload 7, 2) := by decide +kernel
theorem dX7_film_60 : decode cX7_film 60 = .ok (.ifCond .eq 6, 3) := by decide +kernel
theorem dX7_film_63 : decode cX7_film 63 = .ok (.iload 7, 2) := by decide +kernel
theorem dX7_film_65 : decode cX7_film 65 = .ok (.ireturn, 1) := by decide +kernel
theorem dX7_film_66 : decode cX7_film 66 = .ok (.aload_n 0, 1) := by decide +kernel
theorem dX7_film_67 : decode cX7_film 67 = .ok (.invokevirtual 122, 3) := by decide +kernel
theorem dX7_film_70 : decode cX7_film 70 = .ok (.iconst 0, 1) := by decide +kernel
theorem dX7_film_71 : decode cX7_film 71 = .ok (.istore 8, 2) := by decide +kernel
theorem dX7_film_73 : decode cX7_film 73 = .ok (.iload 8, 2) := by decide +kernel
theorem dX7_film_75 : decode cX7_film 75 = .ok (.iload_n 3, 1) := by decide +kernel
theorem dX7_film_76 : decode cX7_film 76 = .ok (.if_icmp .ge 40, 3) := by decide +kernel
theorem dX7_film_79 : decode cX7_film 79 = .ok (.aload_n 0, 1) := by decide +kernel
theorem dX7_film_80 : decode cX7_film 80 = .ok (.invokevirtual 97, 3) := by decide +kernel
theorem dX7_film_83 : decode cX7_film 83 = .ok (.aload_n 0, 1) := by decide +kernel
theorem dX7_film_84 : decode cX7_film 84 = .ok (.getfield 35, 3) := by decide +kernel
theorem dX7_film_87 : decode cX7_film 87 = .ok (.bipush 24, 2) := by decide +kernel
theorem dX7_film_89 : decode cX7_film 89 = .ok (.iload 4, 2) := by decide +kernel
theorem dX7_film_91 : decode cX7_film 91 = .ok (.imul, 1) := by decide +kernel
theorem dX7_film_92 : decode cX7_film 92 = .ok (.iload 6, 2) := by decide +kernel
theorem dX7_film_94 : decode cX7_film 94 = .ok (.iadd, 1) := by decide +kernel
theorem dX7_film_95 : decode cX7_film 95 = .ok (.iload 8, 2) := by decide +kernel
theorem dX7_film_97 : decode cX7_film 97 = .ok (.iadd, 1) := by decide +kernel
theorem dX7_film_98 : decode cX7_film 98 = .ok (.aload_n 0, 1) := by decide +kernel
theorem dX7_film_99 : decode cX7_film 99 = .ok (.getfield 20, 3) := by decide +kernel
theorem dX7_film_102 : decode cX7_film 102 = .ok (.iconst 4, 1) := by decide +kernel
theorem dX7_film_103 : decode cX7_film 103 = .ok (.iload_n 1, 1) := by decide +kernel
theorem dX7_film_104 : decode cX7_film 104 = .ok (.imul, 1) := by decide +kernel
theorem dX7_film_105 : decode cX7_film 105 = .ok (.iload_n 2, 1) := by decide +kernel
theorem dX7_film_106 : decode cX7_film 106 = .ok (.iadd, 1) := by decide +kernel
theorem dX7_film_107 : decode cX7_film 107 = .ok (.iaload, 1) := by decide +kernel
theorem dX7_film_108 : decode cX7_film 108 = .ok (.i2l, 1) := by decide +kernel
theorem dX7_film_109 : decode cX7_film 109 = .ok (.lastore, 1) := by decide +kernel
theorem dX7_film_110 : decode cX7_film 110 = .ok (.iinc 8 1, 3) := by decide +kernel
theorem dX7_film_113 : decode cX7_film 113 = .ok (.goto (-40), 3) := by decide +kernel
theorem dX7_film_116 : decode cX7_film 116 = .ok (.iload_n 3, 1) := by decide +kernel
theorem dX7_film_117 : decode cX7_film 117 = .ok (.ireturn, 1) := by decide +kernel
theorem dX7_sheet_0 : decode cX7_sheet 0 = .ok (.iload_n 1, 1) := by decide +kernel
theorem dX7_sheet_1 : decode cX7_sheet 1 = .ok (.invokestatic 219, 3) := by decide +kernel
theorem dX7_sheet_4 : decode cX7_sheet 4 = .ok (.ifCond .eq 16, 3) := by decide +kernel
theorem dX7_sheet_7 : decode cX7_sheet 7 = .ok (.iload_n 2, 1) := by decide +kernel
theorem dX7_sheet_8 : decode cX7_sheet 8 = .ok (.invokestatic 222, 3) := by decide +kernel
theorem dX7_sheet_11 : decode cX7_sheet 11 = .ok (.ifCond .eq 9, 3) := by decide +kernel
theorem dX7_sheet_14 : decode cX7_sheet 14 = .ok (.iload_n 3, 1) := by decide +kernel
theorem dX7_sheet_15 : decode cX7_sheet 15 = .ok (.bipush 24, 2) := by decide +kernel
theorem dX7_sheet_17 : decode cX7_sheet 17 = .ok (.if_icmp .le 5, 3) := by decide +kernel
theorem dX7_sheet_20 : decode cX7_sheet 20 = .ok (.iconst (-1), 1) := by decide +kernel
theorem dX7_sheet_21 : decode cX7_sheet 21 = .ok (.ireturn, 1) := by decide +kernel
theorem dX7_sheet_22 : decode cX7_sheet 22 = .ok (.iload_n 3, 1) := by decide +kernel
theorem dX7_sheet_23 : decode cX7_sheet 23 = .ok (.ifCond .ge 6, 3) := by decide +kernel
theorem dX7_sheet_26 : decode cX7_sheet 26 = .ok (.bipush (-14), 2) := by decide +kernel
theorem dX7_sheet_28 : decode cX7_sheet 28 = .ok (.ireturn, 1) := by decide +kernel
theorem dX7_sheet_29 : decode cX7_sheet 29 = .ok (.aload_n 0, 1) := by decide +kernel
theorem dX7_sheet_30 : decode cX7_sheet 30 = .ok (.getfield 39, 3) := by decide +kernel
theorem dX7_sheet_33 : decode cX7_sheet 33 = .ok (.iload_n 1, 1) := by decide +kernel
theorem dX7_sheet_34 : decode cX7_sheet 34 = .ok (.iload_n 2, 1) := by decide +kernel
theorem dX7_sheet_35 : decode cX7_sheet 35 = .ok (.iastore, 1) := by decide +kernel
theorem dX7_sheet_36 : decode cX7_sheet 36 = .ok (.aload_n 0, 1) := by decide +kernel
theorem dX7_sheet_37 : decode cX7_sheet 37 = .ok (.getfield 42, 3) := by decide +kernel
theorem dX7_sheet_40 : decode cX7_sheet 40 = .ok (.iload_n 1, 1) := by decide +kernel
theorem dX7_sheet_41 : decode cX7_sheet 41 = .ok (.iload_n 3, 1) := by decide +kernel
theorem dX7_sheet_42 : decode cX7_sheet 42 = .ok (.iastore, 1) := by decide +kernel
theorem dX7_sheet_43 : decode cX7_sheet 43 = .ok (.iconst 0, 1) := by decide +kernel
theorem dX7_sheet_44 : decode cX7_sheet 44 = .ok (.istore 4, 2) := by decide +kernel
theorem dX7_sheet_46 : decode cX7_sheet 46 = .ok (.iload 4, 2) := by decide +kernel
theorem dX7_sheet_48 : decode cX7_sheet 48 = .ok (.iload_n 3, 1) := by decide +kernel
theorem dX7_sheet_49 : decode cX7_sheet 49 = .ok (.if_icmp .ge 22, 3) := by decide +kernel
theorem dX7_sheet_52 : decode cX7_sheet 52 = .ok (.aload_n 0, 1) := by decide +kernel
theorem dX7_sheet_53 : decode cX7_sheet 53 = .ok (.getfield 35, 3) := by decide +kernel
theorem dX7_sheet_56 : decode cX7_sheet 56 = .ok (.bipush 24, 2) := by decide +kernel
theorem dX7_sheet_58 : decode cX7_sheet 58 = .ok (.iload_n 1, 1) := by decide +kernel
theorem dX7_sheet_59 : decode cX7_sheet 59 = .ok (.imul, 1) := by decide +kernel
theorem dX7_sheet_60 : decode cX7_sheet 60 = .ok (.iload 4, 2) := by decide +kernel
theorem dX7_sheet_62 : decode cX7_sheet 62 = .ok (.iadd, 1) := by decide +kernel
theorem dX7_sheet_63 : decode cX7_sheet 63 = .ok (.lconst 0, 1) := by decide +kernel
theorem dX7_sheet_64 : decode cX7_sheet 64 = .ok (.lastore, 1) := by decide +kernel
theorem dX7_sheet_65 : decode cX7_sheet 65 = .ok (.iinc 4 1, 3) := by decide +kernel
theorem dX7_sheet_68 : decode cX7_sheet 68 = .ok (.goto (-22), 3) := by decide +kernel
theorem dX7_sheet_71 : decode cX7_sheet 71 = .ok (.iload_n 3, 1) := by decide +kernel
theorem dX7_sheet_72 : decode cX7_sheet 72 = .ok (.ireturn, 1) := by decide +kernel
theorem dX7_drop_0 : decode cX7_drop 0 = .ok (.iload_n 1, 1) := by decide +kernel
theorem dX7_drop_1 : decode cX7_drop 1 = .ok (.invokestatic 219, 3) := by decide +kernel
theorem dX7_drop_4 : decode cX7_drop 4 = .ok (.ifCond .ne 5, 3) := by decide +kernel
theorem dX7_drop_7 : decode cX7_drop 7 = .ok (.iconst (-1), 1) := by decide +kernel
theorem dX7_drop_8 : decode cX7_drop 8 = .ok (.ireturn, 1) := by decide +kernel
theorem dX7_drop_9 : decode cX7_drop 9 = .ok (.aload_n 0, 1) := by decide +kernel
theorem dX7_drop_10 : decode cX7_drop 10 = .ok (.getfield 42, 3) := by decide +kernel
theorem dX7_drop_13 : decode cX7_drop 13 = .ok (.iload_n 1, 1) := by decide +kernel
theorem dX7_drop_14 : decode cX7_drop 14 = .ok (.iaload, 1) := by decide +kernel
theorem dX7_drop_15 : decode cX7_drop 15 = .ok (.ifCond .ge 6, 3) := by decide +kernel
theorem dX7_drop_18 : decode cX7_drop 18 = .ok (.bipush (-11), 2) := by decide +kernel
theorem dX7_drop_20 : decode cX7_drop 20 = .ok (.ireturn, 1) := by decide +kernel
theorem dX7_drop_21 : decode cX7_drop 21 = .ok (.aload_n 0, 1) := by decide +kernel
theorem dX7_drop_22 : decode cX7_drop 22 = .ok (.getfield 42, 3) := by decide +kernel
theorem dX7_drop_25 : decode cX7_drop 25 = .ok (.iload_n 1, 1) := by decide +kernel
theorem dX7_drop_26 : decode cX7_drop 26 = .ok (.iaload, 1) := by decide +kernel
theorem dX7_drop_27 : decode cX7_drop 27 = .ok (.istore_n 2, 1) := by decide +kernel
theorem dX7_drop_28 : decode cX7_drop 28 = .ok (.aload_n 0, 1) := by decide +kernel
theorem dX7_drop_29 : decode cX7_drop 29 = .ok (.getfield 42, 3) := by decide +kernel
theorem dX7_drop_32 : decode cX7_drop 32 = .ok (.iload_n 1, 1) := by decide +kernel
theorem dX7_drop_33 : decode cX7_drop 33 = .ok (.iconst (-1), 1) := by decide +kernel
theorem dX7_drop_34 : decode cX7_drop 34 = .ok (.iastore, 1) := by decide +kernel
theorem dX7_drop_35 : decode cX7_drop 35 = .ok (.iload_n 2, 1) := by decide +kernel
theorem dX7_drop_36 : decode cX7_drop 36 = .ok (.ireturn, 1) := by decide +kernel
theorem dX7_item_0 : decode cX7_item 0 = .ok (.iload_n 1, 1) := by decide +kernel
theorem dX7_item_1 : decode cX7_item 1 = .ok (.invokestatic 219, 3) := by decide +kernel
theorem dX7_item_4 : decode cX7_item 4 = .ok (.ifCond .eq 10, 3) := by decide +kernel
theorem dX7_item_7 : decode cX7_item 7 = .ok (.iload_n 2, 1) := by decide +kernel
theorem dX7_item_8 : decode cX7_item 8 = .ok (.invokestatic 222, 3) := by decide +kernel
theorem dX7_item_11 : decode cX7_item 11 = .ok (.ifCond .ne 5, 3) := by decide +kernel
theorem dX7_item_14 : decode cX7_item 14 = .ok (.iconst (-1), 1) := by decide +kernel
theorem dX7_item_15 : decode cX7_item 15 = .ok (.ireturn, 1) := by decide +kernel
theorem dX7_item_16 : decode cX7_item 16 = .ok (.aload_n 0, 1) := by decide +kernel
theorem dX7_item_17 : decode cX7_item 17 = .ok (.iload_n 1, 1) := by decide +kernel
theorem dX7_item_18 : decode cX7_item 18 = .ok (.iload_n 2, 1) := by decide +kernel
theorem dX7_item_19 : decode cX7_item 19 = .ok (.iload_n 3, 1) := by decide +kernel
theorem dX7_item_20 : decode cX7_item 20 = .ok (.iconst 1, 1) := by decide +kernel
theorem dX7_item_21 : decode cX7_item 21 = .ok (.invokevirtual 227, 3) := by decide +kernel
theorem dX7_item_24 : decode cX7_item 24 = .ok (.istore 6, 2) := by decide +kernel
theorem dX7_item_26 : decode cX7_item 26 = .ok (.iload 6, 2) := by decide +kernel
theorem dX7_item_28 : decode cX7_item 28 = .ok (.ifCond .eq 6, 3) := by decide +kernel
theorem dX7_item_31 : decode cX7_item 31 = .ok (.iload 6, 2) := by decide +kernel
theorem dX7_item_33 : decode cX7_item 33 = .ok (.ireturn, 1) := by decide +kernel
theorem dX7_item_34 : decode cX7_item 34 = .ok (.aload_n 0, 1) := by decide +kernel
theorem dX7_item_35 : decode cX7_item 35 = .ok (.getfield 35, 3) := by decide +kernel
theorem dX7_item_38 : decode cX7_item 38 = .ok (.bipush 24, 2) := by decide +kernel
theorem dX7_item_40 : decode cX7_item 40 = .ok (.iload_n 1, 1) := by decide +kernel
theorem dX7_item_41 : decode cX7_item 41 = .ok (.imul, 1) := by decide +kernel
theorem dX7_item_42 : decode cX7_item 42 = .ok (.iload_n 3, 1) := by decide +kernel
theorem dX7_item_43 : decode cX7_item 43 = .ok (.iadd, 1) := by decide +kernel
theorem dX7_item_44 : decode cX7_item 44 = .ok (.iload_n 2, 1) := by decide +kernel
theorem dX7_item_45 : decode cX7_item 45 = .ok (.ifCond .ne 14, 3) := by decide +kernel
theorem dX7_item_48 : decode cX7_item 48 = .ok (.lload 4, 2) := by decide +kernel
theorem dX7_item_50 : decode cX7_item 50 = .ok (.bipush 56, 2) := by decide +kernel
theorem dX7_item_52 : decode cX7_item 52 = .ok (.lshl, 1) := by decide +kernel
theorem dX7_item_53 : decode cX7_item 53 = .ok (.bipush 56, 2) := by decide +kernel
theorem dX7_item_55 : decode cX7_item 55 = .ok (.lshr, 1) := by decide +kernel
theorem dX7_item_56 : decode cX7_item 56 = .ok (.goto 37, 3) := by decide +kernel
theorem dX7_item_59 : decode cX7_item 59 = .ok (.iload_n 2, 1) := by decide +kernel
theorem dX7_item_60 : decode cX7_item 60 = .ok (.iconst 1, 1) := by decide +kernel
theorem dX7_item_61 : decode cX7_item 61 = .ok (.if_icmp .ne 14, 3) := by decide +kernel
theorem dX7_item_64 : decode cX7_item 64 = .ok (.lload 4, 2) := by decide +kernel
theorem dX7_item_66 : decode cX7_item 66 = .ok (.bipush 48, 2) := by decide +kernel
theorem dX7_item_68 : decode cX7_item 68 = .ok (.lshl, 1) := by decide +kernel
theorem dX7_item_69 : decode cX7_item 69 = .ok (.bipush 48, 2) := by decide +kernel
theorem dX7_item_71 : decode cX7_item 71 = .ok (.lshr, 1) := by decide +kernel
theorem dX7_item_72 : decode cX7_item 72 = .ok (.goto 21, 3) := by decide +kernel
theorem dX7_item_75 : decode cX7_item 75 = .ok (.iload_n 2, 1) := by decide +kernel
theorem dX7_item_76 : decode cX7_item 76 = .ok (.iconst 2, 1) := by decide +kernel
theorem dX7_item_77 : decode cX7_item 77 = .ok (.if_icmp .ne 14, 3) := by decide +kernel
theorem dX7_item_80 : decode cX7_item 80 = .ok (.lload 4, 2) := by decide +kernel
theorem dX7_item_82 : decode cX7_item 82 = .ok (.bipush 32, 2) := by decide +kernel
theorem dX7_item_84 : decode cX7_item 84 = .ok (.lshl, 1) := by decide +kernel
theorem dX7_item_85 : decode cX7_item 85 = .ok (.bipush 32, 2) := by decide +kernel
theorem dX7_item_87 : decode cX7_item 87 = .ok (.lshr, 1) := by decide +kernel
theorem dX7_item_88 : decode cX7_item 88 = .ok (.goto 5, 3) := by decide +kernel
theorem dX7_item_91 : decode cX7_item 91 = .ok (.lload 4, 2) := by decide +kernel
theorem dX7_item_93 : decode cX7_item 93 = .ok (.lastore, 1) := by decide +kernel
theorem dX7_item_94 : decode cX7_item 94 = .ok (.iconst 1, 1) := by decide +kernel
theorem dX7_item_95 : decode cX7_item 95 = .ok (.ireturn, 1) := by decide +kernel
theorem dX7_copy_0 : decode cX7_copy 0 = .ok (.iload_n 1, 1) := by decide +kernel
theorem dX7_copy_1 : decode cX7_copy 1 = .ok (.invokestatic 219, 3) := by decide +kernel
theorem dX7_copy_4 : decode cX7_copy 4 = .ok (.ifCond .eq 10, 3) := by decide +kernel
theorem dX7_copy_7 : decode cX7_copy 7 = .ok (.iload_n 3, 1) := by decide +kernel
theorem dX7_copy_8 : decode cX7_copy 8 = .ok (.invokestatic 219, 3) := by decide +kernel
theorem dX7_copy_11 : decode cX7_copy 11 = .ok (.ifCond .ne 5, 3) := by decide +kernel
theorem dX7_copy_14 : decode cX7_copy 14 = .ok (.iconst (-1), 1) := by decide +kernel
theorem dX7_copy_15 : decode cX7_copy 15 = .ok (.ireturn, 1) := by decide +kernel
theorem dX7_copy_16 : decode cX7_copy 16 = .ok (.aload_n 0, 1) := by decide +kernel
theorem dX7_copy_17 : decode cX7_copy 17 = .ok (.getfield 42, 3) := by decide +kernel
theorem dX7_copy_20 : decode cX7_copy 20 = .ok (.iload_n 1, 1) := by decide +kernel
theorem dX7_copy_21 : decode cX7_copy 21 = .ok (.iaload, 1) := by decide +kernel
theorem dX7_copy_22 : decode cX7_copy 22 = .ok (.ifCond .lt 12, 3) := by decide +kernel
theorem dX7_copy_25 : decode cX7_copy 25 = .ok (.aload_n 0, 1) := by decide +kernel
theorem dX7_copy_26 : decode cX7_copy 26 = .ok (.getfield 42, 3) := by decide +kernel
theorem dX7_copy_29 : decode cX7_copy 29 = .ok (.iload_n 3, 1) := by decide +kernel
theorem dX7_copy_30 : decode cX7_copy 30 = .ok (.iaload, 1) := by decide +kernel
theorem dX7_copy_31 : decode cX7_copy 31 = .ok (.ifCond .ge 6, 3) := by decide +kernel
theorem dX7_copy_34 : decode cX7_copy 34 = .ok (.bipush (-11), 2) := by decide +kernel
theorem dX7_copy_36 : decode cX7_copy 36 = .ok (.ireturn, 1) := by decide +kernel
theorem dX7_copy_37 : decode cX7_copy 37 = .ok (.aload_n 0, 1) := by decide +kernel
theorem dX7_copy_38 : decode cX7_copy 38 = .ok (.getfield 39, 3) := by decide +kernel
theorem dX7_copy_41 : decode cX7_copy 41 = .ok (.iload_n 1, 1) := by decide +kernel
theorem dX7_copy_42 : decode cX7_copy 42 = .ok (.iaload, 1) := by decide +kernel
theorem dX7_copy_43 : decode cX7_copy 43 = .ok (.aload_n 0, 1) := by decide +kernel
theorem dX7_copy_44 : decode cX7_copy 44 = .ok (.getfield 39, 3) := by decide +kernel
theorem dX7_copy_47 : decode cX7_copy 47 = .ok (.iload_n 3, 1) := by decide +kernel
theorem dX7_copy_48 : decode cX7_copy 48 = .ok (.iaload, 1) := by decide +kernel
theorem dX7_copy_49 : decode cX7_copy 49 = .ok (.if_icmp .eq 6, 3) := by decide +kernel
theorem dX7_copy_52 : decode cX7_copy 52 = .ok (.bipush (-12), 2) := by decide +kernel
theorem dX7_copy_54 : decode cX7_copy 54 = .ok (.ireturn, 1) := by decide +kernel
theorem dX7_copy_55 : decode cX7_copy 55 = .ok (.aload_n 0, 1) := by decide +kernel
theorem dX7_copy_56 : decode cX7_copy 56 = .ok (.iload_n 1, 1) := by decide +kernel
theorem dX7_copy_57 : decode cX7_copy 57 = .ok (.iload_n 2, 1) := by decide +kernel
theorem dX7_copy_58 : decode cX7_copy 58 = .ok (.iload 5, 2) := by decide +kernel
theorem dX7_copy_60 : decode cX7_copy 60 = .ok (.invokevirtual 211, 3) := by decide +kernel
theorem dX7_copy_63 : decode cX7_copy 63 = .ok (.ifCond .eq 15, 3) := by decide +kernel
theorem dX7_copy_66 : decode cX7_copy 66 = .ok (.aload_n 0, 1) := by decide +kernel
theorem dX7_copy_67 : decode cX7_copy 67 = .ok (.iload_n 3, 1) := by decide +kernel
theorem dX7_copy_68 : decode cX7_copy 68 = .ok (.iload 4, 2) := by decide +kernel
theorem dX7_copy_70 : decode cX7_copy 70 = .ok (.iload 5, 2) := by decide +kernel
theorem dX7_copy_72 : decode cX7_copy 72 = .ok (.invokevirtual 211, 3) := by decide +kernel
theorem dX7_copy_75 : decode cX7_copy 75 = .ok (.ifCond .ne 6, 3) := by decide +kernel
theorem dX7_copy_78 : decode cX7_copy 78 = .ok (.bipush (-13), 2) := by decide +kernel
theorem dX7_copy_80 : decode cX7_copy 80 = .ok (.ireturn, 1) := by decide +kernel
theorem dX7_copy_81 : decode cX7_copy 81 = .ok (.iconst 0, 1) := by decide +kernel
theorem dX7_copy_82 : decode cX7_copy 82 = .ok (.istore 6, 2) := by decide +kernel
theorem dX7_copy_84 : decode cX7_copy 84 = .ok (.iload 6, 2) := by decide +kernel
theorem dX7_copy_86 : decode cX7_copy 86 = .ok (.iload 5, 2) := by decide +kernel
theorem dX7_copy_88 : decode cX7_copy 88 = .ok (.if_icmp .ge 58, 3) := by decide +kernel
theorem dX7_copy_91 : decode cX7_copy 91 = .ok (.iload_n 2, 1) := by decide +kernel
theorem dX7_copy_92 : decode cX7_copy 92 = .ok (.iload 4, 2) := by decide +kernel
theorem dX7_copy_94 : decode cX7_copy 94 = .ok (.if_icmp .lt 8, 3) := by decide +kernel
theorem dX7_copy_97 : decode cX7_copy 97 = .ok (.iload 6, 2) := by decide +kernel
theorem dX7_copy_99 : decode cX7_copy 99 = .ok (.goto 10, 3) := by decide +kernel
theorem dX7_copy_102 : decode cX7_copy 102 = .ok (.iload 5, 2) := by decide +kernel
theorem dX7_copy_104 : decode cX7_copy 104 = .ok (.iconst 1, 1) := by decide +kernel
theorem dX7_copy_105 : decode cX7_copy 105 = .ok (.isub, 1) := by decide +kernel
theorem dX7_copy_106 : decode cX7_copy 106 = .ok (.iload 6, 2) := by decide +kernel
theorem dX7_copy_108 : decode cX7_copy 108 = .ok (.isub, 1) := by decide +kernel
theorem dX7_copy_109 : decode cX7_copy 109 = .ok (.istore 7, 2) := by decide +kernel
theorem dX7_copy_111 : decode cX7_copy 111 = .ok (.aload_n 0, 1) := by decide +kernel
theorem dX7_copy_112 : decode cX7_copy 112 = .ok (.getfield 35, 3) := by decide +kernel
theorem dX7_copy_115 : decode cX7_copy 115 = .ok (.bipush 24, 2) := by decide +kernel
theorem dX7_copy_117 : decode cX7_copy 117 = .ok (.iload_n 3, 1) := by decide +kernel
theorem dX7_copy_118 : decode cX7_copy 118 = .ok (.imul, 1) := by decide +kernel
theorem dX7_copy_119 : decode cX7_copy 119 = .ok (.iload 4, 2) := by decide +kernel
theorem dX7_copy_121 : decode cX7_copy 121 = .ok (.iadd, 1) := by decide +kernel
theorem dX7_copy_122 : decode cX7_copy 122 = .ok (.iload 7, 2) := by decide +kernel
theorem dX7_copy_124 : decode cX7_copy 124 = .ok (.iadd, 1) := by decide +kernel
theorem dX7_copy_125 : decode cX7_copy 125 = .ok (.aload_n 0, 1) := by decide +kernel
theorem dX7_copy_126 : decode cX7_copy 126 = .ok (.getfield 35, 3) := by decide +kernel
theorem dX7_copy_129 : decode cX7_copy 129 = .ok (.bipush 24, 2) := by decide +kernel
theorem dX7_copy_131 : decode cX7_copy 131 = .ok (.iload_n 1, 1) := by decide +kernel
theorem dX7_copy_132 : decode cX7_copy 132 = .ok (.imul, 1) := by decide +kernel
theorem dX7_copy_133 : decode cX7_copy 133 = .ok (.iload_n 2, 1) := by decide +kernel
theorem dX7_copy_134 : decode cX7_copy 134 = .ok (.iadd, 1) := by decide +kernel
theorem dX7_copy_135 : decode cX7_copy 135 = .ok (.iload 7, 2) := by decide +kernel
theorem dX7_copy_137 : decode cX7_copy 137 = .ok (.iadd, 1) := by decide +kernel
theorem dX7_copy_138 : decode cX7_copy 138 = .ok (.laload, 1) := by decide +kernel
theorem dX7_copy_139 : decode cX7_copy 139 = .ok (.lastore, 1) := by decide +kernel
theorem dX7_copy_140 : decode cX7_copy 140 = .ok (.iinc 6 1, 3) := by decide +kernel
theorem dX7_copy_143 : decode cX7_copy 143 = .ok (.goto (-59), 3) := by decide +kernel
theorem dX7_copy_146 : decode cX7_copy 146 = .ok (.iload 5, 2) := by decide +kernel
theorem dX7_copy_148 : decode cX7_copy 148 = .ok (.ireturn, 1) := by decide +kernel
end
section
theorem dL_law_0 : decode cL_law 0 = .ok (.new 7, 3) := by decide +kernel
theorem dL_law_3 : decode cL_law 3 = .ok (.dup, 1) := by decide +kernel
theorem dL_law_4 : decode cL_law 4 = .ok (.invokespecial 9, 3) := by decide +kernel
theorem dL_law_7 : decode cL_law 7 = .ok (.astore_n 1, 1) := by decide +kernel
theorem dL_law_8 : decode cL_law 8 = .ok (.new 10, 3) := by decide +kernel
theorem dL_law_11 : decode cL_law 11 = .ok (.dup, 1) := by decide +kernel
theorem dL_law_12 : decode cL_law 12 = .ok (.invokespecial 12, 3) := by decide +kernel
theorem dL_law_15 : decode cL_law 15 = .ok (.astore_n 2, 1) := by decide +kernel
theorem dL_law_16 : decode cL_law 16 = .ok (.iconst 0, 1) := by decide +kernel
theorem dL_law_17 : decode cL_law 17 = .ok (.istore_n 3, 1) := by decide +kernel
theorem dL_law_18 : decode cL_law 18 = .ok (.iload_n 3, 1) := by decide +kernel
theorem dL_law_19 : decode cL_law 19 = .ok (.aload_n 0, 1) := by decide +kernel
theorem dL_law_20 : decode cL_law 20 = .ok (.arraylength, 1) := by decide +kernel
theorem dL_law_21 : decode cL_law 21 = .ok (.bipush 8, 2) := by decide +kernel
theorem dL_law_23 : decode cL_law 23 = .ok (.isub, 1) := by decide +kernel
theorem dL_law_24 : decode cL_law 24 = .ok (.if_icmp .gt 1240, 3) := by decide +kernel
theorem dL_law_27 : decode cL_law 27 = .ok (.aload_n 0, 1) := by decide +kernel
theorem dL_law_28 : decode cL_law 28 = .ok (.iload_n 3, 1) := by decide +kernel
theorem dL_law_29 : decode cL_law 29 = .ok (.iaload, 1) := by decide +kernel
theorem dL_law_30 : decode cL_law 30 = .ok (.bipush 31, 2) := by decide +kernel
theorem dL_law_32 : decode cL_law 32 = .ok (.iand, 1) := by decide +kernel
theorem dL_law_33 : decode cL_law 33 = .ok (.tableswitch 1225 0 31 #[143, 176, 199, 232, 265, 298, 321, 334, 357, 380, 423, 456, 479, 492, 515, 548, 591, 614, 637, 660, 693, 726, 759, 782, 825, 838, 851, 938, 1013, 1056, 1079, 1162], 143) := by decide +kernel
theorem dL_law_176 : decode cL_law 176 = .ok (.aload_n 1, 1) := by decide +kernel
theorem dL_law_177 : decode cL_law 177 = .ok (.aload_n 0, 1) := by decide +kernel
theorem dL_law_178 : decode cL_law 178 = .ok (.iload_n 3, 1) := by decide +kernel
theorem dL_law_179 : decode cL_law 179 = .ok (.iconst 1, 1) := by decide +kernel
theorem dL_law_180 : decode cL_law 180 = .ok (.iadd, 1) := by decide +kernel
theorem dL_law_181 : decode cL_law 181 = .ok (.iaload, 1) := by decide +kernel
theorem dL_law_182 : decode cL_law 182 = .ok (.aload_n 0, 1) := by decide +kernel
theorem dL_law_183 : decode cL_law 183 = .ok (.iload_n 3, 1) := by decide +kernel
theorem dL_law_184 : decode cL_law 184 = .ok (.iconst 2, 1) := by decide +kernel
theorem dL_law_185 : decode cL_law 185 = .ok (.iadd, 1) := by decide +kernel
theorem dL_law_186 : decode cL_law 186 = .ok (.iaload, 1) := by decide +kernel
theorem dL_law_187 : decode cL_law 187 = .ok (.invokevirtual 13, 3) := by decide +kernel
theorem dL_law_190 : decode cL_law 190 = .ok (.aload_n 2, 1) := by decide +kernel
theorem dL_law_191 : decode cL_law 191 = .ok (.aload_n 0, 1) := by decide +kernel
theorem dL_law_192 : decode cL_law 192 = .ok (.iload_n 3, 1) := by decide +kernel
theorem dL_law_193 : decode cL_law 193 = .ok (.iconst 1, 1) := by decide +kernel
theorem dL_law_194 : decode cL_law 194 = .ok (.iadd, 1) := by decide +kernel
theorem dL_law_195 : decode cL_law 195 = .ok (.iaload, 1) := by decide +kernel
theorem dL_law_196 : decode cL_law 196 = .ok (.aload_n 0, 1) := by decide +kernel
theorem dL_law_197 : decode cL_law 197 = .ok (.iload_n 3, 1) := by decide +kernel
theorem dL_law_198 : decode cL_law 198 = .ok (.iconst 2, 1) := by decide +kernel
theorem dL_law_199 : decode cL_law 199 = .ok (.iadd, 1) := by decide +kernel
theorem dL_law_200 : decode cL_law 200 = .ok (.iaload, 1) := by decide +kernel
theorem dL_law_201 : decode cL_law 201 = .ok (.invokevirtual 17, 3) := by decide +kernel
theorem dL_law_204 : decode cL_law 204 = .ok (.if_icmp .eq 1054, 3) := by decide +kernel
theorem dL_law_207 : decode cL_law 207 = .ok (.iconst 0, 1) := by decide +kernel
theorem dL_law_208 : decode cL_law 208 = .ok (.ireturn, 1) := by decide +kernel
theorem dL_law_209 : decode cL_law 209 = .ok (.aload_n 1, 1) := by decide +kernel
theorem dL_law_210 : decode cL_law 210 = .ok (.aload_n 0, 1) := by decide +kernel
theorem dL_law_211 : decode cL_law 211 = .ok (.iload_n 3, 1) := by decide +kernel
theorem dL_law_212 : decode cL_law 212 = .ok (.iconst 1, 1) := by decide +kernel
theorem dL_law_213 : decode cL_law 213 = .ok (.iadd, 1) := by decide +kernel
theorem dL_law_214 : decode cL_law 214 = .ok (.iaload, 1) := by decide +kernel
theorem dL_law_215 : decode cL_law 215 = .ok (.invokevirtual 18, 3) := by decide +kernel
theorem dL_law_218 : decode cL_law 218 = .ok (.aload_n 2, 1) := by decide +kernel
theorem dL_law_219 : decode cL_law 219 = .ok (.aload_n 0, 1) := by decide +kernel
theorem dL_law_220 : decode cL_law 220 = .ok (.iload_n 3, 1) := by decide +kernel
theorem dL_law_221 : decode cL_law 221 = .ok (.iconst 1, 1) := by decide +kernel
theorem dL_law_222 : decode cL_law 222 = .ok (.iadd, 1) := by decide +kernel
theorem dL_law_223 : decode cL_law 223 = .ok (.iaload, 1) := by decide +kernel
theorem dL_law_224 : decode cL_law 224 = .ok (.invokevirtual 22, 3) := by decide +kernel
theorem dL_law_227 : decode cL_law 227 = .ok (.if_icmp .eq 1031, 3) := by decide +kernel
theorem dL_law_230 : decode cL_law 230 = .ok (.iconst 0, 1) := by decide +kernel
theorem dL_law_231 : decode cL_law 231 = .ok (.ireturn, 1) := by decide +kernel
theorem dL_law_232 : decode cL_law 232 = .ok (.aload_n 1, 1) := by decide +kernel
theorem dL_law_233 : decode cL_law 233 = .ok (.aload_n 0, 1) := by decide +kernel
theorem dL_law_234 : decode cL_law 234 = .ok (.iload_n 3, 1) := by decide +kernel
theorem dL_law_235 : decode cL_law 235 = .ok (.iconst 1, 1) := by decide +kernel
theorem dL_law_236 : decode cL_law 236 = .ok (.iadd, 1) := by decide +kernel
theorem dL_law_237 : decode cL_law 237 = .ok (.iaload, 1) := by decide +kernel
theorem dL_law_238 : decode cL_law 238 = .ok (.aload_n 0, 1) := by decide +kernel
theorem dL_law_239 : decode cL_law 239 = .ok (.iload_n 3, 1) := by decide +kernel
theorem dL_law_240 : decode cL_law 240 = .ok (.iconst 2, 1) := by decide +kernel
theorem dL_law_241 : decode cL_law 241 = .ok (.iadd, 1) := by decide +kernel
theorem dL_law_242 : decode cL_law 242 = .ok (.iaload, 1) := by decide +kernel
theorem dL_law_243 : decode cL_law 243 = .ok (.invokevirtual 23, 3) := by decide +kernel
theorem dL_law_246 : decode cL_law 246 = .ok (.aload_n 2, 1) := by decide +kernel
theorem dL_law_247 : decode cL_law 247 = .ok (.aload_n 0, 1) := by decide +kernel
theorem dL_law_248 : decode cL_law 248 = .ok (.iload_n 3, 1) := by decide +kernel
theorem dL_law_249 : decode cL_law 249 = .ok (.iconst 1, 1) := by decide +kernel
theorem dL_law_250 : decode cL_law 250 = .ok (.iadd, 1) := by decide +kernel
theorem dL_law_251 : decode cL_law 251 = .ok (.iaload, 1) := by decide +kernel
theorem dL_law_252 : decode cL_law 252 = .ok (.aload_n 0, 1) := by decide +kernel
theorem dL_law_253 : decode cL_law 253 = .ok (.iload_n 3, 1) := by decide +kernel
theorem dL_law_254 : decode cL_law 254 = .ok (.iconst 2, 1) := by decide +kernel
theorem dL_law_255 : decode cL_law 255 = .ok (.iadd, 1) := by decide +kernel
theorem dL_law_256 : decode cL_law 256 = .ok (.iaload, 1) := by decide +kernel
theorem dL_law_257 : decode cL_law 257 = .ok (.invokevirtual 26, 3) := by decide +kernel
theorem dL_law_260 : decode cL_law 260 = .ok (.if_icmp .eq 998, 3) := by decide +kernel
theorem dL_law_263 : decode cL_law 263 = .ok (.iconst 0, 1) := by decide +kernel
theorem dL_law_264 : decode cL_law 264 = .ok (.ireturn, 1) := by decide +kernel
theorem dL_law_265 : decode cL_law 265 = .ok (.aload_n 1, 1) := by decide +kernel
theorem dL_law_266 : decode cL_law 266 = .ok (.aload_n 0, 1) := by decide +kernel
theorem dL_law_267 : decode cL_law 267 = .ok (.iload_n 3, 1) := by decide +kernel
theorem dL_law_268 : decode cL_law 268 = .ok (.iconst 1, 1) := by decide +kernel
theorem dL_law_269 : decode cL_law 269 = .ok (.iadd, 1) := by decide +kernel
theorem dL_law_270 : decode cL_law 270 = .ok (.iaload, 1) := by decide +kernel
theorem dL_law_271 : decode cL_law 271 = .ok (.aload_n 0, 1) := by decide +kernel
theorem dL_law_272 : decode cL_law 272 = .ok (.iload_n 3, 1) := by decide +kernel
theorem dL_law_273 : decode cL_law 273 = .ok (.iconst 2, 1) := by decide +kernel
theorem dL_law_274 : decode cL_law 274 = .ok (.iadd, 1) := by decide +kernel
theorem dL_law_275 : decode cL_law 275 = .ok (.iaload, 1) := by decide +kernel
theorem dL_law_276 : decode cL_law 276 = .ok (.invokevirtual 27, 3) := by decide +kernel
theorem dL_law_279 : decode cL_law 279 = .ok (.aload_n 2, 1) := by decide +kernel
theorem dL_law_280 : decode cL_law 280 = .ok (.aload_n 0, 1) := by decide +kernel
theorem dL_law_281 : decode cL_law 281 = .ok (.iload_n 3, 1) := by decide +kernel
theorem dL_law_282 : decode cL_law 282 = .ok (.iconst 1, 1) := by decide +kernel
theorem dL_law_283 : decode cL_law 283 = .ok (.iadd, 1) := by decide +kernel
theorem dL_law_284 : decode cL_law 284 = .ok (.iaload, 1) := by decide +kernel
theorem dL_law_285 : decode cL_law 285 = .ok (.aload_n 0, 1) := by decide +kernel
theorem dL_law_286 : decode cL_law 286 = .ok (.iload_n 3, 1) := by decide +kernel
theorem dL_law_287 : decode cL_law 287 = .ok (.iconst 2, 1) := by decide +kernel
theorem dL_law_288 : decode cL_law 288 = .ok (.iadd, 1) := by decide +kernel
theorem dL_law_289 : decode cL_law 289 = .ok (.iaload, 1) := by decide +kernel
theorem dL_law_290 : decode cL_law 290 = .ok (.invokevirtual 30, 3) := by decide +kernel
theorem dL_law_293 : decode cL_law 293 = .ok (.if_icmp .eq 965, 3) := by decide +kernel
theorem dL_law_296 : decode cL_law 296 = .ok (.iconst 0, 1) := by decide +kernel
theorem dL_law_297 : decode cL_law 297 = .ok (.ireturn, 1) := by decide +kernel
theorem dL_law_298 : decode cL_law 298 = .ok (.aload_n 1, 1) := by decide +kernel
theorem dL_law_299 : decode cL_law 299 = .ok (.aload_n 0, 1) := by decide +kernel
theorem dL_law_300 : decode cL_law 300 = .ok (.iload_n 3, 1) := by decide +kernel
theorem dL_law_301 : decode cL_law 301 = .ok (.iconst 1, 1) := by decide +kernel
theorem dL_law_302 : decode cL_law 302 = .ok (.iadd, 1) := by decide +kernel
theorem dL_law_303 : decode cL_law 303 = .ok (.iaload, 1) := by decide +kernel
theorem dL_law_304 : decode cL_law 304 = .ok (.aload_n 0, 1) := by decide +kernel
theorem dL_law_305 : decode cL_law 305 = .ok (.iload_n 3, 1) := by decide +kernel
theorem dL_law_306 : decode cL_law 306 = .ok (.iconst 2, 1) := by decide +kernel
theorem dL_law_307 : decode cL_law 307 = .ok (.iadd, 1) := by decide +kernel
theorem dL_law_308 : decode cL_law 308 = .ok (.iaload, 1) := by decide +kernel
theorem dL_law_309 : decode cL_law 309 = .ok (.invokevirtual 31, 3) := by decide +kernel
theorem dL_law_312 : decode cL_law 312 = .ok (.aload_n 2, 1) := by decide +kernel
theorem dL_law_313 : decode cL_law 313 = .ok (.aload_n 0, 1) := by decide +kernel
theorem dL_law_314 : decode cL_law 314 = .ok (.iload_n 3, 1) := by decide +kernel
theorem dL_law_315 : decode cL_law 315 = .ok (.iconst 1, 1) := by decide +kernel
theorem dL_law_316 : decode cL_law 316 = .ok (.iadd, 1) := by decide +kernel
theorem dL_law_317 : decode cL_law 317 = .ok (.iaload, 1) := by decide +kernel
theorem dL_law_318 : decode cL_law 318 = .ok (.aload_n 0, 1) := by decide +kernel
theorem dL_law_319 : decode cL_law 319 = .ok (.iload_n 3, 1) := by decide +kernel
theorem dL_law_320 : decode cL_law 320 = .ok (.iconst 2, 1) := by decide +kernel
theorem dL_law_321 : decode cL_law 321 = .ok (.iadd, 1) := by decide +kernel
theorem dL_law_322 : decode cL_law 322 = .ok (.iaload, 1) := by decide +kernel
theorem dL_law_323 : decode cL_law 323 = .ok (.invokevirtual 34, 3) := by decide +kernel
theorem dL_law_326 : decode cL_law 326 = .ok (.if_icmp .eq 932, 3) := by decide +kernel
theorem dL_law_329 : decode cL_law 329 = .ok (.iconst 0, 1) := by decide +kernel
theorem dL_law_330 : decode cL_law 330 = .ok (.ireturn, 1) := by decide +kernel
theorem dL_law_331 : decode cL_law 331 = .ok (.aload_n 1, 1) := by decide +kernel
theorem dL_law_332 : decode cL_law 332 = .ok (.aload_n 0, 1) := by decide +kernel
theorem dL_law_333 : decode cL_law 333 = .ok (.iload_n 3, 1) := by decide +kernel
theorem dL_law_334 : decode cL_law 334 = .ok (.iconst 1, 1) := by decide +kernel
theorem dL_law_335 : decode cL_law 335 = .ok (.iadd, 1) := by decide +kernel
theorem dL_law_336 : decode cL_law 336 = .ok (.iaload, 1) := by decide +kernel
theorem dL_law_337 : decode cL_law 337 = .ok (.invokevirtual 35, 3) := by decide +kernel
theorem dL_law_340 : decode cL_law 340 = .ok (.aload_n 2, 1) := by decide +kernel
theorem dL_law_341 : decode cL_law 341 = .ok (.aload_n 0, 1) := by decide +kernel
theorem dL_law_342 : decode cL_law 342 = .ok (.iload_n 3, 1) := by decide +kernel
theorem dL_law_343 : decode cL_law 343 = .ok (.iconst 1, 1) := by decide +kernel
theorem dL_law_344 : decode cL_law 344 = .ok (.iadd, 1) := by decide +kernel
theorem dL_law_345 : decode cL_law 345 = .ok (.iaload, 1) := by decide +kernel
theorem dL_law_346 : decode cL_law 346 = .ok (.invokevirtual 38, 3) := by decide +kernel
theorem dL_law_349 : decode cL_law 349 = .ok (.if_icmp .eq 909, 3) := by decide +kernel
theorem dL_law_352 : decode cL_law 352 = .ok (.iconst 0, 1) := by decide +kernel
theorem dL_law_353 : decode cL_law 353 = .ok (.ireturn, 1) := by decide +kernel
theorem dL_law_354 : decode cL_law 354 = .ok (.aload_n 1, 1) := by decide +kernel
theorem dL_law_355 : decode cL_law 355 = .ok (.invokevirtual 39, 3) := by decide +kernel
theorem dL_law_358 : decode cL_law 358 = .ok (.aload_n 2, 1) := by decide +kernel
theorem dL_law_359 : decode cL_law 359 = .ok (.invokevirtual 43, 3) := by decide +kernel
theorem dL_law_362 : decode cL_law 362 = .ok (.if_icmp .eq 896, 3) := by decide +kernel
theorem dL_law_365 : decode cL_law 365 = .ok (.iconst 0, 1) := by decide +kernel
theorem dL_law_366 : decode cL_law 366 = .ok (.ireturn, 1) := by decide +kernel
theorem dL_law_367 : decode cL_law 367 = .ok (.aload_n 1, 1) := by decide +kernel
theorem dL_law_368 : decode cL_law 368 = .ok (.aload_n 0, 1) := by decide +kernel
theorem dL_law_369 : decode cL_law 369 = .ok (.iload_n 3, 1) := by decide +kernel
theorem dL_law_370 : decode cL_law 370 = .ok (.iconst 1, 1) := by decide +kernel
theorem dL_law_371 : decode cL_law 371 = .ok (.iadd, 1) := by decide +kernel
theorem dL_law_372 : decode cL_law 372 = .ok (.iaload, 1) := by decide +kernel
theorem dL_law_373 : decode cL_law 373 = .ok (.invokevirtual 44, 3) := by decide +kernel
theorem dL_law_376 : decode cL_law 376 = .ok (.aload_n 2, 1) := by decide +kernel
theorem dL_law_377 : decode cL_law 377 = .ok (.aload_n 0, 1) := by decide +kernel
theorem dL_law_378 : decode cL_law 378 = .ok (.iload_n 3, 1) := by decide +kernel
theorem dL_law_379 : decode cL_law 379 = .ok (.iconst 1, 1) := by decide +kernel
theorem dL_law_380 : decode cL_law 380 = .ok (.iadd, 1) := by decide +kernel
theorem dL_law_381 : decode cL_law 381 = .ok (.iaload, 1) := by decide +kernel
theorem dL_law_382 : decode cL_law 382 = .ok (.invokevirtual 47, 3) := by decide +kernel
theorem dL_law_385 : decode cL_law 385 = .ok (.if_icmp .eq 873, 3) := by decide +kernel
theorem dL_law_388 : decode cL_law 388 = .ok (.iconst 0, 1) := by decide +kernel
theorem dL_law_389 : decode cL_law 389 = .ok (.ireturn, 1) := by decide +kernel
theorem dL_law_390 : decode cL_law 390 = .ok (.aload_n 1, 1) := by decide +kernel
theorem dL_law_391 : decode cL_law 391 = .ok (.aload_n 0, 1) := by decide +kernel
theorem dL_law_392 : decode cL_law 392 = .ok (.iload_n 3, 1) := by decide +kernel
theorem dL_law_393 : decode cL_law 393 = .ok (.iconst 1, 1) := by decide +kernel
theorem dL_law_394 : decode cL_law 394 = .ok (.iadd, 1) := by decide +kernel
theorem dL_law_395 : decode cL_law 395 = .ok (.iaload, 1) := by decide +kernel
theorem dL_law_396 : decode cL_law 396 = .ok (.invokevirtual 48, 3) := by decide +kernel
theorem dL_law_399 : decode cL_law 399 = .ok (.aload_n 2, 1) := by decide +kernel
theorem dL_law_400 : decode cL_law 400 = .ok (.aload_n 0, 1) := by decide +kernel
theorem dL_law_401 : decode cL_law 401 = .ok (.iload_n 3, 1) := by decide +kernel
theorem dL_law_402 : decode cL_law 402 = .ok (.iconst 1, 1) := by decide +kernel
theorem dL_law_403 : decode cL_law 403 = .ok (.iadd, 1) := by decide +kernel
theorem dL_law_404 : decode cL_law 404 = .ok (.iaload, 1) := by decide +kernel
theorem dL_law_405 : decode cL_law 405 = .ok (.invokevirtual 51, 3) := by decide +kernel
theorem dL_law_408 : decode cL_law 408 = .ok (.if_icmp .eq 850, 3) := by decide +kernel
theorem dL_law_411 : decode cL_law 411 = .ok (.iconst 0, 1) := by decide +kernel
theorem dL_law_412 : decode cL_law 412 = .ok (.ireturn, 1) := by decide +kernel
theorem dL_law_413 : decode cL_law 413 = .ok (.aload_n 1, 1) := by decide +kernel
theorem dL_law_414 : decode cL_law 414 = .ok (.aload_n 0, 1) := by decide +kernel
theorem dL_law_415 : decode cL_law 415 = .ok (.iload_n 3, 1) := by decide +kernel
theorem dL_law_416 : decode cL_law 416 = .ok (.iconst 1, 1) := by decide +kernel
theorem dL_law_417 : decode cL_law 417 = .ok (.iadd, 1) := by decide +kernel
theorem dL_law_418 : decode cL_law 418 = .ok (.iaload, 1) := by decide +kernel
theorem dL_law_419 : decode cL_law 419 = .ok (.aload_n 0, 1) := by decide +kernel
theorem dL_law_420 : decode cL_law 420 = .ok (.iload_n 3, 1) := by decide +kernel
theorem dL_law_421 : decode cL_law 421 = .ok (.iconst 2, 1) := by decide +kernel
theorem dL_law_422 : decode cL_law 422 = .ok (.iadd, 1) := by decide +kernel
theorem dL_law_423 : decode cL_law 423 = .ok (.iaload, 1) := by decide +kernel
theorem dL_law_424 : decode cL_law 424 = .ok (.aload_n 0, 1) := by decide +kernel
theorem dL_law_425 : decode cL_law 425 = .ok (.iload_n 3, 1) := by decide +kernel
theorem dL_law_426 : decode cL_law 426 = .ok (.iconst 3, 1) := by decide +kernel
theorem dL_law_427 : decode cL_law 427 = .ok (.iadd, 1) := by decide +kernel
theorem dL_law_428 : decode cL_law 428 = .ok (.iaload, 1) := by decide +kernel
theorem dL_law_429 : decode cL_law 429 = .ok (.invokevirtual 52, 3) := by decide +kernel
theorem dL_law_432 : decode cL_law 432 = .ok (.aload_n 2, 1) := by decide +kernel
theorem dL_law_433 : decode cL_law 433 = .ok (.aload_n 0, 1) := by decide +kernel
theorem dL_law_434 : decode cL_law 434 = .ok (.iload_n 3, 1) := by decide +kernel
theorem dL_law_435 : decode cL_law 435 = .ok (.iconst 1, 1) := by decide +kernel
theorem dL_law_436 : decode cL_law 436 = .ok (.iadd, 1) := by decide +kernel
theorem dL_law_437 : decode cL_law 437 = .ok (.iaload, 1) := by decide +kernel
theorem dL_law_438 : decode cL_law 438 = .ok (.aload_n 0, 1) := by decide +kernel
theorem dL_law_439 : decode cL_law 439 = .ok (.iload_n 3, 1) := by decide +kernel
theorem dL_law_440 : decode cL_law 440 = .ok (.iconst 2, 1) := by decide +kernel
theorem dL_law_441 : decode cL_law 441 = .ok (.iadd, 1) := by decide +kernel
theorem dL_law_442 : decode cL_law 442 = .ok (.iaload, 1) := by decide +kernel
theorem dL_law_443 : decode cL_law 443 = .ok (.aload_n 0, 1) := by decide +kernel
theorem dL_law_444 : decode cL_law 444 = .ok (.iload_n 3, 1) := by decide +kernel
theorem dL_law_445 : decode cL_law 445 = .ok (.iconst 3, 1) := by decide +kernel
theorem dL_law_446 : decode cL_law 446 = .ok (.iadd, 1) := by decide +kernel
theorem dL_law_447 : decode cL_law 447 = .ok (.iaload, 1) := by decide +kernel
theorem dL_law_448 : decode cL_law 448 = .ok (.invokevirtual 56, 3) := by decide +kernel
theorem dL_law_451 : decode cL_law 451 = .ok (.if_icmp .eq 807, 3) := by decide +kernel
theorem dL_law_454 : decode cL_law 454 = .ok (.iconst 0, 1) := by decide +kernel
theorem dL_law_455 : decode cL_law 455 = .ok (.ireturn, 1) := by decide +kernel
theorem dL_law_456 : decode cL_law 456 = .ok (.aload_n 1, 1) := by decide +kernel
theorem dL_law_457 : decode cL_law 457 = .ok (.aload_n 0, 1) := by decide +kernel
theorem dL_law_458 : decode cL_law 458 = .ok (.iload_n 3, 1) := by decide +kernel
theorem dL_law_459 : decode cL_law 459 = .ok (.iconst 1, 1) := by decide +kernel
theorem dL_law_460 : decode cL_law 460 = .ok (.iadd, 1) := by decide +kernel
theorem dL_law_461 : decode cL_law 461 = .ok (.iaload, 1) := by decide +kernel
theorem dL_law_462 : decode cL_law 462 = .ok (.aload_n 0, 1) := by decide +kernel
theorem dL_law_463 : decode cL_law 463 = .ok (.iload_n 3, 1) := by decide +kernel
theorem dL_law_464 : decode cL_law 464 = .ok (.iconst 2, 1) := by decide +kernel
theorem dL_law_465 : decode cL_law 465 = .ok (.iadd, 1) := by decide +kernel
theorem dL_law_466 : decode cL_law 466 = .ok (.iaload, 1) := by decide +kernel
theorem dL_law_467 : decode cL_law 467 = .ok (.invokevirtual 57, 3) := by decide +kernel
theorem dL_law_470 : decode cL_law 470 = .ok (.aload_n 2, 1) := by decide +kernel
theorem dL_law_471 : decode cL_law 471 = .ok (.aload_n 0, 1) := by decide +kernel
theorem dL_law_472 : decode cL_law 472 = .ok (.iload_n 3, 1) := by decide +kernel
theorem dL_law_473 : decode cL_law 473 = .ok (.iconst 1, 1) := by decide +kernel
theorem dL_law_474 : decode cL_law 474 = .ok (.iadd, 1) := by decide +kernel
theorem dL_law_475 : decode cL_law 475 = .ok (.iaload, 1) := by decide +kernel
theorem dL_law_476 : decode cL_law 476 = .ok (.aload_n 0, 1) := by decide +kernel
theorem dL_law_477 : decode cL_law 477 = .ok (.iload_n 3, 1) := by decide +kernel
theorem dL_law_478 : decode cL_law 478 = .ok (.iconst 2, 1) := by decide +kernel
theorem dL_law_479 : decode cL_law 479 = .ok (.iadd, 1) := by decide +kernel
theorem dL_law_480 : decode cL_law 480 = .ok (.iaload, 1) := by decide +kernel
theorem dL_law_481 : decode cL_law 481 = .ok (.invokevirtual 60, 3) := by decide +kernel
theorem dL_law_484 : decode cL_law 484 = .ok (.if_icmp .eq 774, 3) := by decide +kernel
theorem dL_law_487 : decode cL_law 487 = .ok (.iconst 0, 1) := by decide +kernel
theorem dL_law_488 : decode cL_law 488 = .ok (.ireturn, 1) := by decide +kernel
theorem dL_law_489 : decode cL_law 489 = .ok (.aload_n 1, 1) := by decide +kernel
theorem dL_law_490 : decode cL_law 490 = .ok (.aload_n 0, 1) := by decide +kernel
theorem dL_law_491 : decode cL_law 491 = .ok (.iload_n 3, 1) := by decide +kernel
theorem dL_law_492 : decode cL_law 492 = .ok (.iconst 1, 1) := by decide +kernel
theorem dL_law_493 : decode cL_law 493 = .ok (.iadd, 1) := by decide +kernel
theorem dL_law_494 : decode cL_law 494 = .ok (.iaload, 1) := by decide +kernel
theorem dL_law_495 : decode cL_law 495 = .ok (.invokevirtual 61, 3) := by decide +kernel
theorem dL_law_498 : decode cL_law 498 = .ok (.aload_n 2, 1) := by decide +kernel
theorem dL_law_499 : decode cL_law 499 = .ok (.aload_n 0, 1) := by decide +kernel
theorem dL_law_500 : decode cL_law 500 = .ok (.iload_n 3, 1) := by decide +kernel
theorem dL_law_501 : decode cL_law 501 = .ok (.iconst 1, 1) := by decide +kernel
theorem dL_law_502 : decode cL_law 502 = .ok (.iadd, 1) := by decide +kernel
theorem dL_law_503 : decode cL_law 503 = .ok (.iaload, 1) := by decide +kernel
theorem dL_law_504 : decode cL_law 504 = .ok (.invokevirtual 64, 3) := by decide +kernel
theorem dL_law_507 : decode cL_law 507 = .ok (.if_icmp .eq 751, 3) := by decide +kernel
theorem dL_law_510 : decode cL_law 510 = .ok (.iconst 0, 1) := by decide +kernel
theorem dL_law_511 : decode cL_law 511 = .ok (.ireturn, 1) := by decide +kernel
theorem dL_law_512 : decode cL_law 512 = .ok (.aload_n 1, 1) := by decide +kernel
theorem dL_law_513 : decode cL_law 513 = .ok (.invokevirtual 65, 3) := by decide +kernel
theorem dL_law_516 : decode cL_law 516 = .ok (.aload_n 2, 1) := by decide +kernel
theorem dL_law_517 : decode cL_law 517 = .ok (.invokevirtual 68, 3) := by decide +kernel
theorem dL_law_520 : decode cL_law 520 = .ok (.if_icmp .eq 738, 3) := by decide +kernel
theorem dL_law_523 : decode cL_law 523 = .ok (.iconst 0, 1) := by decide +kernel
theorem dL_law_524 : decode cL_law 524 = .ok (.ireturn, 1) := by decide +kernel
theorem dL_law_525 : decode cL_law 525 = .ok (.aload_n 1, 1) := by decide +kernel
theorem dL_law_526 : decode cL_law 526 = .ok (.aload_n 0, 1) := by decide +kernel
theorem dL_law_527 : decode cL_law 527 = .ok (.iload_n 3, 1) := by decide +kernel
theorem dL_law_528 : decode cL_law 528 = .ok (.iconst 1, 1) := by decide +kernel
theorem dL_law_529 : decode cL_law 529 = .ok (.iadd, 1) := by decide +kernel
theorem dL_law_530 : decode cL_law 530 = .ok (.iaload, 1) := by decide +kernel
theorem dL_law_531 : decode cL_law 531 = .ok (.invokevirtual 69, 3) := by decide +kernel
theorem dL_law_534 : decode cL_law 534 = .ok (.aload_n 2, 1) := by decide +kernel
theorem dL_law_535 : decode cL_law 535 = .ok (.aload_n 0, 1) := by decide +kernel
theorem dL_law_536 : decode cL_law 536 = .ok (.iload_n 3, 1) := by decide +kernel
theorem dL_law_537 : decode cL_law 537 = .ok (.iconst 1, 1) := by decide +kernel
theorem dL_law_538 : decode cL_law 538 = .ok (.iadd, 1) := by decide +kernel
theorem dL_law_539 : decode cL_law 539 = .ok (.iaload, 1) := by decide +kernel
theorem dL_law_540 : decode cL_law 540 = .ok (.invokevirtual 72, 3) := by decide +kernel
theorem dL_law_543 : decode cL_law 543 = .ok (.if_icmp .eq 715, 3) := by decide +kernel
theorem dL_law_546 : decode cL_law 546 = .ok (.iconst 0, 1) := by decide +kernel
theorem dL_law_547 : decode cL_law 547 = .ok (.ireturn, 1) := by decide +kernel
theorem dL_law_548 : decode cL_law 548 = .ok (.aload_n 1, 1) := by decide +kernel
theorem dL_law_549 : decode cL_law 549 = .ok (.aload_n 0, 1) := by decide +kernel
theorem dL_law_550 : decode cL_law 550 = .ok (.iload_n 3, 1) := by decide +kernel
theorem dL_law_551 : decode cL_law 551 = .ok (.iconst 1, 1) := by decide +kernel
theorem dL_law_552 : decode cL_law 552 = .ok (.iadd, 1) := by decide +kernel
theorem dL_law_553 : decode cL_law 553 = .ok (.iaload, 1) := by decide +kernel
theorem dL_law_554 : decode cL_law 554 = .ok (.aload_n 0, 1) := by decide +kernel
theorem dL_law_555 : decode cL_law 555 = .ok (.iload_n 3, 1) := by decide +kernel
theorem dL_law_556 : decode cL_law 556 = .ok (.iconst 2, 1) := by decide +kernel
theorem dL_law_557 : decode cL_law 557 = .ok (.iadd, 1) := by decide +kernel
theorem dL_law_558 : decode cL_law 558 = .ok (.iaload, 1) := by decide +kernel
theorem dL_law_559 : decode cL_law 559 = .ok (.invokevirtual 73, 3) := by decide +kernel
theorem dL_law_562 : decode cL_law 562 = .ok (.aload_n 2, 1) := by decide +kernel
theorem dL_law_563 : decode cL_law 563 = .ok (.aload_n 0, 1) := by decide +kernel
theorem dL_law_564 : decode cL_law 564 = .ok (.iload_n 3, 1) := by decide +kernel
theorem dL_law_565 : decode cL_law 565 = .ok (.iconst 1, 1) := by decide +kernel
theorem dL_law_566 : decode cL_law 566 = .ok (.iadd, 1) := by decide +kernel
theorem dL_law_567 : decode cL_law 567 = .ok (.iaload, 1) := by decide +kernel
theorem dL_law_568 : decode cL_law 568 = .ok (.aload_n 0, 1) := by decide +kernel
theorem dL_law_569 : decode cL_law 569 = .ok (.iload_n 3, 1) := by decide +kernel
theorem dL_law_570 : decode cL_law 570 = .ok (.iconst 2, 1) := by decide +kernel
theorem dL_law_571 : decode cL_law 571 = .ok (.iadd, 1) := by decide +kernel
theorem dL_law_572 : decode cL_law 572 = .ok (.iaload, 1) := by decide +kernel
theorem dL_law_573 : decode cL_law 573 = .ok (.invokevirtual 76, 3) := by decide +kernel
theorem dL_law_576 : decode cL_law 576 = .ok (.if_icmp .eq 682, 3) := by decide +kernel
theorem dL_law_579 : decode cL_law 579 = .ok (.iconst 0, 1) := by decide +kernel
theorem dL_law_580 : decode cL_law 580 = .ok (.ireturn, 1) := by decide +kernel
theorem dL_law_581 : decode cL_law 581 = .ok (.aload_n 1, 1) := by decide +kernel
theorem dL_law_582 : decode cL_law 582 = .ok (.aload_n 0, 1) := by decide +kernel
theorem dL_law_583 : decode cL_law 583 = .ok (.iload_n 3, 1) := by decide +kernel
theorem dL_law_584 : decode cL_law 584 = .ok (.iconst 1, 1) := by decide +kernel
theorem dL_law_585 : decode cL_law 585 = .ok (.iadd, 1) := by decide +kernel
theorem dL_law_586 : decode cL_law 586 = .ok (.iaload, 1) := by decide +kernel
theorem dL_law_587 : decode cL_law 587 = .ok (.aload_n 0, 1) := by decide +kernel
theorem dL_law_588 : decode cL_law 588 = .ok (.iload_n 3, 1) := by decide +kernel
theorem dL_law_589 : decode cL_law 589 = .ok (.iconst 2, 1) := by decide +kernel
theorem dL_law_590 : decode cL_law 590 = .ok (.iadd, 1) := by decide +kernel
theorem dL_law_591 : decode cL_law 591 = .ok (.iaload, 1) := by decide +kernel
theorem dL_law_592 : decode cL_law 592 = .ok (.aload_n 0, 1) := by decide +kernel
theorem dL_law_593 : decode cL_law 593 = .ok (.iload_n 3, 1) := by decide +kernel
theorem dL_law_594 : decode cL_law 594 = .ok (.iconst 3, 1) := by decide +kernel
theorem dL_law_595 : decode cL_law 595 = .ok (.iadd, 1) := by decide +kernel
theorem dL_law_596 : decode cL_law 596 = .ok (.iaload, 1) := by decide +kernel
theorem dL_law_597 : decode cL_law 597 = .ok (.invokevirtual 77, 3) := by decide +kernel
theorem dL_law_600 : decode cL_law 600 = .ok (.aload_n 2, 1) := by decide +kernel
theorem dL_law_601 : decode cL_law 601 = .ok (.aload_n 0, 1) := by decide +kernel
theorem dL_law_602 : decode cL_law 602 = .ok (.iload_n 3, 1) := by decide +kernel
theorem dL_law_603 : decode cL_law 603 = .ok (.iconst 1, 1) := by decide +kernel
theorem dL_law_604 : decode cL_law 604 = .ok (.iadd, 1) := by decide +kernel
theorem dL_law_605 : decode cL_law 605 = .ok (.iaload, 1) := by decide +kernel
theorem dL_law_606 : decode cL_law 606 = .ok (.aload_n 0, 1) := by decide +kernel
theorem dL_law_607 : decode cL_law 607 = .ok (.iload_n 3, 1) := by decide +kernel
theorem dL_law_608 : decode cL_law 608 = .ok (.iconst 2, 1) := by decide +kernel
theorem dL_law_609 : decode cL_law 609 = .ok (.iadd, 1) := by decide +kernel
theorem dL_law_610 : decode cL_law 610 = .ok (.iaload, 1) := by decide +kernel
theorem dL_law_611 : decode cL_law 611 = .ok (.aload_n 0, 1) := by decide +kernel
theorem dL_law_612 : decode cL_law 612 = .ok (.iload_n 3, 1) := by decide +kernel
theorem dL_law_613 : decode cL_law 613 = .ok (.iconst 3, 1) := by decide +kernel
theorem dL_law_614 : decode cL_law 614 = .ok (.iadd, 1) := by decide +kernel
theorem dL_law_615 : decode cL_law 615 = .ok (.iaload, 1) := by decide +kernel
theorem dL_law_616 : decode cL_law 616 = .ok (.invokevirtual 80, 3) := by decide +kernel
theorem dL_law_619 : decode cL_law 619 = .ok (.if_icmp .eq 639, 3) := by decide +kernel
theorem dL_law_622 : decode cL_law 622 = .ok (.iconst 0, 1) := by decide +kernel
theorem dL_law_623 : decode cL_law 623 = .ok (.ireturn, 1) := by decide +kernel
theorem dL_law_624 : decode cL_law 624 = .ok (.aload_n 1, 1) := by decide +kernel
theorem dL_law_625 : decode cL_law 625 = .ok (.aload_n 0, 1) := by decide +kernel
theorem dL_law_626 : decode cL_law 626 = .ok (.iload_n 3, 1) := by decide +kernel
theorem dL_law_627 : decode cL_law 627 = .ok (.iconst 1, 1) := by decide +kernel
theorem dL_law_628 : decode cL_law 628 = .ok (.iadd, 1) := by decide +kernel
theorem dL_law_629 : decode cL_law 629 = .ok (.iaload, 1) := by decide +kernel
theorem dL_law_630 : decode cL_law 630 = .ok (.invokevirtual 81, 3) := by decide +kernel
theorem dL_law_633 : decode cL_law 633 = .ok (.aload_n 2, 1) := by decide +kernel
theorem dL_law_634 : decode cL_law 634 = .ok (.aload_n 0, 1) := by decide +kernel
theorem dL_law_635 : decode cL_law 635 = .ok (.iload_n 3, 1) := by decide +kernel
theorem dL_law_636 : decode cL_law 636 = .ok (.iconst 1, 1) := by decide +kernel
theorem dL_law_637 : decode cL_law 637 = .ok (.iadd, 1) := by decide +kernel
theorem dL_law_638 : decode cL_law 638 = .ok (.iaload, 1) := by decide +kernel
theorem dL_law_639 : decode cL_law 639 = .ok (.invokevirtual 84, 3) := by decide +kernel
theorem dL_law_642 : decode cL_law 642 = .ok (.if_icmp .eq 616, 3) := by decide +kernel
theorem dL_law_645 : decode cL_law 645 = .ok (.iconst 0, 1) := by decide +kernel
theorem dL_law_646 : decode cL_law 646 = .ok (.ireturn, 1) := by decide +kernel
theorem dL_law_647 : decode cL_law 647 = .ok (.aload_n 1, 1) := by decide +kernel
theorem dL_law_648 : decode cL_law 648 = .ok (.aload_n 0, 1) := by decide +kernel
theorem dL_law_649 : decode cL_law 649 = .ok (.iload_n 3, 1) := by decide +kernel
theorem dL_law_650 : decode cL_law 650 = .ok (.iconst 1, 1) := by decide +kernel
theorem dL_law_651 : decode cL_law 651 = .ok (.iadd, 1) := by decide +kernel
theorem dL_law_652 : decode cL_law 652 = .ok (.iaload, 1) := by decide +kernel
theorem dL_law_653 : decode cL_law 653 = .ok (.invokevirtual 85, 3) := by decide +kernel
theorem dL_law_656 : decode cL_law 656 = .ok (.aload_n 2, 1) := by decide +kernel
theorem dL_law_657 : decode cL_law 657 = .ok (.aload_n 0, 1) := by decide +kernel
theorem dL_law_658 : decode cL_law 658 = .ok (.iload_n 3, 1) := by decide +kernel
theorem dL_law_659 : decode cL_law 659 = .ok (.iconst 1, 1) := by decide +kernel
theorem dL_law_660 : decode cL_law 660 = .ok (.iadd, 1) := by decide +kernel
theorem dL_law_661 : decode cL_law 661 = .ok (.iaload, 1) := by decide +kernel
theorem dL_law_662 : decode cL_law 662 = .ok (.invokevirtual 88, 3) := by decide +kernel
theorem dL_law_665 : decode cL_law 665 = .ok (.if_icmp .eq 593, 3) := by decide +kernel
theorem dL_law_668 : decode cL_law 668 = .ok (.iconst 0, 1) := by decide +kernel
theorem dL_law_669 : decode cL_law 669 = .ok (.ireturn, 1) := by decide +kernel
theorem dL_law_670 : decode cL_law 670 = .ok (.aload_n 1, 1) := by decide +kernel
theorem dL_law_671 : decode cL_law 671 = .ok (.aload_n 0, 1) := by decide +kernel
theorem dL_law_672 : decode cL_law 672 = .ok (.iload_n 3, 1) := by decide +kernel
theorem dL_law_673 : decode cL_law 673 = .ok (.iconst 1, 1) := by decide +kernel
theorem dL_law_674 : decode cL_law 674 = .ok (.iadd, 1) := by decide +kernel
theorem dL_law_675 : decode cL_law 675 = .ok (.iaload, 1) := by decide +kernel
theorem dL_law_676 : decode cL_law 676 = .ok (.invokevirtual 89, 3) := by decide +kernel
theorem dL_law_679 : decode cL_law 679 = .ok (.aload_n 2, 1) := by decide +kernel
theorem dL_law_680 : decode cL_law 680 = .ok (.aload_n 0, 1) := by decide +kernel
theorem dL_law_681 : decode cL_law 681 = .ok (.iload_n 3, 1) := by decide +kernel
theorem dL_law_682 : decode cL_law 682 = .ok (.iconst 1, 1) := by decide +kernel
theorem dL_law_683 : decode cL_law 683 = .ok (.iadd, 1) := by decide +kernel
theorem dL_law_684 : decode cL_law 684 = .ok (.iaload, 1) := by decide +kernel
theorem dL_law_685 : decode cL_law 685 = .ok (.invokevirtual 92, 3) := by decide +kernel
theorem dL_law_688 : decode cL_law 688 = .ok (.if_icmp .eq 570, 3) := by decide +kernel
theorem dL_law_691 : decode cL_law 691 = .ok (.iconst 0, 1) := by decide +kernel
theorem dL_law_692 : decode cL_law 692 = .ok (.ireturn, 1) := by decide +kernel
theorem dL_law_693 : decode cL_law 693 = .ok (.aload_n 1, 1) := by decide +kernel
theorem dL_law_694 : decode cL_law 694 = .ok (.aload_n 0, 1) := by decide +kernel
theorem dL_law_695 : decode cL_law 695 = .ok (.iload_n 3, 1) := by decide +kernel
theorem dL_law_696 : decode cL_law 696 = .ok (.iconst 1, 1) := by decide +kernel
theorem dL_law_697 : decode cL_law 697 = .ok (.iadd, 1) := by decide +kernel
theorem dL_law_698 : decode cL_law 698 = .ok (.iaload, 1) := by decide +kernel
theorem dL_law_699 : decode cL_law 699 = .ok (.aload_n 0, 1) := by decide +kernel
theorem dL_law_700 : decode cL_law 700 = .ok (.iload_n 3, 1) := by decide +kernel
theorem dL_law_701 : decode cL_law 701 = .ok (.iconst 2, 1) := by decide +kernel
theorem dL_law_702 : decode cL_law 702 = .ok (.iadd, 1) := by decide +kernel
theorem dL_law_703 : decode cL_law 703 = .ok (.iaload, 1) := by decide +kernel
theorem dL_law_704 : decode cL_law 704 = .ok (.invokevirtual 93, 3) := by decide +kernel
theorem dL_law_707 : decode cL_law 707 = .ok (.aload_n 2, 1) := by decide +kernel
theorem dL_law_708 : decode cL_law 708 = .ok (.aload_n 0, 1) := by decide +kernel
theorem dL_law_709 : decode cL_law 709 = .ok (.iload_n 3, 1) := by decide +kernel
theorem dL_law_710 : decode cL_law 710 = .ok (.iconst 1, 1) := by decide +kernel
theorem dL_law_711 : decode cL_law 711 = .ok (.iadd, 1) := by decide +kernel
theorem dL_law_712 : decode cL_law 712 = .ok (.iaload, 1) := by decide +kernel
theorem dL_law_713 : decode cL_law 713 = .ok (.aload_n 0, 1) := by decide +kernel
theorem dL_law_714 : decode cL_law 714 = .ok (.iload_n 3, 1) := by decide +kernel
theorem dL_law_715 : decode cL_law 715 = .ok (.iconst 2, 1) := by decide +kernel
theorem dL_law_716 : decode cL_law 716 = .ok (.iadd, 1) := by decide +kernel
theorem dL_law_717 : decode cL_law 717 = .ok (.iaload, 1) := by decide +kernel
theorem dL_law_718 : decode cL_law 718 = .ok (.invokevirtual 96, 3) := by decide +kernel
theorem dL_law_721 : decode cL_law 721 = .ok (.if_icmp .eq 537, 3) := by decide +kernel
theorem dL_law_724 : decode cL_law 724 = .ok (.iconst 0, 1) := by decide +kernel
theorem dL_law_725 : decode cL_law 725 = .ok (.ireturn, 1) := by decide +kernel
theorem dL_law_726 : decode cL_law 726 = .ok (.aload_n 1, 1) := by decide +kernel
theorem dL_law_727 : decode cL_law 727 = .ok (.aload_n 0, 1) := by decide +kernel
theorem dL_law_728 : decode cL_law 728 = .ok (.iload_n 3, 1) := by decide +kernel
theorem dL_law_729 : decode cL_law 729 = .ok (.iconst 1, 1) := by decide +kernel
theorem dL_law_730 : decode cL_law 730 = .ok (.iadd, 1) := by decide +kernel
theorem dL_law_731 : decode cL_law 731 = .ok (.iaload, 1) := by decide +kernel
theorem dL_law_732 : decode cL_law 732 = .ok (.aload_n 0, 1) := by decide +kernel
theorem dL_law_733 : decode cL_law 733 = .ok (.iload_n 3, 1) := by decide +kernel
theorem dL_law_734 : decode cL_law 734 = .ok (.iconst 2, 1) := by decide +kernel
theorem dL_law_735 : decode cL_law 735 = .ok (.iadd, 1) := by decide +kernel
theorem dL_law_736 : decode cL_law 736 = .ok (.iaload, 1) := by decide +kernel
theorem dL_law_737 : decode cL_law 737 = .ok (.invokevirtual 97, 3) := by decide +kernel
theorem dL_law_740 : decode cL_law 740 = .ok (.aload_n 2, 1) := by decide +kernel
theorem dL_law_741 : decode cL_law 741 = .ok (.aload_n 0, 1) := by decide +kernel
theorem dL_law_742 : decode cL_law 742 = .ok (.iload_n 3, 1) := by decide +kernel
theorem dL_law_743 : decode cL_law 743 = .ok (.iconst 1, 1) := by decide +kernel
theorem dL_law_744 : decode cL_law 744 = .ok (.iadd, 1) := by decide +kernel
theorem dL_law_745 : decode cL_law 745 = .ok (.iaload, 1) := by decide +kernel
theorem dL_law_746 : decode cL_law 746 = .ok (.aload_n 0, 1) := by decide +kernel
theorem dL_law_747 : decode cL_law 747 = .ok (.iload_n 3, 1) := by decide +kernel
theorem dL_law_748 : decode cL_law 748 = .ok (.iconst 2, 1) := by decide +kernel
theorem dL_law_749 : decode cL_law 749 = .ok (.iadd, 1) := by decide +kernel
theorem dL_law_750 : decode cL_law 750 = .ok (.iaload, 1) := by decide +kernel
theorem dL_law_751 : decode cL_law 751 = .ok (.invokevirtual 100, 3) := by decide +kernel
theorem dL_law_754 : decode cL_law 754 = .ok (.if_icmp .eq 504, 3) := by decide +kernel
theorem dL_law_757 : decode cL_law 757 = .ok (.iconst 0, 1) := by decide +kernel
theorem dL_law_758 : decode cL_law 758 = .ok (.ireturn, 1) := by decide +kernel
theorem dL_law_759 : decode cL_law 759 = .ok (.aload_n 1, 1) := by decide +kernel
theorem dL_law_760 : decode cL_law 760 = .ok (.aload_n 0, 1) := by decide +kernel
theorem dL_law_761 : decode cL_law 761 = .ok (.iload_n 3, 1) := by decide +kernel
theorem dL_law_762 : decode cL_law 762 = .ok (.iconst 1, 1) := by decide +kernel
theorem dL_law_763 : decode cL_law 763 = .ok (.iadd, 1) := by decide +kernel
theorem dL_law_764 : decode cL_law 764 = .ok (.iaload, 1) := by decide +kernel
theorem dL_law_765 : decode cL_law 765 = .ok (.aload_n 0, 1) := by decide +kernel
theorem dL_law_766 : decode cL_law 766 = .ok (.iload_n 3, 1) := by decide +kernel
theorem dL_law_767 : decode cL_law 767 = .ok (.iconst 2, 1) := by decide +kernel
theorem dL_law_768 : decode cL_law 768 = .ok (.iadd, 1) := by decide +kernel
theorem dL_law_769 : decode cL_law 769 = .ok (.iaload, 1) := by decide +kernel
theorem dL_law_770 : decode cL_law 770 = .ok (.invokevirtual 101, 3) := by decide +kernel
theorem dL_law_773 : decode cL_law 773 = .ok (.aload_n 2, 1) := by decide +kernel
theorem dL_law_774 : decode cL_law 774 = .ok (.aload_n 0, 1) := by decide +kernel
theorem dL_law_775 : decode cL_law 775 = .ok (.iload_n 3, 1) := by decide +kernel
theorem dL_law_776 : decode cL_law 776 = .ok (.iconst 1, 1) := by decide +kernel
theorem dL_law_777 : decode cL_law 777 = .ok (.iadd, 1) := by decide +kernel
theorem dL_law_778 : decode cL_law 778 = .ok (.iaload, 1) := by decide +kernel
theorem dL_law_779 : decode cL_law 779 = .ok (.aload_n 0, 1) := by decide +kernel
theorem dL_law_780 : decode cL_law 780 = .ok (.iload_n 3, 1) := by decide +kernel
theorem dL_law_781 : decode cL_law 781 = .ok (.iconst 2, 1) := by decide +kernel
theorem dL_law_782 : decode cL_law 782 = .ok (.iadd, 1) := by decide +kernel
theorem dL_law_783 : decode cL_law 783 = .ok (.iaload, 1) := by decide +kernel
theorem dL_law_784 : decode cL_law 784 = .ok (.invokevirtual 104, 3) := by decide +kernel
theorem dL_law_787 : decode cL_law 787 = .ok (.if_icmp .eq 471, 3) := by decide +kernel
theorem dL_law_790 : decode cL_law 790 = .ok (.iconst 0, 1) := by decide +kernel
theorem dL_law_791 : decode cL_law 791 = .ok (.ireturn, 1) := by decide +kernel
theorem dL_law_792 : decode cL_law 792 = .ok (.aload_n 1, 1) := by decide +kernel
theorem dL_law_793 : decode cL_law 793 = .ok (.aload_n 0, 1) := by decide +kernel
theorem dL_law_794 : decode cL_law 794 = .ok (.iload_n 3, 1) := by decide +kernel
theorem dL_law_795 : decode cL_law 795 = .ok (.iconst 1, 1) := by decide +kernel
theorem dL_law_796 : decode cL_law 796 = .ok (.iadd, 1) := by decide +kernel
theorem dL_law_797 : decode cL_law 797 = .ok (.iaload, 1) := by decide +kernel
theorem dL_law_798 : decode cL_law 798 = .ok (.invokevirtual 105, 3) := by decide +kernel
theorem dL_law_801 : decode cL_law 801 = .ok (.aload_n 2, 1) := by decide +kernel
theorem dL_law_802 : decode cL_law 802 = .ok (.aload_n 0, 1) := by decide +kernel
theorem dL_law_803 : decode cL_law 803 = .ok (.iload_n 3, 1) := by decide +kernel
theorem dL_law_804 : decode cL_law 804 = .ok (.iconst 1, 1) := by decide +kernel
theorem dL_law_805 : decode cL_law 805 = .ok (.iadd, 1) := by decide +kernel
theorem dL_law_806 : decode cL_law 806 = .ok (.iaload, 1) := by decide +kernel
theorem dL_law_807 : decode cL_law 807 = .ok (.invokevirtual 108, 3) := by decide +kernel
theorem dL_law_810 : decode cL_law 810 = .ok (.if_icmp .eq 448, 3) := by decide +kernel
theorem dL_law_813 : decode cL_law 813 = .ok (.iconst 0, 1) := by decide +kernel
theorem dL_law_814 : decode cL_law 814 = .ok (.ireturn, 1) := by decide +kernel
theorem dL_law_815 : decode cL_law 815 = .ok (.aload_n 1, 1) := by decide +kernel
theorem dL_law_816 : decode cL_law 816 = .ok (.aload_n 0, 1) := by decide +kernel
theorem dL_law_817 : decode cL_law 817 = .ok (.iload_n 3, 1) := by decide +kernel
theorem dL_law_818 : decode cL_law 818 = .ok (.iconst 1, 1) := by decide +kernel
theorem dL_law_819 : decode cL_law 819 = .ok (.iadd, 1) := by decide +kernel
theorem dL_law_820 : decode cL_law 820 = .ok (.iaload, 1) := by decide +kernel
theorem dL_law_821 : decode cL_law 821 = .ok (.aload_n 0, 1) := by decide +kernel
theorem dL_law_822 : decode cL_law 822 = .ok (.iload_n 3, 1) := by decide +kernel
theorem dL_law_823 : decode cL_law 823 = .ok (.iconst 2, 1) := by decide +kernel
theorem dL_law_824 : decode cL_law 824 = .ok (.iadd, 1) := by decide +kernel
theorem dL_law_825 : decode cL_law 825 = .ok (.iaload, 1) := by decide +kernel
theorem dL_law_826 : decode cL_law 826 = .ok (.aload_n 0, 1) := by decide +kernel
theorem dL_law_827 : decode cL_law 827 = .ok (.iload_n 3, 1) := by decide +kernel
theorem dL_law_828 : decode cL_law 828 = .ok (.iconst 3, 1) := by decide +kernel
theorem dL_law_829 : decode cL_law 829 = .ok (.iadd, 1) := by decide +kernel
theorem dL_law_830 : decode cL_law 830 = .ok (.iaload, 1) := by decide +kernel
theorem dL_law_831 : decode cL_law 831 = .ok (.invokevirtual 109, 3) := by decide +kernel
theorem dL_law_834 : decode cL_law 834 = .ok (.aload_n 2, 1) := by decide +kernel
theorem dL_law_835 : decode cL_law 835 = .ok (.aload_n 0, 1) := by decide +kernel
theorem dL_law_836 : decode cL_law 836 = .ok (.iload_n 3, 1) := by decide +kernel
theorem dL_law_837 : decode cL_law 837 = .ok (.iconst 1, 1) := by decide +kernel
theorem dL_law_838 : decode cL_law 838 = .ok (.iadd, 1) := by decide +kernel
theorem dL_law_839 : decode cL_law 839 = .ok (.iaload, 1) := by decide +kernel
theorem dL_law_840 : decode cL_law 840 = .ok (.aload_n 0, 1) := by decide +kernel
theorem dL_law_841 : decode cL_law 841 = .ok (.iload_n 3, 1) := by decide +kernel
theorem dL_law_842 : decode cL_law 842 = .ok (.iconst 2, 1) := by decide +kernel
theorem dL_law_843 : decode cL_law 843 = .ok (.iadd, 1) := by decide +kernel
theorem dL_law_844 : decode cL_law 844 = .ok (.iaload, 1) := by decide +kernel
theorem dL_law_845 : decode cL_law 845 = .ok (.aload_n 0, 1) := by decide +kernel
theorem dL_law_846 : decode cL_law 846 = .ok (.iload_n 3, 1) := by decide +kernel
theorem dL_law_847 : decode cL_law 847 = .ok (.iconst 3, 1) := by decide +kernel
theorem dL_law_848 : decode cL_law 848 = .ok (.iadd, 1) := by decide +kernel
theorem dL_law_849 : decode cL_law 849 = .ok (.iaload, 1) := by decide +kernel
theorem dL_law_850 : decode cL_law 850 = .ok (.invokevirtual 112, 3) := by decide +kernel
theorem dL_law_853 : decode cL_law 853 = .ok (.if_icmp .eq 405, 3) := by decide +kernel
theorem dL_law_856 : decode cL_law 856 = .ok (.iconst 0, 1) := by decide +kernel
theorem dL_law_857 : decode cL_law 857 = .ok (.ireturn, 1) := by decide +kernel
theorem dL_law_858 : decode cL_law 858 = .ok (.aload_n 1, 1) := by decide +kernel
theorem dL_law_859 : decode cL_law 859 = .ok (.invokevirtual 113, 3) := by decide +kernel
theorem dL_law_862 : decode cL_law 862 = .ok (.aload_n 2, 1) := by decide +kernel
theorem dL_law_863 : decode cL_law 863 = .ok (.invokevirtual 116, 3) := by decide +kernel
theorem dL_law_866 : decode cL_law 866 = .ok (.if_icmp .eq 392, 3) := by decide +kernel
theorem dL_law_869 : decode cL_law 869 = .ok (.iconst 0, 1) := by decide +kernel
theorem dL_law_870 : decode cL_law 870 = .ok (.ireturn, 1) := by decide +kernel
theorem dL_law_871 : decode cL_law 871 = .ok (.aload_n 1, 1) := by decide +kernel
theorem dL_law_872 : decode cL_law 872 = .ok (.invokevirtual 117, 3) := by decide +kernel
theorem dL_law_875 : decode cL_law 875 = .ok (.aload_n 2, 1) := by decide +kernel
theorem dL_law_876 : decode cL_law 876 = .ok (.invokevirtual 120, 3) := by decide +kernel
theorem dL_law_879 : decode cL_law 879 = .ok (.if_icmp .eq 379, 3) := by decide +kernel
theorem dL_law_882 : decode cL_law 882 = .ok (.iconst 0, 1) := by decide +kernel
theorem dL_law_883 : decode cL_law 883 = .ok (.ireturn, 1) := by decide +kernel
theorem dL_law_884 : decode cL_law 884 = .ok (.aload_n 1, 1) := by decide +kernel
theorem dL_law_885 : decode cL_law 885 = .ok (.aload_n 0, 1) := by decide +kernel
theorem dL_law_886 : decode cL_law 886 = .ok (.iload_n 3, 1) := by decide +kernel
theorem dL_law_887 : decode cL_law 887 = .ok (.iconst 1, 1) := by decide +kernel
theorem dL_law_888 : decode cL_law 888 = .ok (.iadd, 1) := by decide +kernel
theorem dL_law_889 : decode cL_law 889 = .ok (.iaload, 1) := by decide +kernel
theorem dL_law_890 : decode cL_law 890 = .ok (.aload_n 0, 1) := by decide +kernel
theorem dL_law_891 : decode cL_law 891 = .ok (.iload_n 3, 1) := by decide +kernel
theorem dL_law_892 : decode cL_law 892 = .ok (.iconst 2, 1) := by decide +kernel
theorem dL_law_893 : decode cL_law 893 = .ok (.iadd, 1) := by decide +kernel
theorem dL_law_894 : decode cL_law 894 = .ok (.iaload, 1) := by decide +kernel
theorem dL_law_895 : decode cL_law 895 = .ok (.aload_n 0, 1) := by decide +kernel
theorem dL_law_896 : decode cL_law 896 = .ok (.iload_n 3, 1) := by decide +kernel
theorem dL_law_897 : decode cL_law 897 = .ok (.iconst 3, 1) := by decide +kernel
theorem dL_law_898 : decode cL_law 898 = .ok (.iadd, 1) := by decide +kernel
theorem dL_law_899 : decode cL_law 899 = .ok (.iaload, 1) := by decide +kernel
theorem dL_law_900 : decode cL_law 900 = .ok (.aload_n 0, 1) := by decide +kernel
theorem dL_law_901 : decode cL_law 901 = .ok (.iload_n 3, 1) := by decide +kernel
theorem dL_law_902 : decode cL_law 902 = .ok (.iconst 4, 1) := by decide +kernel
theorem dL_law_903 : decode cL_law 903 = .ok (.iadd, 1) := by decide +kernel
theorem dL_law_904 : decode cL_law 904 = .ok (.iaload, 1) := by decide +kernel
theorem dL_law_905 : decode cL_law 905 = .ok (.aload_n 0, 1) := by decide +kernel
theorem dL_law_906 : decode cL_law 906 = .ok (.iload_n 3, 1) := by decide +kernel
theorem dL_law_907 : decode cL_law 907 = .ok (.iconst 5, 1) := by decide +kernel
theorem dL_law_908 : decode cL_law 908 = .ok (.iadd, 1) := by decide +kernel
theorem dL_law_909 : decode cL_law 909 = .ok (.iaload, 1) := by decide +kernel
theorem dL_law_910 : decode cL_law 910 = .ok (.aload_n 0, 1) := by decide +kernel
theorem dL_law_911 : decode cL_law 911 = .ok (.iload_n 3, 1) := by decide +kernel
theorem dL_law_912 : decode cL_law 912 = .ok (.bipush 6, 2) := by decide +kernel
theorem dL_law_914 : decode cL_law 914 = .ok (.iadd, 1) := by decide +kernel
theorem dL_law_915 : decode cL_law 915 = .ok (.iaload, 1) := by decide +kernel
theorem dL_law_916 : decode cL_law 916 = .ok (.aload_n 0, 1) := by decide +kernel
theorem dL_law_917 : decode cL_law 917 = .ok (.iload_n 3, 1) := by decide +kernel
theorem dL_law_918 : decode cL_law 918 = .ok (.bipush 7, 2) := by decide +kernel
theorem dL_law_920 : decode cL_law 920 = .ok (.iadd, 1) := by decide +kernel
theorem dL_law_921 : decode cL_law 921 = .ok (.iaload, 1) := by decide +kernel
theorem dL_law_922 : decode cL_law 922 = .ok (.invokevirtual 121, 3) := by decide +kernel
theorem dL_law_925 : decode cL_law 925 = .ok (.aload_n 2, 1) := by decide +kernel
theorem dL_law_926 : decode cL_law 926 = .ok (.aload_n 0, 1) := by decide +kernel
theorem dL_law_927 : decode cL_law 927 = .ok (.iload_n 3, 1) := by decide +kernel
theorem dL_law_928 : decode cL_law 928 = .ok (.iconst 1, 1) := by decide +kernel
theorem dL_law_929 : decode cL_law 929 = .ok (.iadd, 1) := by decide +kernel
theorem dL_law_930 : decode cL_law 930 = .ok (.iaload, 1) := by decide +kernel
theorem dL_law_931 : decode cL_law 931 = .ok (.aload_n 0, 1) := by decide +kernel
theorem dL_law_932 : decode cL_law 932 = .ok (.iload_n 3, 1) := by decide +kernel
theorem dL_law_933 : decode cL_law 933 = .ok (.iconst 2, 1) := by decide +kernel
theorem dL_law_934 : decode cL_law 934 = .ok (.iadd, 1) := by decide +kernel
theorem dL_law_935 : decode cL_law 935 = .ok (.iaload, 1) := by decide +kernel
theorem dL_law_936 : decode cL_law 936 = .ok (.aload_n 0, 1) := by decide +kernel
theorem dL_law_937 : decode cL_law 937 = .ok (.iload_n 3, 1) := by decide +kernel
theorem dL_law_938 : decode cL_law 938 = .ok (.iconst 3, 1) := by decide +kernel
theorem dL_law_939 : decode cL_law 939 = .ok (.iadd, 1) := by decide +kernel
theorem dL_law_940 : decode cL_law 940 = .ok (.iaload, 1) := by decide +kernel
theorem dL_law_941 : decode cL_law 941 = .ok (.aload_n 0, 1) := by decide +kernel
theorem dL_law_942 : decode cL_law 942 = .ok (.iload_n 3, 1) := by decide +kernel
theorem dL_law_943 : decode cL_law 943 = .ok (.iconst 4, 1) := by decide +kernel
theorem dL_law_944 : decode cL_law 944 = .ok (.iadd, 1) := by decide +kernel
theorem dL_law_945 : decode cL_law 945 = .ok (.iaload, 1) := by decide +kernel
theorem dL_law_946 : decode cL_law 946 = .ok (.aload_n 0, 1) := by decide +kernel
theorem dL_law_947 : decode cL_law 947 = .ok (.iload_n 3, 1) := by decide +kernel
theorem dL_law_948 : decode cL_law 948 = .ok (.iconst 5, 1) := by decide +kernel
theorem dL_law_949 : decode cL_law 949 = .ok (.iadd, 1) := by decide +kernel
theorem dL_law_950 : decode cL_law 950 = .ok (.iaload, 1) := by decide +kernel
theorem dL_law_951 : decode cL_law 951 = .ok (.aload_n 0, 1) := by decide +kernel
theorem dL_law_952 : decode cL_law 952 = .ok (.iload_n 3, 1) := by decide +kernel
theorem dL_law_953 : decode cL_law 953 = .ok (.bipush 6, 2) := by decide +kernel
theorem dL_law_955 : decode cL_law 955 = .ok (.iadd, 1) := by decide +kernel
theorem dL_law_956 : decode cL_law 956 = .ok (.iaload, 1) := by decide +kernel
theorem dL_law_957 : decode cL_law 957 = .ok (.aload_n 0, 1) := by decide +kernel
theorem dL_law_958 : decode cL_law 958 = .ok (.iload_n 3, 1) := by decide +kernel
theorem dL_law_959 : decode cL_law 959 = .ok (.bipush 7, 2) := by decide +kernel
theorem dL_law_961 : decode cL_law 961 = .ok (.iadd, 1) := by decide +kernel
theorem dL_law_962 : decode cL_law 962 = .ok (.iaload, 1) := by decide +kernel
theorem dL_law_963 : decode cL_law 963 = .ok (.invokevirtual 125, 3) := by decide +kernel
theorem dL_law_966 : decode cL_law 966 = .ok (.if_icmp .eq 292, 3) := by decide +kernel
theorem dL_law_969 : decode cL_law 969 = .ok (.iconst 0, 1) := by decide +kernel
theorem dL_law_970 : decode cL_law 970 = .ok (.ireturn, 1) := by decide +kernel
theorem dL_law_971 : decode cL_law 971 = .ok (.aload_n 1, 1) := by decide +kernel
theorem dL_law_972 : decode cL_law 972 = .ok (.aload_n 0, 1) := by decide +kernel
theorem dL_law_973 : decode cL_law 973 = .ok (.iload_n 3, 1) := by decide +kernel
theorem dL_law_974 : decode cL_law 974 = .ok (.iconst 1, 1) := by decide +kernel
theorem dL_law_975 : decode cL_law 975 = .ok (.iadd, 1) := by decide +kernel
theorem dL_law_976 : decode cL_law 976 = .ok (.iaload, 1) := by decide +kernel
theorem dL_law_977 : decode cL_law 977 = .ok (.aload_n 0, 1) := by decide +kernel
theorem dL_law_978 : decode cL_law 978 = .ok (.iload_n 3, 1) := by decide +kernel
theorem dL_law_979 : decode cL_law 979 = .ok (.iconst 2, 1) := by decide +kernel
theorem dL_law_980 : decode cL_law 980 = .ok (.iadd, 1) := by decide +kernel
theorem dL_law_981 : decode cL_law 981 = .ok (.iaload, 1) := by decide +kernel
theorem dL_law_982 : decode cL_law 982 = .ok (.aload_n 0, 1) := by decide +kernel
theorem dL_law_983 : decode cL_law 983 = .ok (.iload_n 3, 1) := by decide +kernel
theorem dL_law_984 : decode cL_law 984 = .ok (.iconst 3, 1) := by decide +kernel
theorem dL_law_985 : decode cL_law 985 = .ok (.iadd, 1) := by decide +kernel
theorem dL_law_986 : decode cL_law 986 = .ok (.iaload, 1) := by decide +kernel
theorem dL_law_987 : decode cL_law 987 = .ok (.aload_n 0, 1) := by decide +kernel
theorem dL_law_988 : decode cL_law 988 = .ok (.iload_n 3, 1) := by decide +kernel
theorem dL_law_989 : decode cL_law 989 = .ok (.iconst 4, 1) := by decide +kernel
theorem dL_law_990 : decode cL_law 990 = .ok (.iadd, 1) := by decide +kernel
theorem dL_law_991 : decode cL_law 991 = .ok (.iaload, 1) := by decide +kernel
theorem dL_law_992 : decode cL_law 992 = .ok (.aload_n 0, 1) := by decide +kernel
theorem dL_law_993 : decode cL_law 993 = .ok (.iload_n 3, 1) := by decide +kernel
theorem dL_law_994 : decode cL_law 994 = .ok (.iconst 5, 1) := by decide +kernel
theorem dL_law_995 : decode cL_law 995 = .ok (.iadd, 1) := by decide +kernel
theorem dL_law_996 : decode cL_law 996 = .ok (.iaload, 1) := by decide +kernel
theorem dL_law_997 : decode cL_law 997 = .ok (.aload_n 0, 1) := by decide +kernel
theorem dL_law_998 : decode cL_law 998 = .ok (.iload_n 3, 1) := by decide +kernel
theorem dL_law_999 : decode cL_law 999 = .ok (.bipush 6, 2) := by decide +kernel
theorem dL_law_1001 : decode cL_law 1001 = .ok (.iadd, 1) := by decide +kernel
theorem dL_law_1002 : decode cL_law 1002 = .ok (.iaload, 1) := by decide +kernel
theorem dL_law_1003 : decode cL_law 1003 = .ok (.invokevirtual 126, 3) := by decide +kernel
theorem dL_law_1006 : decode cL_law 1006 = .ok (.aload_n 2, 1) := by decide +kernel
theorem dL_law_1007 : decode cL_law 1007 = .ok (.aload_n 0, 1) := by decide +kernel
theorem dL_law_1008 : decode cL_law 1008 = .ok (.iload_n 3, 1) := by decide +kernel
theorem dL_law_1009 : decode cL_law 1009 = .ok (.iconst 1, 1) := by decide +kernel
theorem dL_law_1010 : decode cL_law 1010 = .ok (.iadd, 1) := by decide +kernel
theorem dL_law_1011 : decode cL_law 1011 = .ok (.iaload, 1) := by decide +kernel
theorem dL_law_1012 : decode cL_law 1012 = .ok (.aload_n 0, 1) := by decide +kernel
theorem dL_law_1013 : decode cL_law 1013 = .ok (.iload_n 3, 1) := by decide +kernel
theorem dL_law_1014 : decode cL_law 1014 = .ok (.iconst 2, 1) := by decide +kernel
theorem dL_law_1015 : decode cL_law 1015 = .ok (.iadd, 1) := by decide +kernel
theorem dL_law_1016 : decode cL_law 1016 = .ok (.iaload, 1) := by decide +kernel
theorem dL_law_1017 : decode cL_law 1017 = .ok (.aload_n 0, 1) := by decide +kernel
theorem dL_law_1018 : decode cL_law 1018 = .ok (.iload_n 3, 1) := by decide +kernel
theorem dL_law_1019 : decode cL_law 1019 = .ok (.iconst 3, 1) := by decide +kernel
theorem dL_law_1020 : decode cL_law 1020 = .ok (.iadd, 1) := by decide +kernel
theorem dL_law_1021 : decode cL_law 1021 = .ok (.iaload, 1) := by decide +kernel
theorem dL_law_1022 : decode cL_law 1022 = .ok (.aload_n 0, 1) := by decide +kernel
theorem dL_law_1023 : decode cL_law 1023 = .ok (.iload_n 3, 1) := by decide +kernel
theorem dL_law_1024 : decode cL_law 1024 = .ok (.iconst 4, 1) := by decide +kernel
theorem dL_law_1025 : decode cL_law 1025 = .ok (.iadd, 1) := by decide +kernel
theorem dL_law_1026 : decode cL_law 1026 = .ok (.iaload, 1) := by decide +kernel
theorem dL_law_1027 : decode cL_law 1027 = .ok (.aload_n 0, 1) := by decide +kernel
theorem dL_law_1028 : decode cL_law 1028 = .ok (.iload_n 3, 1) := by decide +kernel
theorem dL_law_1029 : decode cL_law 1029 = .ok (.iconst 5, 1) := by decide +kernel
theorem dL_law_1030 : decode cL_law 1030 = .ok (.iadd, 1) := by decide +kernel
theorem dL_law_1031 : decode cL_law 1031 = .ok (.iaload, 1) := by decide +kernel
theorem dL_law_1032 : decode cL_law 1032 = .ok (.aload_n 0, 1) := by decide +kernel
theorem dL_law_1033 : decode cL_law 1033 = .ok (.iload_n 3, 1) := by decide +kernel
theorem dL_law_1034 : decode cL_law 1034 = .ok (.bipush 6, 2) := by decide +kernel
theorem dL_law_1036 : decode cL_law 1036 = .ok (.iadd, 1) := by decide +kernel
theorem dL_law_1037 : decode cL_law 1037 = .ok (.iaload, 1) := by decide +kernel
theorem dL_law_1038 : decode cL_law 1038 = .ok (.invokevirtual 130, 3) := by decide +kernel
theorem dL_law_1041 : decode cL_law 1041 = .ok (.if_icmp .eq 217, 3) := by decide +kernel
theorem dL_law_1044 : decode cL_law 1044 = .ok (.iconst 0, 1) := by decide +kernel
theorem dL_law_1045 : decode cL_law 1045 = .ok (.ireturn, 1) := by decide +kernel
theorem dL_law_1046 : decode cL_law 1046 = .ok (.aload_n 1, 1) := by decide +kernel
theorem dL_law_1047 : decode cL_law 1047 = .ok (.aload_n 0, 1) := by decide +kernel
theorem dL_law_1048 : decode cL_law 1048 = .ok (.iload_n 3, 1) := by decide +kernel
theorem dL_law_1049 : decode cL_law 1049 = .ok (.iconst 1, 1) := by decide +kernel
theorem dL_law_1050 : decode cL_law 1050 = .ok (.iadd, 1) := by decide +kernel
theorem dL_law_1051 : decode cL_law 1051 = .ok (.iaload, 1) := by decide +kernel
theorem dL_law_1052 : decode cL_law 1052 = .ok (.aload_n 0, 1) := by decide +kernel
theorem dL_law_1053 : decode cL_law 1053 = .ok (.iload_n 3, 1) := by decide +kernel
theorem dL_law_1054 : decode cL_law 1054 = .ok (.iconst 2, 1) := by decide +kernel
theorem dL_law_1055 : decode cL_law 1055 = .ok (.iadd, 1) := by decide +kernel
theorem dL_law_1056 : decode cL_law 1056 = .ok (.iaload, 1) := by decide +kernel
theorem dL_law_1057 : decode cL_law 1057 = .ok (.aload_n 0, 1) := by decide +kernel
theorem dL_law_1058 : decode cL_law 1058 = .ok (.iload_n 3, 1) := by decide +kernel
theorem dL_law_1059 : decode cL_law 1059 = .ok (.iconst 3, 1) := by decide +kernel
theorem dL_law_1060 : decode cL_law 1060 = .ok (.iadd, 1) := by decide +kernel
theorem dL_law_1061 : decode cL_law 1061 = .ok (.iaload, 1) := by decide +kernel
theorem dL_law_1062 : decode cL_law 1062 = .ok (.invokevirtual 131, 3) := by decide +kernel
theorem dL_law_1065 : decode cL_law 1065 = .ok (.aload_n 2, 1) := by decide +kernel
theorem dL_law_1066 : decode cL_law 1066 = .ok (.aload_n 0, 1) := by decide +kernel
theorem dL_law_1067 : decode cL_law 1067 = .ok (.iload_n 3, 1) := by decide +kernel
theorem dL_law_1068 : decode cL_law 1068 = .ok (.iconst 1, 1) := by decide +kernel
theorem dL_law_1069 : decode cL_law 1069 = .ok (.iadd, 1) := by decide +kernel
theorem dL_law_1070 : decode cL_law 1070 = .ok (.iaload, 1) := by decide +kernel
theorem dL_law_1071 : decode cL_law 1071 = .ok (.aload_n 0, 1) := by decide +kernel
theorem dL_law_1072 : decode cL_law 1072 = .ok (.iload_n 3, 1) := by decide +kernel
theorem dL_law_1073 : decode cL_law 1073 = .ok (.iconst 2, 1) := by decide +kernel
theorem dL_law_1074 : decode cL_law 1074 = .ok (.iadd, 1) := by decide +kernel
theorem dL_law_1075 : decode cL_law 1075 = .ok (.iaload, 1) := by decide +kernel
theorem dL_law_1076 : decode cL_law 1076 = .ok (.aload_n 0, 1) := by decide +kernel
theorem dL_law_1077 : decode cL_law 1077 = .ok (.iload_n 3, 1) := by decide +kernel
theorem dL_law_1078 : decode cL_law 1078 = .ok (.iconst 3, 1) := by decide +kernel
theorem dL_law_1079 : decode cL_law 1079 = .ok (.iadd, 1) := by decide +kernel
theorem dL_law_1080 : decode cL_law 1080 = .ok (.iaload, 1) := by decide +kernel
theorem dL_law_1081 : decode cL_law 1081 = .ok (.invokevirtual 134, 3) := by decide +kernel
theorem dL_law_1084 : decode cL_law 1084 = .ok (.if_icmp .eq 174, 3) := by decide +kernel
theorem dL_law_1087 : decode cL_law 1087 = .ok (.iconst 0, 1) := by decide +kernel
theorem dL_law_1088 : decode cL_law 1088 = .ok (.ireturn, 1) := by decide +kernel
theorem dL_law_1089 : decode cL_law 1089 = .ok (.aload_n 1, 1) := by decide +kernel
theorem dL_law_1090 : decode cL_law 1090 = .ok (.aload_n 0, 1) := by decide +kernel
theorem dL_law_1091 : decode cL_law 1091 = .ok (.iload_n 3, 1) := by decide +kernel
theorem dL_law_1092 : decode cL_law 1092 = .ok (.iconst 1, 1) := by decide +kernel
theorem dL_law_1093 : decode cL_law 1093 = .ok (.iadd, 1) := by decide +kernel
theorem dL_law_1094 : decode cL_law 1094 = .ok (.iaload, 1) := by decide +kernel
theorem dL_law_1095 : decode cL_law 1095 = .ok (.invokevirtual 135, 3) := by decide +kernel
theorem dL_law_1098 : decode cL_law 1098 = .ok (.aload_n 2, 1) := by decide +kernel
theorem dL_law_1099 : decode cL_law 1099 = .ok (.aload_n 0, 1) := by decide +kernel
theorem dL_law_1100 : decode cL_law 1100 = .ok (.iload_n 3, 1) := by decide +kernel
theorem dL_law_1101 : decode cL_law 1101 = .ok (.iconst 1, 1) := by decide +kernel
theorem dL_law_1102 : decode cL_law 1102 = .ok (.iadd, 1) := by decide +kernel
theorem dL_law_1103 : decode cL_law 1103 = .ok (.iaload, 1) := by decide +kernel
theorem dL_law_1104 : decode cL_law 1104 = .ok (.invokevirtual 138, 3) := by decide +kernel
theorem dL_law_1107 : decode cL_law 1107 = .ok (.if_icmp .eq 151, 3) := by decide +kernel
theorem dL_law_1110 : decode cL_law 1110 = .ok (.iconst 0, 1) := by decide +kernel
theorem dL_law_1111 : decode cL_law 1111 = .ok (.ireturn, 1) := by decide +kernel
theorem dL_law_1112 : decode cL_law 1112 = .ok (.aload_n 1, 1) := by decide +kernel
theorem dL_law_1113 : decode cL_law 1113 = .ok (.aload_n 0, 1) := by decide +kernel
theorem dL_law_1114 : decode cL_law 1114 = .ok (.iload_n 3, 1) := by decide +kernel
theorem dL_law_1115 : decode cL_law 1115 = .ok (.iconst 1, 1) := by decide +kernel
theorem dL_law_1116 : decode cL_law 1116 = .ok (.iadd, 1) := by decide +kernel
theorem dL_law_1117 : decode cL_law 1117 = .ok (.iaload, 1) := by decide +kernel
theorem dL_law_1118 : decode cL_law 1118 = .ok (.aload_n 0, 1) := by decide +kernel
theorem dL_law_1119 : decode cL_law 1119 = .ok (.iload_n 3, 1) := by decide +kernel
theorem dL_law_1120 : decode cL_law 1120 = .ok (.iconst 2, 1) := by decide +kernel
theorem dL_law_1121 : decode cL_law 1121 = .ok (.iadd, 1) := by decide +kernel
theorem dL_law_1122 : decode cL_law 1122 = .ok (.iaload, 1) := by decide +kernel
theorem dL_law_1123 : decode cL_law 1123 = .ok (.aload_n 0, 1) := by decide +kernel
theorem dL_law_1124 : decode cL_law 1124 = .ok (.iload_n 3, 1) := by decide +kernel
theorem dL_law_1125 : decode cL_law 1125 = .ok (.iconst 3, 1) := by decide +kernel
theorem dL_law_1126 : decode cL_law 1126 = .ok (.iadd, 1) := by decide +kernel
theorem dL_law_1127 : decode cL_law 1127 = .ok (.iaload, 1) := by decide +kernel
theorem dL_law_1128 : decode cL_law 1128 = .ok (.aload_n 0, 1) := by decide +kernel
theorem dL_law_1129 : decode cL_law 1129 = .ok (.iload_n 3, 1) := by decide +kernel
theorem dL_law_1130 : decode cL_law 1130 = .ok (.iconst 4, 1) := by decide +kernel
theorem dL_law_1131 : decode cL_law 1131 = .ok (.iadd, 1) := by decide +kernel
theorem dL_law_1132 : decode cL_law 1132 = .ok (.iaload, 1) := by decide +kernel
theorem dL_law_1133 : decode cL_law 1133 = .ok (.i2l, 1) := by decide +kernel
theorem dL_law_1134 : decode cL_law 1134 = .ok (.bipush 32, 2) := by decide +kernel
theorem dL_law_1136 : decode cL_law 1136 = .ok (.lshl, 1) := by decide +kernel
theorem dL_law_1137 : decode cL_law 1137 = .ok (.aload_n 0, 1) := by decide +kernel
theorem dL_law_1138 : decode cL_law 1138 = .ok (.iload_n 3, 1) := by decide +kernel
theorem dL_law_1139 : decode cL_law 1139 = .ok (.iconst 5, 1) := by decide +kernel
theorem dL_law_1140 : decode cL_law 1140 = .ok (.iadd, 1) := by decide +kernel
theorem dL_law_1141 : decode cL_law 1141 = .ok (.iaload, 1) := by decide +kernel
theorem dL_law_1142 : decode cL_law 1142 = .ok (.i2l, 1) := by decide +kernel
theorem dL_law_1143 : decode cL_law 1143 = .ok (.ldc2_w 139, 3) := by decide +kernel
theorem dL_law_1146 : decode cL_law 1146 = .ok (.land, 1) := by decide +kernel
theorem dL_law_1147 : decode cL_law 1147 = .ok (.lor, 1) := by decide +kernel
theorem dL_law_1148 : decode cL_law 1148 = .ok (.invokevirtual 141, 3) := by decide +kernel
theorem dL_law_1151 : decode cL_law 1151 = .ok (.aload_n 2, 1) := by decide +kernel
theorem dL_law_1152 : decode cL_law 1152 = .ok (.aload_n 0, 1) := by decide +kernel
theorem dL_law_1153 : decode cL_law 1153 = .ok (.iload_n 3, 1) := by decide +kernel
theorem dL_law_1154 : decode cL_law 1154 = .ok (.iconst 1, 1) := by decide +kernel
theorem dL_law_1155 : decode cL_law 1155 = .ok (.iadd, 1) := by decide +kernel
theorem dL_law_1156 : decode cL_law 1156 = .ok (.iaload, 1) := by decide +kernel
theorem dL_law_1157 : decode cL_law 1157 = .ok (.aload_n 0, 1) := by decide +kernel
theorem dL_law_1158 : decode cL_law 1158 = .ok (.iload_n 3, 1) := by decide +kernel
theorem dL_law_1159 : decode cL_law 1159 = .ok (.iconst 2, 1) := by decide +kernel
theorem dL_law_1160 : decode cL_law 1160 = .ok (.iadd, 1) := by decide +kernel
theorem dL_law_1161 : decode cL_law 1161 = .ok (.iaload, 1) := by decide +kernel
theorem dL_law_1162 : decode cL_law 1162 = .ok (.aload_n 0, 1) := by decide +kernel
theorem dL_law_1163 : decode cL_law 1163 = .ok (.iload_n 3, 1) := by decide +kernel
theorem dL_law_1164 : decode cL_law 1164 = .ok (.iconst 3, 1) := by decide +kernel
theorem dL_law_1165 : decode cL_law 1165 = .ok (.iadd, 1) := by decide +kernel
theorem dL_law_1166 : decode cL_law 1166 = .ok (.iaload, 1) := by decide +kernel
theorem dL_law_1167 : decode cL_law 1167 = .ok (.aload_n 0, 1) := by decide +kernel
theorem dL_law_1168 : decode cL_law 1168 = .ok (.iload_n 3, 1) := by decide +kernel
theorem dL_law_1169 : decode cL_law 1169 = .ok (.iconst 4, 1) := by decide +kernel
theorem dL_law_1170 : decode cL_law 1170 = .ok (.iadd, 1) := by decide +kernel
theorem dL_law_1171 : decode cL_law 1171 = .ok (.iaload, 1) := by decide +kernel
theorem dL_law_1172 : decode cL_law 1172 = .ok (.i2l, 1) := by decide +kernel
theorem dL_law_1173 : decode cL_law 1173 = .ok (.bipush 32, 2) := by decide +kernel
theorem dL_law_1175 : decode cL_law 1175 = .ok (.lshl, 1) := by decide +kernel
theorem dL_law_1176 : decode cL_law 1176 = .ok (.aload_n 0, 1) := by decide +kernel
theorem dL_law_1177 : decode cL_law 1177 = .ok (.iload_n 3, 1) := by decide +kernel
theorem dL_law_1178 : decode cL_law 1178 = .ok (.iconst 5, 1) := by decide +kernel
theorem dL_law_1179 : decode cL_law 1179 = .ok (.iadd, 1) := by decide +kernel
theorem dL_law_1180 : decode cL_law 1180 = .ok (.iaload, 1) := by decide +kernel
theorem dL_law_1181 : decode cL_law 1181 = .ok (.i2l, 1) := by decide +kernel
theorem dL_law_1182 : decode cL_law 1182 = .ok (.ldc2_w 139, 3) := by decide +kernel
theorem dL_law_1185 : decode cL_law 1185 = .ok (.land, 1) := by decide +kernel
theorem dL_law_1186 : decode cL_law 1186 = .ok (.lor, 1) := by decide +kernel
theorem dL_law_1187 : decode cL_law 1187 = .ok (.invokevirtual 145, 3) := by decide +kernel
theorem dL_law_1190 : decode cL_law 1190 = .ok (.if_icmp .eq 68, 3) := by decide +kernel
theorem dL_law_1193 : decode cL_law 1193 = .ok (.iconst 0, 1) := by decide +kernel
theorem dL_law_1194 : decode cL_law 1194 = .ok (.ireturn, 1) := by decide +kernel
theorem dL_law_1195 : decode cL_law 1195 = .ok (.aload_n 1, 1) := by decide +kernel
theorem dL_law_1196 : decode cL_law 1196 = .ok (.aload_n 0, 1) := by decide +kernel
theorem dL_law_1197 : decode cL_law 1197 = .ok (.iload_n 3, 1) := by decide +kernel
theorem dL_law_1198 : decode cL_law 1198 = .ok (.iconst 1, 1) := by decide +kernel
theorem dL_law_1199 : decode cL_law 1199 = .ok (.iadd, 1) := by decide +kernel
theorem dL_law_1200 : decode cL_law 1200 = .ok (.iaload, 1) := by decide +kernel
theorem dL_law_1201 : decode cL_law 1201 = .ok (.aload_n 0, 1) := by decide +kernel
theorem dL_law_1202 : decode cL_law 1202 = .ok (.iload_n 3, 1) := by decide +kernel
theorem dL_law_1203 : decode cL_law 1203 = .ok (.iconst 2, 1) := by decide +kernel
theorem dL_law_1204 : decode cL_law 1204 = .ok (.iadd, 1) := by decide +kernel
theorem dL_law_1205 : decode cL_law 1205 = .ok (.iaload, 1) := by decide +kernel
theorem dL_law_1206 : decode cL_law 1206 = .ok (.aload_n 0, 1) := by decide +kernel
theorem dL_law_1207 : decode cL_law 1207 = .ok (.iload_n 3, 1) := by decide +kernel
theorem dL_law_1208 : decode cL_law 1208 = .ok (.iconst 3, 1) := by decide +kernel
theorem dL_law_1209 : decode cL_law 1209 = .ok (.iadd, 1) := by decide +kernel
theorem dL_law_1210 : decode cL_law 1210 = .ok (.iaload, 1) := by decide +kernel
theorem dL_law_1211 : decode cL_law 1211 = .ok (.aload_n 0, 1) := by decide +kernel
theorem dL_law_1212 : decode cL_law 1212 = .ok (.iload_n 3, 1) := by decide +kernel
theorem dL_law_1213 : decode cL_law 1213 = .ok (.iconst 4, 1) := by decide +kernel
theorem dL_law_1214 : decode cL_law 1214 = .ok (.iadd, 1) := by decide +kernel
theorem dL_law_1215 : decode cL_law 1215 = .ok (.iaload, 1) := by decide +kernel
theorem dL_law_1216 : decode cL_law 1216 = .ok (.aload_n 0, 1) := by decide +kernel
theorem dL_law_1217 : decode cL_law 1217 = .ok (.iload_n 3, 1) := by decide +kernel
theorem dL_law_1218 : decode cL_law 1218 = .ok (.iconst 5, 1) := by decide +kernel
theorem dL_law_1219 : decode cL_law 1219 = .ok (.iadd, 1) := by decide +kernel
theorem dL_law_1220 : decode cL_law 1220 = .ok (.iaload, 1) := by decide +kernel
theorem dL_law_1221 : decode cL_law 1221 = .ok (.invokevirtual 146, 3) := by decide +kernel
theorem dL_law_1224 : decode cL_law 1224 = .ok (.aload_n 2, 1) := by decide +kernel
theorem dL_law_1225 : decode cL_law 1225 = .ok (.aload_n 0, 1) := by decide +kernel
theorem dL_law_1226 : decode cL_law 1226 = .ok (.iload_n 3, 1) := by decide +kernel
theorem dL_law_1227 : decode cL_law 1227 = .ok (.iconst 1, 1) := by decide +kernel
theorem dL_law_1228 : decode cL_law 1228 = .ok (.iadd, 1) := by decide +kernel
theorem dL_law_1229 : decode cL_law 1229 = .ok (.iaload, 1) := by decide +kernel
theorem dL_law_1230 : decode cL_law 1230 = .ok (.aload_n 0, 1) := by decide +kernel
theorem dL_law_1231 : decode cL_law 1231 = .ok (.iload_n 3, 1) := by decide +kernel
theorem dL_law_1232 : decode cL_law 1232 = .ok (.iconst 2, 1) := by decide +kernel
theorem dL_law_1233 : decode cL_law 1233 = .ok (.iadd, 1) := by decide +kernel
theorem dL_law_1234 : decode cL_law 1234 = .ok (.iaload, 1) := by decide +kernel
theorem dL_law_1235 : decode cL_law 1235 = .ok (.aload_n 0, 1) := by decide +kernel
theorem dL_law_1236 : decode cL_law 1236 = .ok (.iload_n 3, 1) := by decide +kernel
theorem dL_law_1237 : decode cL_law 1237 = .ok (.iconst 3, 1) := by decide +kernel
theorem dL_law_1238 : decode cL_law 1238 = .ok (.iadd, 1) := by decide +kernel
theorem dL_law_1239 : decode cL_law 1239 = .ok (.iaload, 1) := by decide +kernel
theorem dL_law_1240 : decode cL_law 1240 = .ok (.aload_n 0, 1) := by decide +kernel
theorem dL_law_1241 : decode cL_law 1241 = .ok (.iload_n 3, 1) := by decide +kernel
theorem dL_law_1242 : decode cL_law 1242 = .ok (.iconst 4, 1) := by decide +kernel
theorem dL_law_1243 : decode cL_law 1243 = .ok (.iadd, 1) := by decide +kernel
theorem dL_law_1244 : decode cL_law 1244 = .ok (.iaload, 1) := by decide +kernel
theorem dL_law_1245 : decode cL_law 1245 = .ok (.aload_n 0, 1) := by decide +kernel
theorem dL_law_1246 : decode cL_law 1246 = .ok (.iload_n 3, 1) := by decide +kernel
theorem dL_law_1247 : decode cL_law 1247 = .ok (.iconst 5, 1) := by decide +kernel
theorem dL_law_1248 : decode cL_law 1248 = .ok (.iadd, 1) := by decide +kernel
theorem dL_law_1249 : decode cL_law 1249 = .ok (.iaload, 1) := by decide +kernel
theorem dL_law_1250 : decode cL_law 1250 = .ok (.invokevirtual 150, 3) := by decide +kernel
theorem dL_law_1253 : decode cL_law 1253 = .ok (.if_icmp .eq 5, 3) := by decide +kernel
theorem dL_law_1256 : decode cL_law 1256 = .ok (.iconst 0, 1) := by decide +kernel
theorem dL_law_1257 : decode cL_law 1257 = .ok (.ireturn, 1) := by decide +kernel
theorem dL_law_1258 : decode cL_law 1258 = .ok (.iinc 3 8, 3) := by decide +kernel
theorem dL_law_1261 : decode cL_law 1261 = .ok (.goto (-1243), 3) := by decide +kernel
theorem dL_law_1264 : decode cL_law 1264 = .ok (.iconst 1, 1) := by decide +kernel
theorem dL_law_1265 : decode cL_law 1265 = .ok (.ireturn, 1) := by decide +kernel
end
section
theorem dJ11_isValidCodePoint_9a6ad_0 : decode cJ11_isValidCodePoint_9a6ad 0 = .ok (.iload_n 0, 1) := by decide +kernel
theorem dJ11_isValidCodePoint_9a6ad_1 : decode cJ11_isValidCodePoint_9a6ad 1 = .ok (.bipush 16, 2) := by decide +kernel
theorem dJ11_isValidCodePoint_9a6ad_3 : decode cJ11_isValidCodePoint_9a6ad 3 = .ok (.iushr, 1) := by decide +kernel
theorem dJ11_isValidCodePoint_9a6ad_4 : decode cJ11_isValidCodePoint_9a6ad 4 = .ok (.istore_n 1, 1) := by decide +kernel
theorem dJ11_isValidCodePoint_9a6ad_5 : decode cJ11_isValidCodePoint_9a6ad 5 = .ok (.iload_n 1, 1) := by decide +kernel
theorem dJ11_isValidCodePoint_9a6ad_6 : decode cJ11_isValidCodePoint_9a6ad 6 = .ok (.bipush 17, 2) := by decide +kernel
theorem dJ11_isValidCodePoint_9a6ad_8 : decode cJ11_isValidCodePoint_9a6ad 8 = .ok (.if_icmp .ge 7, 3) := by decide +kernel
theorem dJ11_isValidCodePoint_9a6ad_11 : decode cJ11_isValidCodePoint_9a6ad 11 = .ok (.iconst 1, 1) := by decide +kernel
theorem dJ11_isValidCodePoint_9a6ad_12 : decode cJ11_isValidCodePoint_9a6ad 12 = .ok (.goto 4, 3) := by decide +kernel
theorem dJ11_isValidCodePoint_9a6ad_15 : decode cJ11_isValidCodePoint_9a6ad 15 = .ok (.iconst 0, 1) := by decide +kernel
theorem dJ11_isValidCodePoint_9a6ad_16 : decode cJ11_isValidCodePoint_9a6ad 16 = .ok (.ireturn, 1) := by decide +kernel
theorem dJ11_highSurrogate_5068e_0 : decode cJ11_highSurrogate_5068e 0 = .ok (.iload_n 0, 1) := by decide +kernel
theorem dJ11_highSurrogate_5068e_1 : decode cJ11_highSurrogate_5068e 1 = .ok (.bipush 10, 2) := by decide +kernel
theorem dJ11_highSurrogate_5068e_3 : decode cJ11_highSurrogate_5068e 3 = .ok (.iushr, 1) := by decide +kernel
theorem dJ11_highSurrogate_5068e_4 : decode cJ11_highSurrogate_5068e 4 = .ok (.ldc 110, 2) := by decide +kernel
theorem dJ11_highSurrogate_5068e_6 : decode cJ11_highSurrogate_5068e 6 = .ok (.iadd, 1) := by decide +kernel
theorem dJ11_highSurrogate_5068e_7 : decode cJ11_highSurrogate_5068e 7 = .ok (.i2c, 1) := by decide +kernel
theorem dJ11_highSurrogate_5068e_8 : decode cJ11_highSurrogate_5068e 8 = .ok (.ireturn, 1) := by decide +kernel
theorem dJ11_lowSurrogate_5068e_0 : decode cJ11_lowSurrogate_5068e 0 = .ok (.iload_n 0, 1) := by decide +kernel
theorem dJ11_lowSurrogate_5068e_1 : decode cJ11_lowSurrogate_5068e 1 = .ok (.sipush 1023, 3) := by decide +kernel
theorem dJ11_lowSurrogate_5068e_4 : decode cJ11_lowSurrogate_5068e 4 = .ok (.iand, 1) := by decide +kernel
theorem dJ11_lowSurrogate_5068e_5 : decode cJ11_lowSurrogate_5068e 5 = .ok (.ldc 76, 2) := by decide +kernel
theorem dJ11_lowSurrogate_5068e_7 : decode cJ11_lowSurrogate_5068e 7 = .ok (.iadd, 1) := by decide +kernel
theorem dJ11_lowSurrogate_5068e_8 : decode cJ11_lowSurrogate_5068e 8 = .ok (.i2c, 1) := by decide +kernel
theorem dJ11_lowSurrogate_5068e_9 : decode cJ11_lowSurrogate_5068e 9 = .ok (.ireturn, 1) := by decide +kernel
theorem dJ6_bitCount_0f7a4_0 : decode cJ6_bitCount_0f7a4 0 = .ok (.iload_n 0, 1) := by decide +kernel
theorem dJ6_bitCount_0f7a4_1 : decode cJ6_bitCount_0f7a4 1 = .ok (.iload_n 0, 1) := by decide +kernel
theorem dJ6_bitCount_0f7a4_2 : decode cJ6_bitCount_0f7a4 2 = .ok (.iconst 1, 1) := by decide +kernel
theorem dJ6_bitCount_0f7a4_3 : decode cJ6_bitCount_0f7a4 3 = .ok (.iushr, 1) := by decide +kernel
theorem dJ6_bitCount_0f7a4_4 : decode cJ6_bitCount_0f7a4 4 = .ok (.ldc_w 265, 3) := by decide +kernel
theorem dJ6_bitCount_0f7a4_7 : decode cJ6_bitCount_0f7a4 7 = .ok (.iand, 1) := by decide +kernel
theorem dJ6_bitCount_0f7a4_8 : decode cJ6_bitCount_0f7a4 8 = .ok (.isub, 1) := by decide +kernel
theorem dJ6_bitCount_0f7a4_9 : decode cJ6_bitCount_0f7a4 9 = .ok (.istore_n 0, 1) := by decide +kernel
theorem dJ6_bitCount_0f7a4_10 : decode cJ6_bitCount_0f7a4 10 = .ok (.iload_n 0, 1) := by decide +kernel
theorem dJ6_bitCount_0f7a4_11 : decode cJ6_bitCount_0f7a4 11 = .ok (.ldc_w 266, 3) := by decide +kernel
theorem dJ6_bitCount_0f7a4_14 : decode cJ6_bitCount_0f7a4 14 = .ok (.iand, 1) := by decide +kernel
theorem dJ6_bitCount_0f7a4_15 : decode cJ6_bitCount_0f7a4 15 = .ok (.iload_n 0, 1) := by decide +kernel
theorem dJ6_bitCount_0f7a4_16 : decode cJ6_bitCount_0f7a4 16 = .ok (.iconst 2, 1) := by decide +kernel
theorem dJ6_bitCount_0f7a4_17 : decode cJ6_bitCount_0f7a4 17 = .ok (.iushr, 1) := by decide +kernel
theorem dJ6_bitCount_0f7a4_18 : decode cJ6_bitCount_0f7a4 18 = .ok (.ldc_w 266, 3) := by decide +kernel
theorem dJ6_bitCount_0f7a4_21 : decode cJ6_bitCount_0f7a4 21 = .ok (.iand, 1) := by decide +kernel
theorem dJ6_bitCount_0f7a4_22 : decode cJ6_bitCount_0f7a4 22 = .ok (.iadd, 1) := by decide +kernel
theorem dJ6_bitCount_0f7a4_23 : decode cJ6_bitCount_0f7a4 23 = .ok (.istore_n 0, 1) := by decide +kernel
theorem dJ6_bitCount_0f7a4_24 : decode cJ6_bitCount_0f7a4 24 = .ok (.iload_n 0, 1) := by decide +kernel
theorem dJ6_bitCount_0f7a4_25 : decode cJ6_bitCount_0f7a4 25 = .ok (.iload_n 0, 1) := by decide +kernel
theorem dJ6_bitCount_0f7a4_26 : decode cJ6_bitCount_0f7a4 26 = .ok (.iconst 4, 1) := by decide +kernel
theorem dJ6_bitCount_0f7a4_27 : decode cJ6_bitCount_0f7a4 27 = .ok (.iushr, 1) := by decide +kernel
theorem dJ6_bitCount_0f7a4_28 : decode cJ6_bitCount_0f7a4 28 = .ok (.iadd, 1) := by decide +kernel
theorem dJ6_bitCount_0f7a4_29 : decode cJ6_bitCount_0f7a4 29 = .ok (.ldc_w 267, 3) := by decide +kernel
theorem dJ6_bitCount_0f7a4_32 : decode cJ6_bitCount_0f7a4 32 = .ok (.iand, 1) := by decide +kernel
theorem dJ6_bitCount_0f7a4_33 : decode cJ6_bitCount_0f7a4 33 = .ok (.istore_n 0, 1) := by decide +kernel
theorem dJ6_bitCount_0f7a4_34 : decode cJ6_bitCount_0f7a4 34 = .ok (.iload_n 0, 1) := by decide +kernel
theorem dJ6_bitCount_0f7a4_35 : decode cJ6_bitCount_0f7a4 35 = .ok (.iload_n 0, 1) := by decide +kernel
theorem dJ6_bitCount_0f7a4_36 : decode cJ6_bitCount_0f7a4 36 = .ok (.bipush 8, 2) := by decide +kernel
theorem dJ6_bitCount_0f7a4_38 : decode cJ6_bitCount_0f7a4 38 = .ok (.iushr, 1) := by decide +kernel
theorem dJ6_bitCount_0f7a4_39 : decode cJ6_bitCount_0f7a4 39 = .ok (.iadd, 1) := by decide +kernel
theorem dJ6_bitCount_0f7a4_40 : decode cJ6_bitCount_0f7a4 40 = .ok (.istore_n 0, 1) := by decide +kernel
theorem dJ6_bitCount_0f7a4_41 : decode cJ6_bitCount_0f7a4 41 = .ok (.iload_n 0, 1) := by decide +kernel
theorem dJ6_bitCount_0f7a4_42 : decode cJ6_bitCount_0f7a4 42 = .ok (.iload_n 0, 1) := by decide +kernel
theorem dJ6_bitCount_0f7a4_43 : decode cJ6_bitCount_0f7a4 43 = .ok (.bipush 16, 2) := by decide +kernel
theorem dJ6_bitCount_0f7a4_45 : decode cJ6_bitCount_0f7a4 45 = .ok (.iushr, 1) := by decide +kernel
theorem dJ6_bitCount_0f7a4_46 : decode cJ6_bitCount_0f7a4 46 = .ok (.iadd, 1) := by decide +kernel
theorem dJ6_bitCount_0f7a4_47 : decode cJ6_bitCount_0f7a4 47 = .ok (.istore_n 0, 1) := by decide +kernel
theorem dJ6_bitCount_0f7a4_48 : decode cJ6_bitCount_0f7a4 48 = .ok (.iload_n 0, 1) := by decide +kernel
theorem dJ6_bitCount_0f7a4_49 : decode cJ6_bitCount_0f7a4 49 = .ok (.bipush 63, 2) := by decide +kernel
theorem dJ6_bitCount_0f7a4_51 : decode cJ6_bitCount_0f7a4 51 = .ok (.iand, 1) := by decide +kernel
theorem dJ6_bitCount_0f7a4_52 : decode cJ6_bitCount_0f7a4 52 = .ok (.ireturn, 1) := by decide +kernel
theorem dJ9_max_7cf53_0 : decode cJ9_max_7cf53 0 = .ok (.iload_n 0, 1) := by decide +kernel
theorem dJ9_max_7cf53_1 : decode cJ9_max_7cf53 1 = .ok (.iload_n 1, 1) := by decide +kernel
theorem dJ9_max_7cf53_2 : decode cJ9_max_7cf53 2 = .ok (.if_icmp .lt 7, 3) := by decide +kernel
theorem dJ9_max_7cf53_5 : decode cJ9_max_7cf53 5 = .ok (.iload_n 0, 1) := by decide +kernel
theorem dJ9_max_7cf53_6 : decode cJ9_max_7cf53 6 = .ok (.goto 4, 3) := by decide +kernel
theorem dJ9_max_7cf53_9 : decode cJ9_max_7cf53 9 = .ok (.iload_n 1, 1) := by decide +kernel
theorem dJ9_max_7cf53_10 : decode cJ9_max_7cf53 10 = .ok (.ireturn, 1) := by decide +kernel
theorem dJ9_min_7cf53_0 : decode cJ9_min_7cf53 0 = .ok (.iload_n 0, 1) := by decide +kernel
theorem dJ9_min_7cf53_1 : decode cJ9_min_7cf53 1 = .ok (.iload_n 1, 1) := by decide +kernel
theorem dJ9_min_7cf53_2 : decode cJ9_min_7cf53 2 = .ok (.if_icmp .gt 7, 3) := by decide +kernel
theorem dJ9_min_7cf53_5 : decode cJ9_min_7cf53 5 = .ok (.iload_n 0, 1) := by decide +kernel
theorem dJ9_min_7cf53_6 : decode cJ9_min_7cf53 6 = .ok (.goto 4, 3) := by decide +kernel
theorem dJ9_min_7cf53_9 : decode cJ9_min_7cf53 9 = .ok (.iload_n 1, 1) := by decide +kernel
theorem dJ9_min_7cf53_10 : decode cJ9_min_7cf53 10 = .ok (.ireturn, 1) := by decide +kernel
theorem dJ0_length_8abf5_0 : decode cJ0_length_8abf5 0 = .ok (.aload_n 0, 1) := by decide +kernel
theorem dJ0_length_8abf5_1 : decode cJ0_length_8abf5 1 = .ok (.getfield 9, 3) := by decide +kernel
theorem dJ0_length_8abf5_4 : decode cJ0_length_8abf5 4 = .ok (.arraylength, 1) := by decide +kernel
theorem dJ0_length_8abf5_5 : decode cJ0_length_8abf5 5 = .ok (.aload_n 0, 1) := by decide +kernel
theorem dJ0_length_8abf5_6 : decode cJ0_length_8abf5 6 = .ok (.invokevirtual 335, 3) := by decide +kernel
theorem dJ0_length_8abf5_9 : decode cJ0_length_8abf5 9 = .ok (.ishr, 1) := by decide +kernel
theorem dJ0_length_8abf5_10 : decode cJ0_length_8abf5 10 = .ok (.ireturn, 1) := by decide +kernel
theorem dJ0_indexOf_0f7a4_0 : decode cJ0_indexOf_0f7a4 0 = .ok (.aload_n 0, 1) := by decide +kernel
theorem dJ0_indexOf_0f7a4_1 : decode cJ0_indexOf_0f7a4 1 = .ok (.iload_n 1, 1) := by decide +kernel
theorem dJ0_indexOf_0f7a4_2 : decode cJ0_indexOf_0f7a4 2 = .ok (.iconst 0, 1) := by decide +kernel
theorem dJ0_indexOf_0f7a4_3 : decode cJ0_indexOf_0f7a4 3 = .ok (.invokevirtual 633, 3) := by decide +kernel
theorem dJ0_indexOf_0f7a4_6 : decode cJ0_indexOf_0f7a4 6 = .ok (.ireturn, 1) := by decide +kernel
theorem dJ0_indexOf_7cf53_0 : decode cJ0_indexOf_7cf53 0 = .ok (.aload_n 0, 1) := by decide +kernel
theorem dJ0_indexOf_7cf53_1 : decode cJ0_indexOf_7cf53 1 = .ok (.invokevirtual 492, 3) := by decide +kernel
theorem dJ0_indexOf_7cf53_4 : decode cJ0_indexOf_7cf53 4 = .ok (.ifCond .eq 19, 3) := by decide +kernel
theorem dJ0_indexOf_7cf53_7 : decode cJ0_indexOf_7cf53 7 = .ok (.aload_n 0, 1) := by decide +kernel
theorem dJ0_indexOf_7cf53_8 : decode cJ0_indexOf_7cf53 8 = .ok (.getfield 9, 3) := by decide +kernel
theorem dJ0_indexOf_7cf53_11 : decode cJ0_indexOf_7cf53 11 = .ok (.iload_n 1, 1) := by decide +kernel
theorem dJ0_indexOf_7cf53_12 : decode cJ0_indexOf_7cf53 12 = .ok (.iload_n 2, 1) := by decide +kernel
theorem dJ0_indexOf_7cf53_13 : decode cJ0_indexOf_7cf53 13 = .ok (.aload_n 0, 1) := by decide +kernel
theorem dJ0_indexOf_7cf53_14 : decode cJ0_indexOf_7cf53 14 = .ok (.invokevirtual 505, 3) := by decide +kernel
theorem dJ0_indexOf_7cf53_17 : decode cJ0_indexOf_7cf53 17 = .ok (.invokestatic 637, 3) := by decide +kernel
theorem dJ0_indexOf_7cf53_20 : decode cJ0_indexOf_7cf53 20 = .ok (.goto 16, 3) := by decide +kernel
theorem dJ0_indexOf_7cf53_23 : decode cJ0_indexOf_7cf53 23 = .ok (.aload_n 0, 1) := by decide +kernel
theorem dJ0_indexOf_7cf53_24 : decode cJ0_indexOf_7cf53 24 = .ok (.getfield 9, 3) := by decide +kernel
theorem dJ0_indexOf_7cf53_27 : decode cJ0_indexOf_7cf53 27 = .ok (.iload_n 1, 1) := by decide +kernel
theorem dJ0_indexOf_7cf53_28 : decode cJ0_indexOf_7cf53 28 = .ok (.iload_n 2, 1) := by decide +kernel
theorem dJ0_indexOf_7cf53_29 : decode cJ0_indexOf_7cf53 29 = .ok (.aload_n 0, 1) := by decide +kernel
theorem dJ0_indexOf_7cf53_30 : decode cJ0_indexOf_7cf53 30 = .ok (.invokevirtual 505, 3) := by decide +kernel
theorem dJ0_indexOf_7cf53_33 : decode cJ0_indexOf_7cf53 33 = .ok (.invokestatic 640, 3) := by decide +kernel
theorem dJ0_indexOf_7cf53_36 : decode cJ0_indexOf_7cf53 36 = .ok (.ireturn, 1) := by decide +kernel
theorem dJ0_coder_7d493_0 : decode cJ0_coder_7d493 0 = .ok (.getstatic 38, 3) := by decide +kernel
theorem dJ0_coder_7d493_3 : decode cJ0_coder_7d493 3 = .ok (.ifCond .eq 10, 3) := by decide +kernel
theorem dJ0_coder_7d493_6 : decode cJ0_coder_7d493 6 = .ok (.aload_n 0, 1) := by decide +kernel
theorem dJ0_coder_7d493_7 : decode cJ0_coder_7d493 7 = .ok (.getfield 15, 3) := by decide +kernel
theorem dJ0_coder_7d493_10 : decode cJ0_coder_7d493 10 = .ok (.goto 4, 3) := by decide +kernel
theorem dJ0_coder_7d493_13 : decode cJ0_coder_7d493 13 = .ok (.iconst 1, 1) := by decide +kernel
theorem dJ0_coder_7d493_14 : decode cJ0_coder_7d493 14 = .ok (.ireturn, 1) := by decide +kernel
theorem dJ0_isLatin1_aae02_0 : decode cJ0_isLatin1_aae02 0 = .ok (.getstatic 38, 3) := by decide +kernel
theorem dJ0_isLatin1_aae02_3 : decode cJ0_isLatin1_aae02 3 = .ok (.ifCond .eq 14, 3) := by decide +kernel
theorem dJ0_isLatin1_aae02_6 : decode cJ0_isLatin1_aae02 6 = .ok (.aload_n 0, 1) := by decide +kernel
theorem dJ0_isLatin1_aae02_7 : decode cJ0_isLatin1_aae02 7 = .ok (.getfield 15, 3) := by decide +kernel
theorem dJ0_isLatin1_aae02_10 : decode cJ0_isLatin1_aae02 10 = .ok (.ifCond .ne 7, 3) := by decide +kernel
theorem dJ0_isLatin1_aae02_13 : decode cJ0_isLatin1_aae02 13 = .ok (.iconst 1, 1) := by decide +kernel
theorem dJ0_isLatin1_aae02_14 : decode cJ0_isLatin1_aae02 14 = .ok (.goto 4, 3) := by decide +kernel
theorem dJ0_isLatin1_aae02_17 : decode cJ0_isLatin1_aae02 17 = .ok (.iconst 0, 1) := by decide +kernel
theorem dJ0_isLatin1_aae02_18 : decode cJ0_isLatin1_aae02 18 = .ok (.ireturn, 1) := by decide +kernel
theorem dJ0_checkBoundsBeginEnd_23922_0 : decode cJ0_checkBoundsBeginEnd_23922 0 = .ok (.iload_n 0, 1) := by decide +kernel
theorem dJ0_checkBoundsBeginEnd_23922_1 : decode cJ0_checkBoundsBeginEnd_23922 1 = .ok (.iload_n 1, 1) := by decide +kernel
theorem dJ0_checkBoundsBeginEnd_23922_2 : decode cJ0_checkBoundsBeginEnd_23922 2 = .ok (.iload_n 2, 1) := by decide +kernel
theorem dJ0_checkBoundsBeginEnd_23922_3 : decode cJ0_checkBoundsBeginEnd_23922 3 = .ok (.getstatic 1053, 3) := by decide +kernel
theorem dJ0_checkBoundsBeginEnd_23922_6 : decode cJ0_checkBoundsBeginEnd_23922 6 = .ok (.invokestatic 1062, 3) := by decide +kernel
theorem dJ0_checkBoundsBeginEnd_23922_9 : decode cJ0_checkBoundsBeginEnd_23922 9 = .ok (.pop, 1) := by decide +kernel
theorem dJ0_checkBoundsBeginEnd_23922_10 : decode cJ0_checkBoundsBeginEnd_23922 10 = .ok (.return_, 1) := by decide +kernel
theorem dJ1_canEncode_9a6ad_0 : decode cJ1_canEncode_9a6ad 0 = .ok (.iload_n 0, 1) := by decide +kernel
theorem dJ1_canEncode_9a6ad_1 : decode cJ1_canEncode_9a6ad 1 = .ok (.ifCond .lt 14, 3) := by decide +kernel
theorem dJ1_canEncode_9a6ad_4 : decode cJ1_canEncode_9a6ad 4 = .ok (.iload_n 0, 1) := by decide +kernel
theorem dJ1_canEncode_9a6ad_5 : decode cJ1_canEncode_9a6ad 5 = .ok (.sipush 255, 3) := by decide +kernel
theorem dJ1_canEncode_9a6ad_8 : decode cJ1_canEncode_9a6ad 8 = .ok (.if_icmp .gt 7, 3) := by decide +kernel
theorem dJ1_canEncode_9a6ad_11 : decode cJ1_canEncode_9a6ad 11 = .ok (.iconst 1, 1) := by decide +kernel
theorem dJ1_canEncode_9a6ad_12 : decode cJ1_canEncode_9a6ad 12 = .ok (.goto 4, 3) := by decide +kernel
theorem dJ1_canEncode_9a6ad_15 : decode cJ1_canEncode_9a6ad 15 = .ok (.iconst 0, 1) := by decide +kernel
theorem dJ1_canEncode_9a6ad_16 : decode cJ1_canEncode_9a6ad 16 = .ok (.ireturn, 1) := by decide +kernel
theorem dJ1_indexOf_4cfef_0 : decode cJ1_indexOf_4cfef 0 = .ok (.iload_n 1, 1) := by decide +kernel
theorem dJ1_indexOf_4cfef_1 : decode cJ1_indexOf_4cfef 1 = .ok (.invokestatic 88, 3) := by decide +kernel
theorem dJ1_indexOf_4cfef_4 : decode cJ1_indexOf_4cfef 4 = .ok (.ifCond .ne 5, 3) := by decide +kernel
theorem dJ1_indexOf_4cfef_7 : decode cJ1_indexOf_4cfef 7 = .ok (.iconst (-1), 1) := by decide +kernel
theorem dJ1_indexOf_4cfef_8 : decode cJ1_indexOf_4cfef 8 = .ok (.ireturn, 1) := by decide +kernel
theorem dJ1_indexOf_4cfef_9 : decode cJ1_indexOf_4cfef 9 = .ok (.iload_n 2, 1) := by decide +kernel
theorem dJ1_indexOf_4cfef_10 : decode cJ1_indexOf_4cfef 10 = .ok (.iconst 0, 1) := by decide +kernel
theorem dJ1_indexOf_4cfef_11 : decode cJ1_indexOf_4cfef 11 = .ok (.invokestatic 92, 3) := by decide +kernel
theorem dJ1_indexOf_4cfef_14 : decode cJ1_indexOf_4cfef 14 = .ok (.istore_n 2, 1) := by decide +kernel
theorem dJ1_indexOf_4cfef_15 : decode cJ1_indexOf_4cfef 15 = .ok (.iload_n 3, 1) := by decide +kernel
theorem dJ1_indexOf_4cfef_16 : decode cJ1_indexOf_4cfef 16 = .ok (.aload_n 0, 1) := by decide +kernel
theorem dJ1_indexOf_4cfef_17 : decode cJ1_indexOf_4cfef 17 = .ok (.arraylength, 1) := by decide +kernel
theorem dJ1_indexOf_4cfef_18 : decode cJ1_indexOf_4cfef 18 = .ok (.invokestatic 38, 3) := by decide +kernel
theorem dJ1_indexOf_4cfef_21 : decode cJ1_indexOf_4cfef 21 = .ok (.istore_n 3, 1) := by decide +kernel
theorem dJ1_indexOf_4cfef_22 : decode cJ1_indexOf_4cfef 22 = .ok (.iload_n 2, 1) := by decide +kernel
theorem dJ1_indexOf_4cfef_23 : decode cJ1_indexOf_4cfef 23 = .ok (.iload_n 3, 1) := by decide +kernel
theorem dJ1_indexOf_4cfef_24 : decode cJ1_indexOf_4cfef 24 = .ok (.if_icmp .lt 5, 3) := by decide +kernel
theorem dJ1_indexOf_4cfef_27 : decode cJ1_indexOf_4cfef 27 = .ok (.iconst (-1), 1) := by decide +kernel
theorem dJ1_indexOf_4cfef_28 : decode cJ1_indexOf_4cfef 28 = .ok (.ireturn, 1) := by decide +kernel
theorem dJ1_indexOf_4cfef_29 : decode cJ1_indexOf_4cfef 29 = .ok (.aload_n 0, 1) := by decide +kernel
theorem dJ1_indexOf_4cfef_30 : decode cJ1_indexOf_4cfef 30 = .ok (.iload_n 1, 1) := by decide +kernel
theorem dJ1_indexOf_4cfef_31 : decode cJ1_indexOf_4cfef 31 = .ok (.iload_n 2, 1) := by decide +kernel
theorem dJ1_indexOf_4cfef_32 : decode cJ1_indexOf_4cfef 32 = .ok (.iload_n 3, 1) := by decide +kernel
theorem dJ1_indexOf_4cfef_33 : decode cJ1_indexOf_4cfef 33 = .ok (.invokestatic 95, 3) := by decide +kernel
theorem dJ1_indexOf_4cfef_36 : decode cJ1_indexOf_4cfef 36 = .ok (.ireturn, 1) := by decide +kernel
theorem dJ1_indexOfChar_4cfef_0 : decode cJ1_indexOfChar_4cfef 0 = .ok (.iload_n 1, 1) := by decide +kernel
theorem dJ1_indexOfChar_4cfef_1 : decode cJ1_indexOfChar_4cfef 1 = .ok (.i2b, 1) := by decide +kernel
theorem dJ1_indexOfChar_4cfef_2 : decode cJ1_indexOfChar_4cfef 2 = .ok (.istore 4, 2) := by decide +kernel
theorem dJ1_indexOfChar_4cfef_4 : decode cJ1_indexOfChar_4cfef 4 = .ok (.iload_n 2, 1) := by decide +kernel
theorem dJ1_indexOfChar_4cfef_5 : decode cJ1_indexOfChar_4cfef 5 = .ok (.istore 5, 2) := by decide +kernel
theorem dJ1_indexOfChar_4cfef_7 : decode cJ1_indexOfChar_4cfef 7 = .ok (.iload 5, 2) := by decide +kernel
theorem dJ1_indexOfChar_4cfef_9 : decode cJ1_indexOfChar_4cfef 9 = .ok (.iload_n 3, 1) := by decide +kernel
theorem dJ1_indexOfChar_4cfef_10 : decode cJ1_indexOfChar_4cfef 10 = .ok (.if_icmp .ge 21, 3) := by decide +kernel
theorem dJ1_indexOfChar_4cfef_13 : decode cJ1_indexOfChar_4cfef 13 = .ok (.aload_n 0, 1) := by decide +kernel
theorem dJ1_indexOfChar_4cfef_14 : decode cJ1_indexOfChar_4cfef 14 = .ok (.iload 5, 2) := by decide +kernel
theorem dJ1_indexOfChar_4cfef_16 : decode cJ1_indexOfChar_4cfef 16 = .ok (.baload, 1) := by decide +kernel
theorem dJ1_indexOfChar_4cfef_17 : decode cJ1_indexOfChar_4cfef 17 = .ok (.iload 4, 2) := by decide +kernel
theorem dJ1_indexOfChar_4cfef_19 : decode cJ1_indexOfChar_4cfef 19 = .ok (.if_icmp .ne 6, 3) := by decide +kernel
theorem dJ1_indexOfChar_4cfef_22 : decode cJ1_indexOfChar_4cfef 22 = .ok (.iload 5, 2) := by decide +kernel
theorem dJ1_indexOfChar_4cfef_24 : decode cJ1_indexOfChar_4cfef 24 = .ok (.ireturn, 1) := by decide +kernel
theorem dJ1_indexOfChar_4cfef_25 : decode cJ1_indexOfChar_4cfef 25 = .ok (.iinc 5 1, 3) := by decide +kernel
theorem dJ1_indexOfChar_4cfef_28 : decode cJ1_indexOfChar_4cfef 28 = .ok (.goto (-21), 3) := by decide +kernel
theorem dJ1_indexOfChar_4cfef_31 : decode cJ1_indexOfChar_4cfef 31 = .ok (.iconst (-1), 1) := by decide +kernel
theorem dJ1_indexOfChar_4cfef_32 : decode cJ1_indexOfChar_4cfef 32 = .ok (.ireturn, 1) := by decide +kernel
theorem dJ2_getChar_3b067_0 : decode cJ2_getChar_3b067 0 = .ok (.getstatic 44, 3) := by decide +kernel
theorem dJ2_getChar_3b067_3 : decode cJ2_getChar_3b067 3 = .ok (.ifCond .ne 25, 3) := by decide +kernel
theorem dJ2_getChar_3b067_6 : decode cJ2_getChar_3b067 6 = .ok (.iload_n 1, 1) := by decide +kernel
theorem dJ2_getChar_3b067_7 : decode cJ2_getChar_3b067 7 = .ok (.ifCond .lt 11, 3) := by decide +kernel
theorem dJ2_getChar_3b067_10 : decode cJ2_getChar_3b067 10 = .ok (.iload_n 1, 1) := by decide +kernel
theorem dJ2_getChar_3b067_11 : decode cJ2_getChar_3b067 11 = .ok (.aload_n 0, 1) := by decide +kernel
theorem dJ2_getChar_3b067_12 : decode cJ2_getChar_3b067 12 = .ok (.invokestatic 48, 3) := by decide +kernel
theorem dJ2_getChar_3b067_15 : decode cJ2_getChar_3b067 15 = .ok (.if_icmp .lt 13, 3) := by decide +kernel
theorem dJ2_getChar_3b067_18 : decode cJ2_getChar_3b067 18 = .ok (.new 52, 3) := by decide +kernel
theorem dJ2_getChar_3b067_21 : decode cJ2_getChar_3b067 21 = .ok (.dup, 1) := by decide +kernel
theorem dJ2_getChar_3b067_22 : decode cJ2_getChar_3b067 22 = .ok (.ldc 54, 2) := by decide +kernel
theorem dJ2_getChar_3b067_24 : decode cJ2_getChar_3b067 24 = .ok (.invokespecial 56, 3) := by decide +kernel
theorem dJ2_getChar_3b067_27 : decode cJ2_getChar_3b067 27 = .ok (.athrow, 1) := by decide +kernel
theorem dJ2_getChar_3b067_28 : decode cJ2_getChar_3b067 28 = .ok (.iload_n 1, 1) := by decide +kernel
theorem dJ2_getChar_3b067_29 : decode cJ2_getChar_3b067 29 = .ok (.iconst 1, 1) := by decide +kernel
theorem dJ2_getChar_3b067_30 : decode cJ2_getChar_3b067 30 = .ok (.ishl, 1) := by decide +kernel
theorem dJ2_getChar_3b067_31 : decode cJ2_getChar_3b067 31 = .ok (.istore_n 1, 1) := by decide +kernel
theorem dJ2_getChar_3b067_32 : decode cJ2_getChar_3b067 32 = .ok (.aload_n 0, 1) := by decide +kernel
theorem dJ2_getChar_3b067_33 : decode cJ2_getChar_3b067 33 = .ok (.iload_n 1, 1) := by decide +kernel
theorem dJ2_getChar_3b067_34 : decode cJ2_getChar_3b067 34 = .ok (.iinc 1 1, 3) := by decide +kernel
theorem dJ2_getChar_3b067_37 : decode cJ2_getChar_3b067 37 = .ok (.baload, 1) := by decide +kernel
theorem dJ2_getChar_3b067_38 : decode cJ2_getChar_3b067 38 = .ok (.sipush 255, 3) := by decide +kernel
theorem dJ2_getChar_3b067_41 : decode cJ2_getChar_3b067 41 = .ok (.iand, 1) := by decide +kernel
theorem dJ2_getChar_3b067_42 : decode cJ2_getChar_3b067 42 = .ok (.getstatic 59, 3) := by decide +kernel
theorem dJ2_getChar_3b067_45 : decode cJ2_getChar_3b067 45 = .ok (.ishl, 1) := by decide +kernel
theorem dJ2_getChar_3b067_46 : decode cJ2_getChar_3b067 46 = .ok (.aload_n 0, 1) := by decide +kernel
theorem dJ2_getChar_3b067_47 : decode cJ2_getChar_3b067 47 = .ok (.iload_n 1, 1) := by decide +kernel
theorem dJ2_getChar_3b067_48 : decode cJ2_getChar_3b067 48 = .ok (.baload, 1) := by decide +kernel
theorem dJ2_getChar_3b067_49 : decode cJ2_getChar_3b067 49 = .ok (.sipush 255, 3) := by decide +kernel
theorem dJ2_getChar_3b067_52 : decode cJ2_getChar_3b067 52 = .ok (.iand, 1) := by decide +kernel
theorem dJ2_getChar_3b067_53 : decode cJ2_getChar_3b067 53 = .ok (.getstatic 63, 3) := by decide +kernel
theorem dJ2_getChar_3b067_56 : decode cJ2_getChar_3b067 56 = .ok (.ishl, 1) := by decide +kernel
theorem dJ2_getChar_3b067_57 : decode cJ2_getChar_3b067 57 = .ok (.ior, 1) := by decide +kernel
theorem dJ2_getChar_3b067_58 : decode cJ2_getChar_3b067 58 = .ok (.i2c, 1) := by decide +kernel
theorem dJ2_getChar_3b067_59 : decode cJ2_getChar_3b067 59 = .ok (.ireturn, 1) := by decide +kernel
theorem dJ2_length_9d52b_0 : decode cJ2_length_9d52b 0 = .ok (.aload_n 0, 1) := by decide +kernel
theorem dJ2_length_9d52b_1 : decode cJ2_length_9d52b 1 = .ok (.arraylength, 1) := by decide +kernel
theorem dJ2_length_9d52b_2 : decode cJ2_length_9d52b 2 = .ok (.iconst 1, 1) := by decide +kernel
theorem dJ2_length_9d52b_3 : decode cJ2_length_9d52b 3 = .ok (.ishr, 1) := by decide +kernel
theorem dJ2_length_9d52b_4 : decode cJ2_length_9d52b 4 = .ok (.ireturn, 1) := by decide +kernel
theorem dJ2_indexOf_4cfef_0 : decode cJ2_indexOf_4cfef 0 = .ok (.iload_n 2, 1) := by decide +kernel
theorem dJ2_indexOf_4cfef_1 : decode cJ2_indexOf_4cfef 1 = .ok (.iconst 0, 1) := by decide +kernel
theorem dJ2_indexOf_4cfef_2 : decode cJ2_indexOf_4cfef 2 = .ok (.invokestatic 224, 3) := by decide +kernel
theorem dJ2_indexOf_4cfef_5 : decode cJ2_indexOf_4cfef 5 = .ok (.istore_n 2, 1) := by decide +kernel
theorem dJ2_indexOf_4cfef_6 : decode cJ2_indexOf_4cfef 6 = .ok (.iload_n 3, 1) := by decide +kernel
theorem dJ2_indexOf_4cfef_7 : decode cJ2_indexOf_4cfef 7 = .ok (.aload_n 0, 1) := by decide +kernel
theorem dJ2_indexOf_4cfef_8 : decode cJ2_indexOf_4cfef 8 = .ok (.arraylength, 1) := by decide +kernel
theorem dJ2_indexOf_4cfef_9 : decode cJ2_indexOf_4cfef 9 = .ok (.iconst 1, 1) := by decide +kernel
theorem dJ2_indexOf_4cfef_10 : decode cJ2_indexOf_4cfef 10 = .ok (.ishr, 1) := by decide +kernel
theorem dJ2_indexOf_4cfef_11 : decode cJ2_indexOf_4cfef 11 = .ok (.invokestatic 183, 3) := by decide +kernel
theorem dJ2_indexOf_4cfef_14 : decode cJ2_indexOf_4cfef 14 = .ok (.istore_n 3, 1) := by decide +kernel
theorem dJ2_indexOf_4cfef_15 : decode cJ2_indexOf_4cfef 15 = .ok (.iload_n 2, 1) := by decide +kernel
theorem dJ2_indexOf_4cfef_16 : decode cJ2_indexOf_4cfef 16 = .ok (.iload_n 3, 1) := by decide +kernel
theorem dJ2_indexOf_4cfef_17 : decode cJ2_indexOf_4cfef 17 = .ok (.if_icmp .lt 5, 3) := by decide +kernel
theorem dJ2_indexOf_4cfef_20 : decode cJ2_indexOf_4cfef 20 = .ok (.iconst (-1), 1) := by decide +kernel
theorem dJ2_indexOf_4cfef_21 : decode cJ2_indexOf_4cfef 21 = .ok (.ireturn, 1) := by decide +kernel
theorem dJ2_indexOf_4cfef_22 : decode cJ2_indexOf_4cfef 22 = .ok (.iload_n 1, 1) := by decide +kernel
theorem dJ2_indexOf_4cfef_23 : decode cJ2_indexOf_4cfef 23 = .ok (.ldc 227, 2) := by decide +kernel
theorem dJ2_indexOf_4cfef_25 : decode cJ2_indexOf_4cfef 25 = .ok (.if_icmp .ge 11, 3) := by decide +kernel
theorem dJ2_indexOf_4cfef_28 : decode cJ2_indexOf_4cfef 28 = .ok (.aload_n 0, 1) := by decide +kernel
theorem dJ2_indexOf_4cfef_29 : decode cJ2_indexOf_4cfef 29 = .ok (.iload_n 1, 1) := by decide +kernel
theorem dJ2_indexOf_4cfef_30 : decode cJ2_indexOf_4cfef 30 = .ok (.iload_n 2, 1) := by decide +kernel
theorem dJ2_indexOf_4cfef_31 : decode cJ2_indexOf_4cfef 31 = .ok (.iload_n 3, 1) := by decide +kernel
theorem dJ2_indexOf_4cfef_32 : decode cJ2_indexOf_4cfef 32 = .ok (.invokestatic 228, 3) := by decide +kernel
theorem dJ2_indexOf_4cfef_35 : decode cJ2_indexOf_4cfef 35 = .ok (.ireturn, 1) := by decide +kernel
theorem dJ2_indexOf_4cfef_36 : decode cJ2_indexOf_4cfef 36 = .ok (.aload_n 0, 1) := by decide +kernel
theorem dJ2_indexOf_4cfef_37 : decode cJ2_indexOf_4cfef 37 = .ok (.iload_n 1, 1) := by decide +kernel
theorem dJ2_indexOf_4cfef_38 : decode cJ2_indexOf_4cfef 38 = .ok (.iload_n 2, 1) := by decide +kernel
theorem dJ2_indexOf_4cfef_39 : decode cJ2_indexOf_4cfef 39 = .ok (.iload_n 3, 1) := by decide +kernel
theorem dJ2_indexOf_4cfef_40 : decode cJ2_indexOf_4cfef 40 = .ok (.invokestatic 232, 3) := by decide +kernel
theorem dJ2_indexOf_4cfef_43 : decode cJ2_indexOf_4cfef 43 = .ok (.ireturn, 1) := by decide +kernel
theorem dJ2_indexOfChar_4cfef_0 : decode cJ2_indexOfChar_4cfef 0 = .ok (.iload_n 2, 1) := by decide +kernel
theorem dJ2_indexOfChar_4cfef_1 : decode cJ2_indexOfChar_4cfef 1 = .ok (.iload_n 3, 1) := by decide +kernel
theorem dJ2_indexOfChar_4cfef_2 : decode cJ2_indexOfChar_4cfef 2 = .ok (.aload_n 0, 1) := by decide +kernel
theorem dJ2_indexOfChar_4cfef_3 : decode cJ2_indexOfChar_4cfef 3 = .ok (.invokestatic 96, 3) := by decide +kernel
theorem dJ2_indexOfChar_4cfef_6 : decode cJ2_indexOfChar_4cfef 6 = .ok (.aload_n 0, 1) := by decide +kernel
theorem dJ2_indexOfChar_4cfef_7 : decode cJ2_indexOfChar_4cfef 7 = .ok (.iload_n 1, 1) := by decide +kernel
theorem dJ2_indexOfChar_4cfef_8 : decode cJ2_indexOfChar_4cfef 8 = .ok (.iload_n 2, 1) := by decide +kernel
theorem dJ2_indexOfChar_4cfef_9 : decode cJ2_indexOfChar_4cfef 9 = .ok (.iload_n 3, 1) := by decide +kernel
theorem dJ2_indexOfChar_4cfef_10 : decode cJ2_indexOfChar_4cfef 10 = .ok (.invokestatic 244, 3) := by decide +kernel
theorem dJ2_indexOfChar_4cfef_13 : decode cJ2_indexOfChar_4cfef 13 = .ok (.ireturn, 1) := by decide +kernel
theorem dJ2_indexOfCharUnsafe_4cfef_0 : decode cJ2_indexOfCharUnsafe_4cfef 0 = .ok (.iload_n 2, 1) := by decide +kernel
theorem dJ2_indexOfCharUnsafe_4cfef_1 : decode cJ2_indexOfCharUnsafe_4cfef 1 = .ok (.istore 4, 2) := by decide +kernel
theorem dJ2_indexOfCharUnsafe_4cfef_3 : decode cJ2_indexOfCharUnsafe_4cfef 3 = .ok (.iload 4, 2) := by decide +kernel
theorem dJ2_indexOfCharUnsafe_4cfef_5 : decode cJ2_indexOfCharUnsafe_4cfef 5 = .ok (.iload_n 3, 1) := by decide +kernel
theorem dJ2_indexOfCharUnsafe_4cfef_6 : decode cJ2_indexOfCharUnsafe_4cfef 6 = .ok (.if_icmp .ge 22, 3) := by decide +kernel
theorem dJ2_indexOfCharUnsafe_4cfef_9 : decode cJ2_indexOfCharUnsafe_4cfef 9 = .ok (.aload_n 0, 1) := by decide +kernel
theorem dJ2_indexOfCharUnsafe_4cfef_10 : decode cJ2_indexOfCharUnsafe_4cfef 10 = .ok (.iload 4, 2) := by decide +kernel
theorem dJ2_indexOfCharUnsafe_4cfef_12 : decode cJ2_indexOfCharUnsafe_4cfef 12 = .ok (.invokestatic 71, 3) := by decide +kernel
theorem dJ2_indexOfCharUnsafe_4cfef_15 : decode cJ2_indexOfCharUnsafe_4cfef 15 = .ok (.iload_n 1, 1) := by decide +kernel
theorem dJ2_indexOfCharUnsafe_4cfef_16 : decode cJ2_indexOfCharUnsafe_4cfef 16 = .ok (.if_icmp .ne 6, 3) := by decide +kernel
theorem dJ2_indexOfCharUnsafe_4cfef_19 : decode cJ2_indexOfCharUnsafe_4cfef 19 = .ok (.iload 4, 2) := by decide +kernel
theorem dJ2_indexOfCharUnsafe_4cfef_21 : decode cJ2_indexOfCharUnsafe_4cfef 21 = .ok (.ireturn, 1) := by decide +kernel
theorem dJ2_indexOfCharUnsafe_4cfef_22 : decode cJ2_indexOfCharUnsafe_4cfef 22 = .ok (.iinc 4 1, 3) := by decide +kernel
theorem dJ2_indexOfCharUnsafe_4cfef_25 : decode cJ2_indexOfCharUnsafe_4cfef 25 = .ok (.goto (-22), 3) := by decide +kernel
theorem dJ2_indexOfCharUnsafe_4cfef_28 : decode cJ2_indexOfCharUnsafe_4cfef 28 = .ok (.iconst (-1), 1) := by decide +kernel
theorem dJ2_indexOfCharUnsafe_4cfef_29 : decode cJ2_indexOfCharUnsafe_4cfef 29 = .ok (.ireturn, 1) := by decide +kernel
theorem dJ2_indexOfSupplementary_4cfef_0 : decode cJ2_indexOfSupplementary_4cfef 0 = .ok (.iload_n 1, 1) := by decide +kernel
theorem dJ2_indexOfSupplementary_4cfef_1 : decode cJ2_indexOfSupplementary_4cfef 1 = .ok (.invokestatic 164, 3) := by decide +kernel
theorem dJ2_indexOfSupplementary_4cfef_4 : decode cJ2_indexOfSupplementary_4cfef 4 = .ok (.ifCond .eq 65, 3) := by decide +kernel
theorem dJ2_indexOfSupplementary_4cfef_7 : decode cJ2_indexOfSupplementary_4cfef 7 = .ok (.iload_n 1, 1) := by decide +kernel
theorem dJ2_indexOfSupplementary_4cfef_8 : decode cJ2_indexOfSupplementary_4cfef 8 = .ok (.invokestatic 157, 3) := by decide +kernel
theorem dJ2_indexOfSupplementary_4cfef_11 : decode cJ2_indexOfSupplementary_4cfef 11 = .ok (.istore 4, 2) := by decide +kernel
theorem dJ2_indexOfSupplementary_4cfef_13 : decode cJ2_indexOfSupplementary_4cfef 13 = .ok (.iload_n 1, 1) := by decide +kernel
theorem dJ2_indexOfSupplementary_4cfef_14 : decode cJ2_indexOfSupplementary_4cfef 14 = .ok (.invokestatic 161, 3) := by decide +kernel
theorem dJ2_indexOfSupplementary_4cfef_17 : decode cJ2_indexOfSupplementary_4cfef 17 = .ok (.istore 5, 2) := by decide +kernel
theorem dJ2_indexOfSupplementary_4cfef_19 : decode cJ2_indexOfSupplementary_4cfef 19 = .ok (.iload_n 2, 1) := by decide +kernel
theorem dJ2_indexOfSupplementary_4cfef_20 : decode cJ2_indexOfSupplementary_4cfef 20 = .ok (.iload_n 3, 1) := by decide +kernel
theorem dJ2_indexOfSupplementary_4cfef_21 : decode cJ2_indexOfSupplementary_4cfef 21 = .ok (.aload_n 0, 1) := by decide +kernel
theorem dJ2_indexOfSupplementary_4cfef_22 : decode cJ2_indexOfSupplementary_4cfef 22 = .ok (.invokestatic 96, 3) := by decide +kernel
theorem dJ2_indexOfSupplementary_4cfef_25 : decode cJ2_indexOfSupplementary_4cfef 25 = .ok (.iload_n 2, 1) := by decide +kernel
theorem dJ2_indexOfSupplementary_4cfef_26 : decode cJ2_indexOfSupplementary_4cfef 26 = .ok (.istore 6, 2) := by decide +kernel
theorem dJ2_indexOfSupplementary_4cfef_28 : decode cJ2_indexOfSupplementary_4cfef 28 = .ok (.iload 6, 2) := by decide +kernel
theorem dJ2_indexOfSupplementary_4cfef_30 : decode cJ2_indexOfSupplementary_4cfef 30 = .ok (.iload_n 3, 1) := by decide +kernel
theorem dJ2_indexOfSupplementary_4cfef_31 : decode cJ2_indexOfSupplementary_4cfef 31 = .ok (.iconst 1, 1) := by decide +kernel
theorem dJ2_indexOfSupplementary_4cfef_32 : decode cJ2_indexOfSupplementary_4cfef 32 = .ok (.isub, 1) := by decide +kernel
theorem dJ2_indexOfSupplementary_4cfef_33 : decode cJ2_indexOfSupplementary_4cfef 33 = .ok (.if_icmp .ge 36, 3) := by decide +kernel
theorem dJ2_indexOfSupplementary_4cfef_36 : decode cJ2_indexOfSupplementary_4cfef 36 = .ok (.aload_n 0, 1) := by decide +kernel
theorem dJ2_indexOfSupplementary_4cfef_37 : decode cJ2_indexOfSupplementary_4cfef 37 = .ok (.iload 6, 2) := by decide +kernel
theorem dJ2_indexOfSupplementary_4cfef_39 : decode cJ2_indexOfSupplementary_4cfef 39 = .ok (.invokestatic 71, 3) := by decide +kernel
theorem dJ2_indexOfSupplementary_4cfef_42 : decode cJ2_indexOfSupplementary_4cfef 42 = .ok (.iload 4, 2) := by decide +kernel
theorem dJ2_indexOfSupplementary_4cfef_44 : decode cJ2_indexOfSupplementary_4cfef 44 = .ok (.if_icmp .ne 19, 3) := by decide +kernel
theorem dJ2_indexOfSupplementary_4cfef_47 : decode cJ2_indexOfSupplementary_4cfef 47 = .ok (.aload_n 0, 1) := by decide +kernel
theorem dJ2_indexOfSupplementary_4cfef_48 : decode cJ2_indexOfSupplementary_4cfef 48 = .ok (.iload 6, 2) := by decide +kernel
theorem dJ2_indexOfSupplementary_4cfef_50 : decode cJ2_indexOfSupplementary_4cfef 50 = .ok (.iconst 1, 1) := by decide +kernel
theorem dJ2_indexOfSupplementary_4cfef_51 : decode cJ2_indexOfSupplementary_4cfef 51 = .ok (.iadd, 1) := by decide +kernel
theorem dJ2_indexOfSupplementary_4cfef_52 : decode cJ2_indexOfSupplementary_4cfef 52 = .ok (.invokestatic 71, 3) := by decide +kernel
theorem dJ2_indexOfSupplementary_4cfef_55 : decode cJ2_indexOfSupplementary_4cfef 55 = .ok (.iload 5, 2) := by decide +kernel
theorem dJ2_indexOfSupplementary_4cfef_57 : decode cJ2_indexOfSupplementary_4cfef 57 = .ok (.if_icmp .ne 6, 3) := by decide +kernel
theorem dJ2_indexOfSupplementary_4cfef_60 : decode cJ2_indexOfSupplementary_4cfef 60 = .ok (.iload 6, 2) := by decide +kernel
theorem dJ2_indexOfSupplementary_4cfef_62 : decode cJ2_indexOfSupplementary_4cfef 62 = .ok (.ireturn, 1) := by decide +kernel
theorem dJ2_indexOfSupplementary_4cfef_63 : decode cJ2_indexOfSupplementary_4cfef 63 = .ok (.iinc 6 1, 3) := by decide +kernel
theorem dJ2_indexOfSupplementary_4cfef_66 : decode cJ2_indexOfSupplementary_4cfef 66 = .ok (.goto (-38), 3) := by decide +kernel
theorem dJ2_indexOfSupplementary_4cfef_69 : decode cJ2_indexOfSupplementary_4cfef 69 = .ok (.iconst (-1), 1) := by decide +kernel
theorem dJ2_indexOfSupplementary_4cfef_70 : decode cJ2_indexOfSupplementary_4cfef 70 = .ok (.ireturn, 1) := by decide +kernel
theorem dJ2_checkBoundsBeginEnd_d044e_0 : decode cJ2_checkBoundsBeginEnd_d044e 0 = .ok (.iload_n 0, 1) := by decide +kernel
theorem dJ2_checkBoundsBeginEnd_d044e_1 : decode cJ2_checkBoundsBeginEnd_d044e 1 = .ok (.iload_n 1, 1) := by decide +kernel
theorem dJ2_checkBoundsBeginEnd_d044e_2 : decode cJ2_checkBoundsBeginEnd_d044e 2 = .ok (.aload_n 2, 1) := by decide +kernel
theorem dJ2_checkBoundsBeginEnd_d044e_3 : decode cJ2_checkBoundsBeginEnd_d044e 3 = .ok (.invokestatic 48, 3) := by decide +kernel
theorem dJ2_checkBoundsBeginEnd_d044e_6 : decode cJ2_checkBoundsBeginEnd_d044e 6 = .ok (.invokestatic 241, 3) := by decide +kernel
theorem dJ2_checkBoundsBeginEnd_d044e_9 : decode cJ2_checkBoundsBeginEnd_d044e 9 = .ok (.return_, 1) := by decide +kernel
theorem dJ3_checkFromToIndex_8c36e_0 : decode cJ3_checkFromToIndex_8c36e 0 = .ok (.iload_n 0, 1) := by decide +kernel
theorem dJ3_checkFromToIndex_8c36e_1 : decode cJ3_checkFromToIndex_8c36e 1 = .ok (.ifCond .lt 13, 3) := by decide +kernel
theorem dJ3_checkFromToIndex_8c36e_4 : decode cJ3_checkFromToIndex_8c36e 4 = .ok (.iload_n 0, 1) := by decide +kernel
theorem dJ3_checkFromToIndex_8c36e_5 : decode cJ3_checkFromToIndex_8c36e 5 = .ok (.iload_n 1, 1) := by decide +kernel
theorem dJ3_checkFromToIndex_8c36e_6 : decode cJ3_checkFromToIndex_8c36e 6 = .ok (.if_icmp .gt 8, 3) := by decide +kernel
theorem dJ3_checkFromToIndex_8c36e_9 : decode cJ3_checkFromToIndex_8c36e 9 = .ok (.iload_n 1, 1) := by decide +kernel
theorem dJ3_checkFromToIndex_8c36e_10 : decode cJ3_checkFromToIndex_8c36e 10 = .ok (.iload_n 2, 1) := by decide +kernel
theorem dJ3_checkFromToIndex_8c36e_11 : decode cJ3_checkFromToIndex_8c36e 11 = .ok (.if_icmp .le 11, 3) := by decide +kernel
theorem dJ3_checkFromToIndex_8c36e_14 : decode cJ3_checkFromToIndex_8c36e 14 = .ok (.aload_n 3, 1) := by decide +kernel
theorem dJ3_checkFromToIndex_8c36e_15 : decode cJ3_checkFromToIndex_8c36e 15 = .ok (.iload_n 0, 1) := by decide +kernel
theorem dJ3_checkFromToIndex_8c36e_16 : decode cJ3_checkFromToIndex_8c36e 16 = .ok (.iload_n 1, 1) := by decide +kernel
theorem dJ3_checkFromToIndex_8c36e_17 : decode cJ3_checkFromToIndex_8c36e 17 = .ok (.iload_n 2, 1) := by decide +kernel
theorem dJ3_checkFromToIndex_8c36e_18 : decode cJ3_checkFromToIndex_8c36e 18 = .ok (.invokestatic 99, 3) := by decide +kernel
theorem dJ3_checkFromToIndex_8c36e_21 : decode cJ3_checkFromToIndex_8c36e 21 = .ok (.athrow, 1) := by decide +kernel
theorem dJ3_checkFromToIndex_8c36e_22 : decode cJ3_checkFromToIndex_8c36e 22 = .ok (.iload_n 0, 1) := by decide +kernel
theorem dJ3_checkFromToIndex_8c36e_23 : decode cJ3_checkFromToIndex_8c36e 23 = .ok (.ireturn, 1) := by decide +kernel
end
section
/-! ===== THE FRAME: one judgement G for a point of a method, 'ystep' for an instruction, 'yvc' for a run of instructions ===== -/
abbrev kcl : List vw_C := [(RX0, TX0, 9), (RX1, TX1, 5), (RX2, TX2, 2), (RX3, TX3, 3), (RX4, TX4, 3), (RX5, TX5, 3), (RX6, TX6, 9), (RX7, TX7, 26)]
/-- the words that hold all along -/
def BW : List Cond := lw_tbl.filter goodWord
theorem bw_good : GoodIn BW BW := fun w h => ⟨h, good_of_word (List.mem_filter.mp h).2⟩
theorem bw_i {w : Cond} (i : Nat) (h : lw_tbl[i]? = some w) (hg : goodWord w = true) : w ∈ BW := List.mem_filter.mpr ⟨List.mem_of_getElem? h, hg⟩
/-- launch, numbers of classes and slots, own cells, array classes (0 int, 1 long, 2 Moment, 3 Sheet), the String constant and its bytes, the script: its cell, length, contents -/
abbrev Cx : Type := Launch × va_G × (Nat → Prop) × (Nat → ClassId) × Nat × Nat × Nat × Nat × (Nat → Int32)
def tysC (ca : Nat → ClassId) : List (ClassId × FieldType) := [(ca 0, .int), (ca 1, .long), (ca 2, .object RX1), (ca 3, .object RX4)]
def nestW : List Cond := lw_tbl.filter (fun w => match w with | .methodLinkNest _ _ _ _ => true | _ => false)
/-- what holds of the tables and of the cells that are not ours -/
def EV (Γ : Cx) (U : State) (H : Heap) : Prop :=
  va_K Γ.2.1 kcl (tysC Γ.2.2.2.1) U ∧ (∀ w ∈ nestW, va_Nw w U) ∧ vk_R RX5 58 "dcolb" Γ.2.2.2.2.1 U ∧ vk_S 1 [5] [[100, 99, 111, 108, 98]] (fun _ => Γ.2.2.2.2.1) (fun _ => Γ.2.2.2.2.2.1) Γ.2.2.1 U H ∧ va_Z "java/lang/String" "COMPACT_STRINGS" "Z" (.int 1) Γ.2.2.1 U H ∧ va_X Γ.2.2.2.2.2.2.1 Γ.2.2.2.2.2.2.2.1 Γ.2.2.2.2.2.2.2.2 U H ∧ ¬ Γ.2.2.1 Γ.2.2.2.2.2.2.1
theorem nest_warm {w : Cond} (hw : w ∈ nestW) {s U : State} (hW : s.WarmedH U.vm) (h : va_Nw w s) : va_Nw w U := by
  have h1 := (List.mem_filter.mp hw).2
  cases w <;> first | exact va_Nw.warmM hW h | exact absurd h1 (by simp)
theorem nest_same {w : Cond} (hw : w ∈ nestW) {s U : State} (hv : s.vm = U.vm) (h : va_Nw w s) : va_Nw w U := by
  have h1 := (List.mem_filter.mp hw).2
  cases w <;> first | exact va_Nw.same rfl hv h | exact absurd h1 (by simp)
theorem EV.warm {Γ : Cx} {s U : State} {H : Heap} (hW : s.WarmedH U.vm) (h : EV Γ s H) : EV Γ U H :=
  ⟨va_K.moved hW.alike h.1, fun w hw => nest_warm hw hW (h.2.1 w hw), h.2.2.1.warm hW, h.2.2.2.1.moved hW.alike, h.2.2.2.2.1.moved hW.alike, h.2.2.2.2.2.1.moved hW.alike, h.2.2.2.2.2.2⟩
theorem EV.same {Γ : Cx} {s U : State} {H : Heap} (hv : s.vm = U.vm) (h : EV Γ s H) : EV Γ U H := by
  have hal : s.vm.Alike U.vm := by rw [hv]; exact Vm.Alike.refl _
  exact ⟨va_K.moved hal h.1, fun w hw => nest_same hw hv (h.2.1 w hw), h.2.2.1.same hv.symm, h.2.2.2.1.moved hal, h.2.2.2.2.1.moved hal, h.2.2.2.2.2.1.moved hal, h.2.2.2.2.2.2⟩
theorem EV.kept {Γ : Cx} {U : State} {H H1 : Heap} (h : EV Γ U H) (hq : ∀ q : Nat, q < H.size → ¬ Γ.2.2.1 q → H1[q]? = H[q]?) : EV Γ U H1 := by
  refine ⟨h.1, h.2.1, h.2.2.1, h.2.2.2.1.kept hq, h.2.2.2.2.1.kept hq, h.2.2.2.2.2.1.kept ?_, h.2.2.2.2.2.2⟩
  obtain ⟨scr, hb, -⟩ := h.2.2.2.2.2.1
  exact hq _ (Array.getElem?_eq_some_iff.mp hb).1 h.2.2.2.2.2.2
/-- our cells: their addresses, and what stands at each -/
abbrev Hp : Type := List Nat × (Nat → va_E)
abbrev YSp : Type := List Value → Hp → (Option Value → Hp → Prop) → Prop
/-- a method: room, class, bytes, locals, kind of answer, cells and slots made, whether it is the law -/
abbrev Mt : Type := Room × String × ByteArray × Nat × Option FieldType × (Nat × Nat) × Bool
/-- its tables: fields by entry and class (place; 0 read only, 1 int, 2 boolean), constants, calls (how many arguments, gone on at once, spec) -/
abbrev Tb : Type := (Nat → Nat → Option (Nat × Nat)) × (Nat → Option (Int32 ⊕ Int64)) × (Nat → Nat → Option (Nat × Bool × YSp))
abbrev Lv : Type := List (Nat × Value)
def Bq (Γ : Cx) (σ : Hp) (H : Heap) : Prop := va_P Γ.2.1 kcl (va_pl σ.1 σ.2) H ∧ va_D Γ.2.2.1 (va_pl σ.1 σ.2)
def Qk (Γ : Cx) (K : Option Value → Hp → Prop) : Array Value → State → Outcome → State → Prop := fun _ st oc t => (∃ (v : Option Value) (σ : Hp), oc = .returned v ∧ K v σ ∧ Bq Γ σ t.heap) ∧ va_F Γ.2.2.1 st t
def Fx (Γ : Cx) (μ : Mt) (p : Program) (s : State) (m : MethodId) (args : Array Value) (meth : Method) (c : Code) : Prop :=
  p.tables.exec = Jvm.exec ∧ c.code = μ.2.2.1 ∧ c.maxLocals = μ.2.2.2.1 ∧ s.vm.findClass μ.2.1 = some m.cls ∧ (∀ w ∈ BW, w.before args s = true) ∧ meth.sig.returnType = μ.2.2.2.2.1 ∧ meth.locks = false ∧ EV Γ s s.heap ∧ (∀ q, s.heap.size ≤ q → Γ.2.2.1 q)
def YG (Γ : Cx) (μ : Mt) (K : Option Value → Hp → Prop) (pc : Nat) (lv : Lv) (st : List Value) (σ : Hp) : Prop :=
  ∀ (p : Program) (e : Env) (s : State) (m : MethodId) (args : Array Value) (below : List Frame) (meth : Method) (c : Code) (H : Heap) (locs : List Loc) (ls : Array Slot),
    Fx Γ μ p s m args meth c → Bq Γ σ H → va_S Γ.2.2.1 s.heap H locs → lv_has ls μ.2.2.2.1 lv →
    W p Γ.1 e μ.1 s m args below meth c H locs μ.2.2.2.2.2.1.1 μ.2.2.2.2.2.1.2 (MQ below (Qk Γ K) args s μ.2.2.2.2.2.1.1 μ.2.2.2.2.2.1.2 Γ.2.2.1) (F0 m pc ls st)
/-! locals -/
def isL : Value → Bool
  | .long _ => true
  | .double _ => true
  | _ => false
def lg : Lv → Nat → Option Value
  | [], _ => none
  | (j, v) :: r, i => if j = i then some v else lg r i
def ldel : Lv → Nat → Lv
  | [], _ => []
  | (j, w) :: r, i => if j = i ∨ (j + 1 = i ∧ isL w = true) then ldel r i else (j, w) :: ldel r i
def lput : Lv → Nat → Value → Lv
  | [], i, v => [(i, v)]
  | (j, w) :: r, i, v => if j = i then (i, v) :: ldel r i else if j + 1 = i ∧ isL w = true then lput r i v else (j, w) :: lput r i v
theorem lg_mem : ∀ {lv : Lv} {i : Nat} {v : Value}, lg lv i = some v → (i, v) ∈ lv
  | [], i, v, h => by simp [lg] at h
  | (j, w) :: r, i, v, h => by
    unfold lg at h
    split at h
    · next e => cases h; subst e; exact List.mem_cons_self
    · exact List.mem_cons_of_mem _ (lg_mem h)
theorem lg_at {ls : Array Slot} {nL : Nat} {lv : Lv} {i : Nat} {v : Value} (hl : lv_has ls nL lv) (h : lg lv i = some v) : ls[i]? = some (.val v) := hl.2.2 (i, v) (lg_mem h)
theorem lg_ix {lv : Lv} {i : Nat} {v : Value} (h : lg lv i = some v) : ∃ k : Nat, lv[k]? = some (i, v) := List.getElem?_of_mem (lg_mem h)
theorem isL_cat {v : Value} (h : isL v = false) : v.category = 1 := by cases v <;> first | rfl | simp [isL] at h
theorem isL_cat2 {v : Value} (h : v.category = 2) : isL v = true := by cases v <;> first | rfl | simp [Value.category] at h
theorem ldel_mem : ∀ {lv : Lv} {i : Nat} {q : Nat × Value}, q ∈ ldel lv i → q ∈ lv ∧ ¬ q.1 = i ∧ ¬ (q.1 + 1 = i ∧ isL q.2 = true)
  | [], i, q, h => by simp [ldel] at h
  | (j, w) :: r, i, q, h => by
    unfold ldel at h
    split at h
    · obtain ⟨a, b⟩ := ldel_mem h
      exact ⟨List.mem_cons_of_mem _ a, b⟩
    · next e =>
      rcases List.mem_cons.mp h with rfl | h
      · exact ⟨List.mem_cons_self, fun z => e (Or.inl z), fun z => e (Or.inr z)⟩
      · obtain ⟨a, b⟩ := ldel_mem h
        exact ⟨List.mem_cons_of_mem _ a, b⟩
theorem lput_mem : ∀ {lv : Lv} {i : Nat} {v : Value} {q : Nat × Value}, q ∈ lput lv i v → q = (i, v) ∨ (q ∈ lv ∧ ¬ q.1 = i ∧ ¬ (q.1 + 1 = i ∧ isL q.2 = true))
  | [], i, v, q, h => by simp [lput] at h; exact Or.inl h
  | (j, w) :: r, i, v, q, h => by
    unfold lput at h
    split at h
    · rcases List.mem_cons.mp h with rfl | h
      · exact Or.inl rfl
      · obtain ⟨a, b⟩ := ldel_mem h
        exact Or.inr ⟨List.mem_cons_of_mem _ a, b⟩
    · next e =>
      split at h
      · rcases lput_mem h with a | ⟨a, b⟩
        · exact Or.inl a
        · exact Or.inr ⟨List.mem_cons_of_mem _ a, b⟩
      · next e2 =>
        rcases List.mem_cons.mp h with rfl | h
        · exact Or.inr ⟨List.mem_cons_self, e, e2⟩
        · rcases lput_mem h with a | ⟨a, b⟩
          · exact Or.inl a
          · exact Or.inr ⟨List.mem_cons_of_mem _ a, b⟩
theorem lv_mono {ls : Array Slot} {nL : Nat} {l l' : Lv} (h : lv_has ls nL l) (hs : ∀ q ∈ l', q ∈ l) : lv_has ls nL l' := ⟨h.1, h.2.1, fun q hq => h.2.2 q (hs q hq)⟩
theorem lput_has {ls : Array Slot} {nL : Nat} {lv : Lv} {i : Nat} {v : Value} (h : lv_has ls nL ((i, v) :: lv.filter (fun q => !(q.1 == i) && !(q.1 + 1 == i && q.2.category == 2)))) : lv_has ls nL (lput lv i v) := by
  refine lv_mono h (fun q hq => ?_)
  rcases lput_mem hq with rfl | ⟨a, b, d⟩
  · exact List.mem_cons_self
  · refine List.mem_cons_of_mem _ (List.mem_filter.mpr ⟨a, ?_⟩)
    have h2 : ¬ (q.1 + 1 = i ∧ q.2.category = 2) := fun z => d ⟨z.1, isL_cat2 z.2⟩
    simp only [Bool.and_eq_true, Bool.not_eq_true', beq_eq_false_iff_ne, ne_eq, Bool.and_eq_false_iff]
    refine ⟨b, ?_⟩
    by_cases e1 : q.1 + 1 = i
    · exact Or.inr fun z => h2 ⟨e1, z⟩
    · exact Or.inl e1
theorem YG.sub {Γ : Cx} {μ : Mt} {K : Option Value → Hp → Prop} {pc : Nat} {lv lv' : Lv} {st : List Value} {σ : Hp} (h : YG Γ μ K pc lv' st σ) (hs : ∀ q ∈ lv', q ∈ lv) : YG Γ μ K pc lv st σ :=
  fun p e s m args below meth c H locs ls F B S hl => h p e s m args below meth c H locs ls F B S (lv_mono hl hs)
/-! the stack -/
def s1i (st : List Value) (k : Int32 → List Value → Prop) : Prop := match st with | .int x :: r => k x r | _ => False
def s2i (st : List Value) (k : Int32 → Int32 → List Value → Prop) : Prop := match st with | .int y :: .int x :: r => k x y r | _ => False
def s1l (st : List Value) (k : Int64 → List Value → Prop) : Prop := match st with | .long x :: r => k x r | _ => False
def s2l (st : List Value) (k : Int64 → Int64 → List Value → Prop) : Prop := match st with | .long y :: .long x :: r => k x y r | _ => False
def sil (st : List Value) (k : Int64 → Int32 → List Value → Prop) : Prop := match st with | .int y :: .long x :: r => k x y r | _ => False
def s1r (st : List Value) (k : Nat → List Value → Prop) : Prop := match st with | .ref a :: r => k a r | _ => False
def sir (st : List Value) (k : Nat → Int32 → List Value → Prop) : Prop := match st with | .int i :: .ref a :: r => k a i r | _ => False
def siir (st : List Value) (k : Nat → Int32 → Int32 → List Value → Prop) : Prop := match st with | .int x :: .int i :: .ref a :: r => k a i x r | _ => False
def slir (st : List Value) (k : Nat → Int32 → Int64 → List Value → Prop) : Prop := match st with | .long x :: .int i :: .ref a :: r => k a i x r | _ => False
def srir (st : List Value) (k : Nat → Int32 → Nat → List Value → Prop) : Prop := match st with | .ref v :: .int i :: .ref a :: r => k a i v r | _ => False
def svr (st : List Value) (k : Nat → Int32 → List Value → Prop) : Prop := match st with | .int x :: .ref a :: r => k a x r | _ => False
def sd1 (st : List Value) (k : Value → List Value → Prop) : Prop := match st with | v :: r => isL v = false ∧ k v r | _ => False
def sd2 (st : List Value) (k : Value → Value → List Value → Prop) : Prop := match st with | v :: w :: r => isL v = false ∧ isL w = false ∧ k v w r | _ => False
def csum : List Value → Nat
  | [] => 0
  | .long _ :: r => 2 + csum r
  | .double _ :: r => 2 + csum r
  | .int _ :: r => 1 + csum r
  | .ref _ :: r => 1 + csum r
  | _ :: r => 1 + csum r
theorem csum_cat : ∀ st : List Value, (st.map fun v => v.category).sum = csum st
  | [] => rfl
  | v :: r => by
    have h := csum_cat r
    cases v <;> simp only [List.map_cons, List.sum_cons, csum, h] <;> rfl
def tgo (pc : Nat) (off : Int) : Option Nat := if 0 ≤ (pc : Int) + off then some ((pc : Int) + off).toNat else none
theorem tgo_spec {pc t : Nat} {off : Int} (h : tgo pc off = some t) : (pc : Int) + off = (t : Int) := by
  unfold tgo at h
  split at h
  · cases h; omega
  · cases h
def jmp (pc : Nat) (off : Int) (k : Nat → Prop) : Prop := match tgo pc off with | some t => k t | none => False
theorem jmp_spec {pc : Nat} {off : Int} {k : Nat → Prop} (h : jmp pc off k) : ∃ t : Nat, (pc : Int) + off = (t : Int) ∧ k t := by
  unfold jmp at h
  split at h
  · next t e => exact ⟨t, tgo_spec e, h⟩
  · exact h.elim
/-! the heap's cells -/
def obj (σ : Hp) (a : Nat) (k : Nat → List Value → Prop) : Prop := a ∈ σ.1 ∧ (match σ.2 a with | .inr (ci, fs) => k ci fs | _ => False)
def arI (Γ : Cx) (σ : Hp) (a : Nat) (k : Nat → (Nat → Int32) → Prop) : Prop := a ∈ σ.1 ∧ (match σ.2 a with | .inl (cA, n, .inl f) => cA = Γ.2.2.2.1 0 ∧ k n f | _ => False)
def arL (Γ : Cx) (σ : Hp) (a : Nat) (k : Nat → (Nat → Int64) → Prop) : Prop := a ∈ σ.1 ∧ (match σ.2 a with | .inl (cA, n, .inr (.inl f)) => cA = Γ.2.2.2.1 1 ∧ k n f | _ => False)
def arR (Γ : Cx) (σ : Hp) (a : Nat) (k : Nat → ClassId → (Nat → Option Nat) → Prop) : Prop := a ∈ σ.1 ∧ (match σ.2 a with | .inl (cA, n, .inr (.inr (.inr (.inr f)))) => (cA = Γ.2.2.2.1 2 ∨ cA = Γ.2.2.2.1 3) ∧ k n cA f | _ => False)
def hput (σ : Hp) (a : Nat) (e : va_E) : Hp := (σ.1, va_up σ.2 a e)
def rok (ret : Option FieldType) (v : Int32) : Prop := match ret with | some .int => True | some .boolean => v = 0 ∨ v = 1 | _ => False
def swl (x : Int32) (k : Int → Prop) : List Int → Int → Prop
  | [], _ => True
  | o :: r, i => (x = Int32.ofInt i → k o) ∧ swl x k r (i + 1)
def fput (t : Nat) (x : Int32) : Prop := match t with | 1 => True | 2 => x = 0 ∨ x = 1 | _ => False

def cnd1 (cn : ClassFile.Cond) (x : Int32) : Prop := match cn with | .eq => x = 0 | .ne => ¬ x = 0 | .lt => x < 0 | .ge => 0 ≤ x | .gt => 0 < x | .le => x ≤ 0
def cnd2 (cn : ClassFile.Cond) (x y : Int32) : Prop := match cn with | .eq => x = y | .ne => ¬ x = y | .lt => x < y | .ge => y ≤ x | .gt => y < x | .le => x ≤ y
theorem cnd1_eq {x : Int32} : cnd1 .eq x ↔ x = 0 := Iff.rfl
theorem cnd2_eq {x y : Int32} : cnd2 .eq x y ↔ x = y := Iff.rfl
theorem cnd1_ne {x : Int32} : cnd1 .ne x ↔ ¬ x = 0 := Iff.rfl
theorem cnd2_ne {x y : Int32} : cnd2 .ne x y ↔ ¬ x = y := Iff.rfl
theorem cnd1_lt {x : Int32} : cnd1 .lt x ↔ x < 0 := Iff.rfl
theorem cnd2_lt {x y : Int32} : cnd2 .lt x y ↔ x < y := Iff.rfl
theorem cnd1_ge {x : Int32} : cnd1 .ge x ↔ 0 ≤ x := Iff.rfl
theorem cnd2_ge {x y : Int32} : cnd2 .ge x y ↔ y ≤ x := Iff.rfl
theorem cnd1_gt {x : Int32} : cnd1 .gt x ↔ 0 < x := Iff.rfl
theorem cnd2_gt {x y : Int32} : cnd2 .gt x y ↔ y < x := Iff.rfl
theorem cnd1_le {x : Int32} : cnd1 .le x ↔ x ≤ 0 := Iff.rfl
theorem cnd2_le {x y : Int32} : cnd2 .le x y ↔ x ≤ y := Iff.rfl
def lkl (x : Int32) (k : Int → Prop) : List (Int × Int) → Int → Prop
  | [], d => k d
  | (b, o) :: r, d => (x.toInt = b → k o) ∧ (¬ x.toInt = b → lkl x k r d)
theorem lkl_at {x : Int32} {k : Int → Prop} : ∀ {l : List (Int × Int)} {d : Int}, lkl x k l d → k (Op.lookupswitch.offset l d x.toInt)
  | [], d, h => h
  | (b, o) :: r, d, h => by
    rw [Op.lookupswitch.offset_cons]
    split
    · next e => exact h.1 e.symm
    · next e => exact lkl_at (h.2 (fun z => e z.symm))
theorem swl_at {x : Int32} {k : Int → Prop} : ∀ {l : List Int} {i : Int}, swl x k l i → ∀ (j : Nat) (hj : j < l.length), x = Int32.ofInt (i + j) → k l[j]
  | [], i, h, j, hj, e => absurd hj (Nat.not_lt_zero _)
  | o :: r, i, h, 0, hj, e => h.1 (by simpa using e)
  | o :: r, i, h, j + 1, hj, e => swl_at h.2 j (by simpa using hj) (by rw [e]; congr 1; push_cast; omega)
def FieldOK (own : String) (i ci k b : Nat) : Prop := ∃ (C : String) (T : u_T) (N : Nat) (ref : String), kcl[ci]? = some (C, T, N) ∧ k < N ∧ Cond.fieldLink own i ref (T k).2.1 (T k).2.2.1 ∈ BW ∧
  ((∀ w ∈ u_ws C T N, w ∈ BW) ∧ (ref = (T k).1 ∨ Cond.sameField ref (T k).1 (T k).2.1 (T k).2.2.1 ∈ BW)) ∧
  (∀ x : Int32, fput b x → ∃ ty : FieldType, (T k).2.2.2 = false ∧ parseFieldDescriptor (T k).2.2.1 = some ty ∧ narrow ty (.int x) = .int x ∧ fits ty (.int x) = true) ∧
  ∃ ty0 : Nat → FieldType, (∀ k, k < N → parseFieldDescriptor (T k).2.2.1 = some (ty0 k)) ∧ (∀ a, a < N → ∀ b, b < N → a ≠ b → (T a).2.1 ≠ (T b).2.1)
def Mono (sp : YSp) : Prop := ∀ (av : List Value) (σ : Hp) (K K' : Option Value → Hp → Prop), (∀ v σ', K v σ' → K' v σ') → sp av σ K → sp av σ K'
/-- a call of this method: from its spec, with what comes behind as the spec's end, the walk goes on -/
def kdI (kd i : Nat) : Instr := match kd with | 0 => .invokevirtual i | 1 => .invokestatic i | _ => .invokespecial i
def CallOK (Γ : Cx) (μ : Mt) (kd i n : Nat) (sp : YSp) : Prop := ∀ (K : Option Value → Hp → Prop) (pc : Nat) (lv : Lv) (st : List Value) (σ : Hp), decode μ.2.2.1 pc = .ok (kdI kd i, 3) → csum (st.drop n) ≤ 8 → sp (st.take n).reverse σ (fun v σ' => YG Γ μ K (pc + 3) lv (v.toList ++ st.drop n) σ') → YG Γ μ K pc lv st σ
def TbOK (Γ : Cx) (μ : Mt) (τ : Tb) : Prop := True ∧ (∀ (i : Nat) (v : Int32), τ.2.1 i = some (.inl v) → Cond.constant μ.2.1 i v ∈ BW) ∧ (∀ (i : Nat) (v : Int64), τ.2.1 i = some (.inr v) → Cond.constantLong μ.2.1 i v ∈ BW) ∧ (∀ i ci k b : Nat, τ.1 i ci = some (k, b) → FieldOK μ.2.1 i ci k b) ∧ (∀ (kd i n : Nat) (o : Bool) (sp : YSp), τ.2.2 kd i = some (n, o, sp) → CallOK Γ μ kd i n sp ∧ (o = true → Mono sp))
def ystep (Γ : Cx) (μ : Mt) (τ : Tb) (K : Option Value → Hp → Prop) (J : Nat → Lv → List Value → Hp → Prop) (ins : Instr) (len pc : Nat) (lv : Lv) (st : List Value) (σ : Hp) : Prop := match ins with
  | .iadd => len = 1 ∧ s2i st fun x y r => J (pc + 1) lv (.int (x + y) :: r) σ
  | .isub => len = 1 ∧ s2i st fun x y r => J (pc + 1) lv (.int (x - y) :: r) σ
  | .imul => len = 1 ∧ s2i st fun x y r => J (pc + 1) lv (.int (x * y) :: r) σ
  | .iand => len = 1 ∧ s2i st fun x y r => J (pc + 1) lv (.int (x &&& y) :: r) σ
  | .ior => len = 1 ∧ s2i st fun x y r => J (pc + 1) lv (.int (x ||| y) :: r) σ
  | .idiv => len = 1 ∧ s2i st fun x y r => ¬ y = 0 ∧ J (pc + 1) lv (.int (x / y) :: r) σ
  | .irem => len = 1 ∧ s2i st fun x y r => ¬ y = 0 ∧ J (pc + 1) lv (.int (x - x / y * y) :: r) σ
  | .ishl => len = 1 ∧ s2i st fun x y r => J (pc + 1) lv (.int (x <<< (y &&& 31)) :: r) σ
  | .ishr => len = 1 ∧ s2i st fun x y r => J (pc + 1) lv (.int (x >>> (y &&& 31)) :: r) σ
  | .iushr => len = 1 ∧ s2i st fun x y r => J (pc + 1) lv (.int (x.toUInt32 >>> (y.toUInt32 &&& Int32.toUInt32 31)).toInt32 :: r) σ
  | .ladd => len = 1 ∧ s2l st fun x y r => J (pc + 1) lv (.long (x + y) :: r) σ
  | .lmul => len = 1 ∧ s2l st fun x y r => J (pc + 1) lv (.long (x * y) :: r) σ
  | .land => len = 1 ∧ s2l st fun x y r => J (pc + 1) lv (.long (x &&& y) :: r) σ
  | .lor => len = 1 ∧ s2l st fun x y r => J (pc + 1) lv (.long (x ||| y) :: r) σ
  | .lshl => len = 1 ∧ sil st fun x y r => J (pc + 1) lv (.long (x <<< (y.toInt64 &&& 63)) :: r) σ
  | .lshr => len = 1 ∧ sil st fun x y r => J (pc + 1) lv (.long (x >>> (y.toInt64 &&& 63)) :: r) σ
  | .i2l => len = 1 ∧ s1i st fun x r => J (pc + 1) lv (.long x.toInt64 :: r) σ
  | .l2i => len = 1 ∧ s1l st fun x r => J (pc + 1) lv (.int x.toInt32 :: r) σ
  | .i2b => len = 1 ∧ s1i st fun x r => J (pc + 1) lv (.int x.toInt8.toInt32 :: r) σ
  | .i2s => len = 1 ∧ s1i st fun x r => J (pc + 1) lv (.int x.toInt16.toInt32 :: r) σ
  | .i2c => len = 1 ∧ s1i st fun x r => J (pc + 1) lv (.int (x.toUInt32 % 65536).toInt32 :: r) σ
  | .iconst n => len = 1 ∧ J (pc + 1) lv (.int (Int32.ofInt n) :: st) σ
  | .bipush n => len = 2 ∧ J (pc + 2) lv (.int (Int8.ofInt n).toInt32 :: st) σ
  | .sipush n => len = 3 ∧ J (pc + 3) lv (.int (Int16.ofInt n).toInt32 :: st) σ
  | .lconst n => len = 1 ∧ J (pc + 1) lv (.long (Int64.ofNat n.val) :: st) σ
  | .iload_n k => len = 1 ∧ (match lg lv k.val with | some (.int x) => J (pc + 1) lv (.int x :: st) σ | _ => False)
  | .iload k => len = 2 ∧ (match lg lv k with | some (.int x) => J (pc + 2) lv (.int x :: st) σ | _ => False)
  | .aload_n k => len = 1 ∧ (match lg lv k.val with | some (.ref x) => J (pc + 1) lv (.ref x :: st) σ | _ => False)
  | .aload k => len = 2 ∧ (match lg lv k with | some (.ref x) => J (pc + 2) lv (.ref x :: st) σ | _ => False)
  | .lload_n k => len = 1 ∧ (match lg lv k.val with | some (.long x) => J (pc + 1) lv (.long x :: st) σ | _ => False)
  | .lload k => len = 2 ∧ (match lg lv k with | some (.long x) => J (pc + 2) lv (.long x :: st) σ | _ => False)
  | .istore_n k => len = 1 ∧ s1i st fun x r => k.val < μ.2.2.2.1 ∧ J (pc + 1) (lput lv k.val (.int x)) r σ
  | .istore k => len = 2 ∧ s1i st fun x r => k < μ.2.2.2.1 ∧ J (pc + 2) (lput lv k (.int x)) r σ
  | .astore_n k => len = 1 ∧ s1r st fun x r => k.val < μ.2.2.2.1 ∧ J (pc + 1) (lput lv k.val (.ref x)) r σ
  | .astore k => len = 2 ∧ s1r st fun x r => k < μ.2.2.2.1 ∧ J (pc + 2) (lput lv k (.ref x)) r σ
  | .iinc k n => len = 3 ∧ k < μ.2.2.2.1 ∧ (match lg lv k with | some (.int x) => J (pc + 3) (lput lv k (.int (x + Int32.ofInt n))) st σ | _ => False)
  | .dup => len = 1 ∧ sd1 st fun v r => J (pc + 1) lv (v :: v :: r) σ
  | .pop => len = 1 ∧ sd1 st fun v r => J (pc + 1) lv r σ
  | .dup2 => len = 1 ∧ sd2 st fun v w r => J (pc + 1) lv (v :: w :: v :: w :: r) σ
  | .goto off => len = 3 ∧ jmp pc off fun t => J t lv st σ
  | .ifCond cn off => len = 3 ∧ s1i st fun x r => jmp pc off fun t => (cnd1 cn x → J t lv r σ) ∧ (¬ cnd1 cn x → J (pc + 3) lv r σ)
  | .if_icmp cn off => len = 3 ∧ s2i st fun x y r => jmp pc off fun t => (cnd2 cn x y → J t lv r σ) ∧ (¬ cnd2 cn x y → J (pc + 3) lv r σ)
  | .lcmp => len = 1 ∧ s2l st fun x y r => J (pc + 1) lv (.int (lg_cmp x y) :: r) σ
  | .ldc i => len = 2 ∧ (match τ.2.1 i with | some (.inl v) => J (pc + 2) lv (.int v :: st) σ | _ => False)
  | .ldc_w i => len = 3 ∧ (match τ.2.1 i with | some (.inl v) => J (pc + 3) lv (.int v :: st) σ | _ => False)
  | .ldc2_w i => len = 3 ∧ (match τ.2.1 i with | some (.inr v) => J (pc + 3) lv (.long v :: st) σ | _ => False)
  | .getfield i => len = 3 ∧ s1r st fun a r => obj σ a fun ci fs => (match τ.1 i ci with | some (k, _) => (match fs[k]? with | some v => J (pc + 3) lv (v :: r) σ | none => False) | none => False)
  | .putfield i => len = 3 ∧ svr st fun a x r => obj σ a fun ci fs => (match τ.1 i ci with | some (k, b) => fput b x ∧ k < fs.length ∧ J (pc + 3) lv r (hput σ a (.inr (ci, fs.set k (.int x)))) | none => False)
  | .iaload => len = 1 ∧ sir st fun a i r => (match μ.2.2.2.2.2.2 with | true => a = Γ.2.2.2.2.2.2.1 ∧ vp_in i Γ.2.2.2.2.2.2.2.1 ∧ J (pc + 1) lv (.int (Γ.2.2.2.2.2.2.2.2 i.toNatClampNeg) :: r) σ | false => arI Γ σ a fun n f => vp_in i n ∧ J (pc + 1) lv (.int (f i.toNatClampNeg) :: r) σ)
  | .arraylength => len = 1 ∧ s1r st fun a r => (match μ.2.2.2.2.2.2 with | true => a = Γ.2.2.2.2.2.2.1 ∧ J (pc + 1) lv (.int (Int32.ofNat Γ.2.2.2.2.2.2.2.1) :: r) σ | false => arI Γ σ a fun n f => J (pc + 1) lv (.int (Int32.ofNat n) :: r) σ)
  | .laload => len = 1 ∧ sir st fun a i r => arL Γ σ a fun n f => vp_in i n ∧ J (pc + 1) lv (.long (f i.toNatClampNeg) :: r) σ
  | .aaload => len = 1 ∧ sir st fun a i r => arR Γ σ a fun n cA f => vp_in i n ∧ (match f i.toNatClampNeg with | some q => J (pc + 1) lv (.ref q :: r) σ | none => False)
  | .iastore => len = 1 ∧ siir st fun a i x r => arI Γ σ a fun n f => vp_in i n ∧ J (pc + 1) lv r (hput σ a (.inl (Γ.2.2.2.1 0, n, .inl (upd f i.toNatClampNeg x))))
  | .lastore => len = 1 ∧ slir st fun a i x r => arL Γ σ a fun n f => vp_in i n ∧ J (pc + 1) lv r (hput σ a (.inl (Γ.2.2.2.1 1, n, .inr (.inl (vp_updL f i.toNatClampNeg x)))))
  | .aastore => len = 1 ∧ srir st fun a i v r => arR Γ σ a fun n cA f => vp_in i n ∧ cA = Γ.2.2.2.1 2 ∧ (obj σ v fun ci fs => ci = 1) ∧ J (pc + 1) lv r (hput σ a (.inl (cA, n, .inr (.inr (.inr (.inr (va_up f i.toNatClampNeg (some v))))))))
  | .ireturn => len = 1 ∧ (match st with | [.int v] => rok μ.2.2.2.2.1 v ∧ K (some (.int v)) σ | _ => False)
  | .return_ => len = 1 ∧ (match st with | [] => μ.2.2.2.2.1 = none ∧ K none σ | _ => False)
  | .tableswitch dflt lo hi offs => s1i st fun x r => hi = lo + offs.toList.length - 1 ∧ swl x (fun o => jmp pc o fun t => J t lv r σ) offs.toList lo ∧ ((x.toInt < lo ∨ hi < x.toInt) → jmp pc dflt fun t => J t lv r σ)
  | .lookupswitch dflt ps => s1i st fun x r => (ps.toList.zip (ps.toList.drop 1)).all (fun (a, next) => a.1 < next.1) = true ∧ lkl x (fun o => jmp pc o fun t => J t lv r σ) ps.toList dflt
  | .invokevirtual i => len = 3 ∧ (match τ.2.2 0 i with | some (n, true, sp) => csum (st.drop n) ≤ 8 ∧ sp (st.take n).reverse σ (fun v σ' => J (pc + 3) lv (v.toList ++ st.drop n) σ') | some (n, false, sp) => csum (st.drop n) ≤ 8 ∧ sp (st.take n).reverse σ (fun v σ' => YG Γ μ K (pc + 3) lv (v.toList ++ st.drop n) σ') | none => False)
  | .invokestatic i => len = 3 ∧ (match τ.2.2 1 i with | some (n, true, sp) => csum (st.drop n) ≤ 8 ∧ sp (st.take n).reverse σ (fun v σ' => J (pc + 3) lv (v.toList ++ st.drop n) σ') | some (n, false, sp) => csum (st.drop n) ≤ 8 ∧ sp (st.take n).reverse σ (fun v σ' => YG Γ μ K (pc + 3) lv (v.toList ++ st.drop n) σ') | none => False)
  | .invokespecial i => len = 3 ∧ (match τ.2.2 2 i with | some (n, true, sp) => csum (st.drop n) ≤ 8 ∧ sp (st.take n).reverse σ (fun v σ' => J (pc + 3) lv (v.toList ++ st.drop n) σ') | some (n, false, sp) => csum (st.drop n) ≤ 8 ∧ sp (st.take n).reverse σ (fun v σ' => YG Γ μ K (pc + 3) lv (v.toList ++ st.drop n) σ') | none => False)
  | _ => False
theorem st_iadd {Γ : Cx} {μ : Mt} {τ : Tb} {K : Option Value → Hp → Prop} {J : Nat → Lv → List Value → Hp → Prop} {len pc : Nat} {lv : Lv} {st : List Value} {σ : Hp} : ystep Γ μ τ K J .iadd len pc lv st σ = (len = 1 ∧ s2i st fun x y r => J (pc + 1) lv (.int (x + y) :: r) σ) := rfl
theorem ok_iadd {Γ : Cx} {μ : Mt} {τ : Tb} {K : Option Value → Hp → Prop} {J : Nat → Lv → List Value → Hp → Prop} {len pc : Nat} {lv : Lv} {st : List Value} {σ : Hp} (hτ : TbOK Γ μ τ) (hJ : ∀ pc lv st σ, J pc lv st σ → YG Γ μ K pc lv st σ) (hd : decode μ.2.2.1 pc = .ok (.iadd, len)) (h : len = 1 ∧ s2i st fun x y r => J (pc + 1) lv (.int (x + y) :: r) σ) : YG Γ μ K pc lv st σ := by
  obtain ⟨rfl, h⟩ := h
  match st, h with
  | .int y :: .int x :: r, h =>
    intro p e s m args below meth c H locs ls F B S hl
    exact lv_iadd F.1 F.2.1 hd (hJ _ _ _ _ h p e s m args below meth c H locs ls F B S hl)
theorem st_isub {Γ : Cx} {μ : Mt} {τ : Tb} {K : Option Value → Hp → Prop} {J : Nat → Lv → List Value → Hp → Prop} {len pc : Nat} {lv : Lv} {st : List Value} {σ : Hp} : ystep Γ μ τ K J .isub len pc lv st σ = (len = 1 ∧ s2i st fun x y r => J (pc + 1) lv (.int (x - y) :: r) σ) := rfl
theorem ok_isub {Γ : Cx} {μ : Mt} {τ : Tb} {K : Option Value → Hp → Prop} {J : Nat → Lv → List Value → Hp → Prop} {len pc : Nat} {lv : Lv} {st : List Value} {σ : Hp} (hτ : TbOK Γ μ τ) (hJ : ∀ pc lv st σ, J pc lv st σ → YG Γ μ K pc lv st σ) (hd : decode μ.2.2.1 pc = .ok (.isub, len)) (h : len = 1 ∧ s2i st fun x y r => J (pc + 1) lv (.int (x - y) :: r) σ) : YG Γ μ K pc lv st σ := by
  obtain ⟨rfl, h⟩ := h
  match st, h with
  | .int y :: .int x :: r, h =>
    intro p e s m args below meth c H locs ls F B S hl
    exact lv_isub F.1 F.2.1 hd (hJ _ _ _ _ h p e s m args below meth c H locs ls F B S hl)
theorem st_imul {Γ : Cx} {μ : Mt} {τ : Tb} {K : Option Value → Hp → Prop} {J : Nat → Lv → List Value → Hp → Prop} {len pc : Nat} {lv : Lv} {st : List Value} {σ : Hp} : ystep Γ μ τ K J .imul len pc lv st σ = (len = 1 ∧ s2i st fun x y r => J (pc + 1) lv (.int (x * y) :: r) σ) := rfl
theorem ok_imul {Γ : Cx} {μ : Mt} {τ : Tb} {K : Option Value → Hp → Prop} {J : Nat → Lv → List Value → Hp → Prop} {len pc : Nat} {lv : Lv} {st : List Value} {σ : Hp} (hτ : TbOK Γ μ τ) (hJ : ∀ pc lv st σ, J pc lv st σ → YG Γ μ K pc lv st σ) (hd : decode μ.2.2.1 pc = .ok (.imul, len)) (h : len = 1 ∧ s2i st fun x y r => J (pc + 1) lv (.int (x * y) :: r) σ) : YG Γ μ K pc lv st σ := by
  obtain ⟨rfl, h⟩ := h
  match st, h with
  | .int y :: .int x :: r, h =>
    intro p e s m args below meth c H locs ls F B S hl
    exact lv_imul F.1 F.2.1 hd (hJ _ _ _ _ h p e s m args below meth c H locs ls F B S hl)
theorem st_iand {Γ : Cx} {μ : Mt} {τ : Tb} {K : Option Value → Hp → Prop} {J : Nat → Lv → List Value → Hp → Prop} {len pc : Nat} {lv : Lv} {st : List Value} {σ : Hp} : ystep Γ μ τ K J .iand len pc lv st σ = (len = 1 ∧ s2i st fun x y r => J (pc + 1) lv (.int (x &&& y) :: r) σ) := rfl
theorem ok_iand {Γ : Cx} {μ : Mt} {τ : Tb} {K : Option Value → Hp → Prop} {J : Nat → Lv → List Value → Hp → Prop} {len pc : Nat} {lv : Lv} {st : List Value} {σ : Hp} (hτ : TbOK Γ μ τ) (hJ : ∀ pc lv st σ, J pc lv st σ → YG Γ μ K pc lv st σ) (hd : decode μ.2.2.1 pc = .ok (.iand, len)) (h : len = 1 ∧ s2i st fun x y r => J (pc + 1) lv (.int (x &&& y) :: r) σ) : YG Γ μ K pc lv st σ := by
  obtain ⟨rfl, h⟩ := h
  match st, h with
  | .int y :: .int x :: r, h =>
    intro p e s m args below meth c H locs ls F B S hl
    exact lv_iand F.1 F.2.1 hd (hJ _ _ _ _ h p e s m args below meth c H locs ls F B S hl)
theorem st_ior {Γ : Cx} {μ : Mt} {τ : Tb} {K : Option Value → Hp → Prop} {J : Nat → Lv → List Value → Hp → Prop} {len pc : Nat} {lv : Lv} {st : List Value} {σ : Hp} : ystep Γ μ τ K J .ior len pc lv st σ = (len = 1 ∧ s2i st fun x y r => J (pc + 1) lv (.int (x ||| y) :: r) σ) := rfl
theorem ok_ior {Γ : Cx} {μ : Mt} {τ : Tb} {K : Option Value → Hp → Prop} {J : Nat → Lv → List Value → Hp → Prop} {len pc : Nat} {lv : Lv} {st : List Value} {σ : Hp} (hτ : TbOK Γ μ τ) (hJ : ∀ pc lv st σ, J pc lv st σ → YG Γ μ K pc lv st σ) (hd : decode μ.2.2.1 pc = .ok (.ior, len)) (h : len = 1 ∧ s2i st fun x y r => J (pc + 1) lv (.int (x ||| y) :: r) σ) : YG Γ μ K pc lv st σ := by
  obtain ⟨rfl, h⟩ := h
  match st, h with
  | .int y :: .int x :: r, h =>
    intro p e s m args below meth c H locs ls F B S hl
    exact lv_ior F.1 F.2.1 hd (hJ _ _ _ _ h p e s m args below meth c H locs ls F B S hl)
theorem st_idiv {Γ : Cx} {μ : Mt} {τ : Tb} {K : Option Value → Hp → Prop} {J : Nat → Lv → List Value → Hp → Prop} {len pc : Nat} {lv : Lv} {st : List Value} {σ : Hp} : ystep Γ μ τ K J .idiv len pc lv st σ = (len = 1 ∧ s2i st fun x y r => ¬ y = 0 ∧ J (pc + 1) lv (.int (x / y) :: r) σ) := rfl
theorem ok_idiv {Γ : Cx} {μ : Mt} {τ : Tb} {K : Option Value → Hp → Prop} {J : Nat → Lv → List Value → Hp → Prop} {len pc : Nat} {lv : Lv} {st : List Value} {σ : Hp} (hτ : TbOK Γ μ τ) (hJ : ∀ pc lv st σ, J pc lv st σ → YG Γ μ K pc lv st σ) (hd : decode μ.2.2.1 pc = .ok (.idiv, len)) (h : len = 1 ∧ s2i st fun x y r => ¬ y = 0 ∧ J (pc + 1) lv (.int (x / y) :: r) σ) : YG Γ μ K pc lv st σ := by
  obtain ⟨rfl, h⟩ := h
  match st, h with
  | .int y :: .int x :: r, h =>
    intro p e s m args below meth c H locs ls F B S hl
    exact lv_idiv F.1 F.2.1 hd h.1 (hJ _ _ _ _ h.2 p e s m args below meth c H locs ls F B S hl)
theorem st_irem {Γ : Cx} {μ : Mt} {τ : Tb} {K : Option Value → Hp → Prop} {J : Nat → Lv → List Value → Hp → Prop} {len pc : Nat} {lv : Lv} {st : List Value} {σ : Hp} : ystep Γ μ τ K J .irem len pc lv st σ = (len = 1 ∧ s2i st fun x y r => ¬ y = 0 ∧ J (pc + 1) lv (.int (x - x / y * y) :: r) σ) := rfl
theorem ok_irem {Γ : Cx} {μ : Mt} {τ : Tb} {K : Option Value → Hp → Prop} {J : Nat → Lv → List Value → Hp → Prop} {len pc : Nat} {lv : Lv} {st : List Value} {σ : Hp} (hτ : TbOK Γ μ τ) (hJ : ∀ pc lv st σ, J pc lv st σ → YG Γ μ K pc lv st σ) (hd : decode μ.2.2.1 pc = .ok (.irem, len)) (h : len = 1 ∧ s2i st fun x y r => ¬ y = 0 ∧ J (pc + 1) lv (.int (x - x / y * y) :: r) σ) : YG Γ μ K pc lv st σ := by
  obtain ⟨rfl, h⟩ := h
  match st, h with
  | .int y :: .int x :: r, h =>
    intro p e s m args below meth c H locs ls F B S hl
    exact lv_irem F.1 F.2.1 hd h.1 (hJ _ _ _ _ h.2 p e s m args below meth c H locs ls F B S hl)
theorem st_ishl {Γ : Cx} {μ : Mt} {τ : Tb} {K : Option Value → Hp → Prop} {J : Nat → Lv → List Value → Hp → Prop} {len pc : Nat} {lv : Lv} {st : List Value} {σ : Hp} : ystep Γ μ τ K J .ishl len pc lv st σ = (len = 1 ∧ s2i st fun x y r => J (pc + 1) lv (.int (x <<< (y &&& 31)) :: r) σ) := rfl
theorem ok_ishl {Γ : Cx} {μ : Mt} {τ : Tb} {K : Option Value → Hp → Prop} {J : Nat → Lv → List Value → Hp → Prop} {len pc : Nat} {lv : Lv} {st : List Value} {σ : Hp} (hτ : TbOK Γ μ τ) (hJ : ∀ pc lv st σ, J pc lv st σ → YG Γ μ K pc lv st σ) (hd : decode μ.2.2.1 pc = .ok (.ishl, len)) (h : len = 1 ∧ s2i st fun x y r => J (pc + 1) lv (.int (x <<< (y &&& 31)) :: r) σ) : YG Γ μ K pc lv st σ := by
  obtain ⟨rfl, h⟩ := h
  match st, h with
  | .int y :: .int x :: r, h =>
    intro p e s m args below meth c H locs ls F B S hl
    exact lv_ishl F.1 F.2.1 hd (hJ _ _ _ _ h p e s m args below meth c H locs ls F B S hl)
theorem st_ishr {Γ : Cx} {μ : Mt} {τ : Tb} {K : Option Value → Hp → Prop} {J : Nat → Lv → List Value → Hp → Prop} {len pc : Nat} {lv : Lv} {st : List Value} {σ : Hp} : ystep Γ μ τ K J .ishr len pc lv st σ = (len = 1 ∧ s2i st fun x y r => J (pc + 1) lv (.int (x >>> (y &&& 31)) :: r) σ) := rfl
theorem ok_ishr {Γ : Cx} {μ : Mt} {τ : Tb} {K : Option Value → Hp → Prop} {J : Nat → Lv → List Value → Hp → Prop} {len pc : Nat} {lv : Lv} {st : List Value} {σ : Hp} (hτ : TbOK Γ μ τ) (hJ : ∀ pc lv st σ, J pc lv st σ → YG Γ μ K pc lv st σ) (hd : decode μ.2.2.1 pc = .ok (.ishr, len)) (h : len = 1 ∧ s2i st fun x y r => J (pc + 1) lv (.int (x >>> (y &&& 31)) :: r) σ) : YG Γ μ K pc lv st σ := by
  obtain ⟨rfl, h⟩ := h
  match st, h with
  | .int y :: .int x :: r, h =>
    intro p e s m args below meth c H locs ls F B S hl
    exact lv_ishr F.1 F.2.1 hd (hJ _ _ _ _ h p e s m args below meth c H locs ls F B S hl)
theorem st_iushr {Γ : Cx} {μ : Mt} {τ : Tb} {K : Option Value → Hp → Prop} {J : Nat → Lv → List Value → Hp → Prop} {len pc : Nat} {lv : Lv} {st : List Value} {σ : Hp} : ystep Γ μ τ K J .iushr len pc lv st σ = (len = 1 ∧ s2i st fun x y r => J (pc + 1) lv (.int (x.toUInt32 >>> (y.toUInt32 &&& Int32.toUInt32 31)).toInt32 :: r) σ) := rfl
theorem ok_iushr {Γ : Cx} {μ : Mt} {τ : Tb} {K : Option Value → Hp → Prop} {J : Nat → Lv → List Value → Hp → Prop} {len pc : Nat} {lv : Lv} {st : List Value} {σ : Hp} (hτ : TbOK Γ μ τ) (hJ : ∀ pc lv st σ, J pc lv st σ → YG Γ μ K pc lv st σ) (hd : decode μ.2.2.1 pc = .ok (.iushr, len)) (h : len = 1 ∧ s2i st fun x y r => J (pc + 1) lv (.int (x.toUInt32 >>> (y.toUInt32 &&& Int32.toUInt32 31)).toInt32 :: r) σ) : YG Γ μ K pc lv st σ := by
  obtain ⟨rfl, h⟩ := h
  match st, h with
  | .int y :: .int x :: r, h =>
    intro p e s m args below meth c H locs ls F B S hl
    exact lv_iushr F.1 F.2.1 hd rfl (hJ _ _ _ _ h p e s m args below meth c H locs ls F B S hl)
theorem st_ladd {Γ : Cx} {μ : Mt} {τ : Tb} {K : Option Value → Hp → Prop} {J : Nat → Lv → List Value → Hp → Prop} {len pc : Nat} {lv : Lv} {st : List Value} {σ : Hp} : ystep Γ μ τ K J .ladd len pc lv st σ = (len = 1 ∧ s2l st fun x y r => J (pc + 1) lv (.long (x + y) :: r) σ) := rfl
theorem ok_ladd {Γ : Cx} {μ : Mt} {τ : Tb} {K : Option Value → Hp → Prop} {J : Nat → Lv → List Value → Hp → Prop} {len pc : Nat} {lv : Lv} {st : List Value} {σ : Hp} (hτ : TbOK Γ μ τ) (hJ : ∀ pc lv st σ, J pc lv st σ → YG Γ μ K pc lv st σ) (hd : decode μ.2.2.1 pc = .ok (.ladd, len)) (h : len = 1 ∧ s2l st fun x y r => J (pc + 1) lv (.long (x + y) :: r) σ) : YG Γ μ K pc lv st σ := by
  obtain ⟨rfl, h⟩ := h
  match st, h with
  | .long y :: .long x :: r, h =>
    intro p e s m args below meth c H locs ls F B S hl
    exact lv_ladd F.1 F.2.1 hd (hJ _ _ _ _ h p e s m args below meth c H locs ls F B S hl)
theorem st_lmul {Γ : Cx} {μ : Mt} {τ : Tb} {K : Option Value → Hp → Prop} {J : Nat → Lv → List Value → Hp → Prop} {len pc : Nat} {lv : Lv} {st : List Value} {σ : Hp} : ystep Γ μ τ K J .lmul len pc lv st σ = (len = 1 ∧ s2l st fun x y r => J (pc + 1) lv (.long (x * y) :: r) σ) := rfl
theorem ok_lmul {Γ : Cx} {μ : Mt} {τ : Tb} {K : Option Value → Hp → Prop} {J : Nat → Lv → List Value → Hp → Prop} {len pc : Nat} {lv : Lv} {st : List Value} {σ : Hp} (hτ : TbOK Γ μ τ) (hJ : ∀ pc lv st σ, J pc lv st σ → YG Γ μ K pc lv st σ) (hd : decode μ.2.2.1 pc = .ok (.lmul, len)) (h : len = 1 ∧ s2l st fun x y r => J (pc + 1) lv (.long (x * y) :: r) σ) : YG Γ μ K pc lv st σ := by
  obtain ⟨rfl, h⟩ := h
  match st, h with
  | .long y :: .long x :: r, h =>
    intro p e s m args below meth c H locs ls F B S hl
    exact lv_lmul F.1 F.2.1 hd (hJ _ _ _ _ h p e s m args below meth c H locs ls F B S hl)
theorem st_land {Γ : Cx} {μ : Mt} {τ : Tb} {K : Option Value → Hp → Prop} {J : Nat → Lv → List Value → Hp → Prop} {len pc : Nat} {lv : Lv} {st : List Value} {σ : Hp} : ystep Γ μ τ K J .land len pc lv st σ = (len = 1 ∧ s2l st fun x y r => J (pc + 1) lv (.long (x &&& y) :: r) σ) := rfl
theorem ok_land {Γ : Cx} {μ : Mt} {τ : Tb} {K : Option Value → Hp → Prop} {J : Nat → Lv → List Value → Hp → Prop} {len pc : Nat} {lv : Lv} {st : List Value} {σ : Hp} (hτ : TbOK Γ μ τ) (hJ : ∀ pc lv st σ, J pc lv st σ → YG Γ μ K pc lv st σ) (hd : decode μ.2.2.1 pc = .ok (.land, len)) (h : len = 1 ∧ s2l st fun x y r => J (pc + 1) lv (.long (x &&& y) :: r) σ) : YG Γ μ K pc lv st σ := by
  obtain ⟨rfl, h⟩ := h
  match st, h with
  | .long y :: .long x :: r, h =>
    intro p e s m args below meth c H locs ls F B S hl
    exact lv_land F.1 F.2.1 hd (hJ _ _ _ _ h p e s m args below meth c H locs ls F B S hl)
theorem st_lor {Γ : Cx} {μ : Mt} {τ : Tb} {K : Option Value → Hp → Prop} {J : Nat → Lv → List Value → Hp → Prop} {len pc : Nat} {lv : Lv} {st : List Value} {σ : Hp} : ystep Γ μ τ K J .lor len pc lv st σ = (len = 1 ∧ s2l st fun x y r => J (pc + 1) lv (.long (x ||| y) :: r) σ) := rfl
theorem ok_lor {Γ : Cx} {μ : Mt} {τ : Tb} {K : Option Value → Hp → Prop} {J : Nat → Lv → List Value → Hp → Prop} {len pc : Nat} {lv : Lv} {st : List Value} {σ : Hp} (hτ : TbOK Γ μ τ) (hJ : ∀ pc lv st σ, J pc lv st σ → YG Γ μ K pc lv st σ) (hd : decode μ.2.2.1 pc = .ok (.lor, len)) (h : len = 1 ∧ s2l st fun x y r => J (pc + 1) lv (.long (x ||| y) :: r) σ) : YG Γ μ K pc lv st σ := by
  obtain ⟨rfl, h⟩ := h
  match st, h with
  | .long y :: .long x :: r, h =>
    intro p e s m args below meth c H locs ls F B S hl
    exact lv_lor F.1 F.2.1 hd (hJ _ _ _ _ h p e s m args below meth c H locs ls F B S hl)
theorem st_lshl {Γ : Cx} {μ : Mt} {τ : Tb} {K : Option Value → Hp → Prop} {J : Nat → Lv → List Value → Hp → Prop} {len pc : Nat} {lv : Lv} {st : List Value} {σ : Hp} : ystep Γ μ τ K J .lshl len pc lv st σ = (len = 1 ∧ sil st fun x y r => J (pc + 1) lv (.long (x <<< (y.toInt64 &&& 63)) :: r) σ) := rfl
theorem ok_lshl {Γ : Cx} {μ : Mt} {τ : Tb} {K : Option Value → Hp → Prop} {J : Nat → Lv → List Value → Hp → Prop} {len pc : Nat} {lv : Lv} {st : List Value} {σ : Hp} (hτ : TbOK Γ μ τ) (hJ : ∀ pc lv st σ, J pc lv st σ → YG Γ μ K pc lv st σ) (hd : decode μ.2.2.1 pc = .ok (.lshl, len)) (h : len = 1 ∧ sil st fun x y r => J (pc + 1) lv (.long (x <<< (y.toInt64 &&& 63)) :: r) σ) : YG Γ μ K pc lv st σ := by
  obtain ⟨rfl, h⟩ := h
  match st, h with
  | .int y :: .long x :: r, h =>
    intro p e s m args below meth c H locs ls F B S hl
    exact lv_lshl F.1 F.2.1 hd rfl (hJ _ _ _ _ h p e s m args below meth c H locs ls F B S hl)
theorem st_lshr {Γ : Cx} {μ : Mt} {τ : Tb} {K : Option Value → Hp → Prop} {J : Nat → Lv → List Value → Hp → Prop} {len pc : Nat} {lv : Lv} {st : List Value} {σ : Hp} : ystep Γ μ τ K J .lshr len pc lv st σ = (len = 1 ∧ sil st fun x y r => J (pc + 1) lv (.long (x >>> (y.toInt64 &&& 63)) :: r) σ) := rfl
theorem ok_lshr {Γ : Cx} {μ : Mt} {τ : Tb} {K : Option Value → Hp → Prop} {J : Nat → Lv → List Value → Hp → Prop} {len pc : Nat} {lv : Lv} {st : List Value} {σ : Hp} (hτ : TbOK Γ μ τ) (hJ : ∀ pc lv st σ, J pc lv st σ → YG Γ μ K pc lv st σ) (hd : decode μ.2.2.1 pc = .ok (.lshr, len)) (h : len = 1 ∧ sil st fun x y r => J (pc + 1) lv (.long (x >>> (y.toInt64 &&& 63)) :: r) σ) : YG Γ μ K pc lv st σ := by
  obtain ⟨rfl, h⟩ := h
  match st, h with
  | .int y :: .long x :: r, h =>
    intro p e s m args below meth c H locs ls F B S hl
    exact lv_lshr F.1 F.2.1 hd rfl (hJ _ _ _ _ h p e s m args below meth c H locs ls F B S hl)
theorem st_i2l {Γ : Cx} {μ : Mt} {τ : Tb} {K : Option Value → Hp → Prop} {J : Nat → Lv → List Value → Hp → Prop} {len pc : Nat} {lv : Lv} {st : List Value} {σ : Hp} : ystep Γ μ τ K J .i2l len pc lv st σ = (len = 1 ∧ s1i st fun x r => J (pc + 1) lv (.long x.toInt64 :: r) σ) := rfl
theorem ok_i2l {Γ : Cx} {μ : Mt} {τ : Tb} {K : Option Value → Hp → Prop} {J : Nat → Lv → List Value → Hp → Prop} {len pc : Nat} {lv : Lv} {st : List Value} {σ : Hp} (hτ : TbOK Γ μ τ) (hJ : ∀ pc lv st σ, J pc lv st σ → YG Γ μ K pc lv st σ) (hd : decode μ.2.2.1 pc = .ok (.i2l, len)) (h : len = 1 ∧ s1i st fun x r => J (pc + 1) lv (.long x.toInt64 :: r) σ) : YG Γ μ K pc lv st σ := by
  obtain ⟨rfl, h⟩ := h
  match st, h with
  | .int x :: r, h =>
    intro p e s m args below meth c H locs ls F B S hl
    exact lv_i2l F.1 F.2.1 hd rfl (hJ _ _ _ _ h p e s m args below meth c H locs ls F B S hl)
theorem st_l2i {Γ : Cx} {μ : Mt} {τ : Tb} {K : Option Value → Hp → Prop} {J : Nat → Lv → List Value → Hp → Prop} {len pc : Nat} {lv : Lv} {st : List Value} {σ : Hp} : ystep Γ μ τ K J .l2i len pc lv st σ = (len = 1 ∧ s1l st fun x r => J (pc + 1) lv (.int x.toInt32 :: r) σ) := rfl
theorem ok_l2i {Γ : Cx} {μ : Mt} {τ : Tb} {K : Option Value → Hp → Prop} {J : Nat → Lv → List Value → Hp → Prop} {len pc : Nat} {lv : Lv} {st : List Value} {σ : Hp} (hτ : TbOK Γ μ τ) (hJ : ∀ pc lv st σ, J pc lv st σ → YG Γ μ K pc lv st σ) (hd : decode μ.2.2.1 pc = .ok (.l2i, len)) (h : len = 1 ∧ s1l st fun x r => J (pc + 1) lv (.int x.toInt32 :: r) σ) : YG Γ μ K pc lv st σ := by
  obtain ⟨rfl, h⟩ := h
  match st, h with
  | .long x :: r, h =>
    intro p e s m args below meth c H locs ls F B S hl
    exact lv_l2i F.1 F.2.1 hd rfl (hJ _ _ _ _ h p e s m args below meth c H locs ls F B S hl)
theorem st_i2b {Γ : Cx} {μ : Mt} {τ : Tb} {K : Option Value → Hp → Prop} {J : Nat → Lv → List Value → Hp → Prop} {len pc : Nat} {lv : Lv} {st : List Value} {σ : Hp} : ystep Γ μ τ K J .i2b len pc lv st σ = (len = 1 ∧ s1i st fun x r => J (pc + 1) lv (.int x.toInt8.toInt32 :: r) σ) := rfl
theorem ok_i2b {Γ : Cx} {μ : Mt} {τ : Tb} {K : Option Value → Hp → Prop} {J : Nat → Lv → List Value → Hp → Prop} {len pc : Nat} {lv : Lv} {st : List Value} {σ : Hp} (hτ : TbOK Γ μ τ) (hJ : ∀ pc lv st σ, J pc lv st σ → YG Γ μ K pc lv st σ) (hd : decode μ.2.2.1 pc = .ok (.i2b, len)) (h : len = 1 ∧ s1i st fun x r => J (pc + 1) lv (.int x.toInt8.toInt32 :: r) σ) : YG Γ μ K pc lv st σ := by
  obtain ⟨rfl, h⟩ := h
  match st, h with
  | .int x :: r, h =>
    intro p e s m args below meth c H locs ls F B S hl
    exact lv_i2b F.1 F.2.1 hd rfl (hJ _ _ _ _ h p e s m args below meth c H locs ls F B S hl)
theorem st_i2s {Γ : Cx} {μ : Mt} {τ : Tb} {K : Option Value → Hp → Prop} {J : Nat → Lv → List Value → Hp → Prop} {len pc : Nat} {lv : Lv} {st : List Value} {σ : Hp} : ystep Γ μ τ K J .i2s len pc lv st σ = (len = 1 ∧ s1i st fun x r => J (pc + 1) lv (.int x.toInt16.toInt32 :: r) σ) := rfl
theorem ok_i2s {Γ : Cx} {μ : Mt} {τ : Tb} {K : Option Value → Hp → Prop} {J : Nat → Lv → List Value → Hp → Prop} {len pc : Nat} {lv : Lv} {st : List Value} {σ : Hp} (hτ : TbOK Γ μ τ) (hJ : ∀ pc lv st σ, J pc lv st σ → YG Γ μ K pc lv st σ) (hd : decode μ.2.2.1 pc = .ok (.i2s, len)) (h : len = 1 ∧ s1i st fun x r => J (pc + 1) lv (.int x.toInt16.toInt32 :: r) σ) : YG Γ μ K pc lv st σ := by
  obtain ⟨rfl, h⟩ := h
  match st, h with
  | .int x :: r, h =>
    intro p e s m args below meth c H locs ls F B S hl
    exact lv_i2s F.1 F.2.1 hd rfl (hJ _ _ _ _ h p e s m args below meth c H locs ls F B S hl)
theorem st_i2c {Γ : Cx} {μ : Mt} {τ : Tb} {K : Option Value → Hp → Prop} {J : Nat → Lv → List Value → Hp → Prop} {len pc : Nat} {lv : Lv} {st : List Value} {σ : Hp} : ystep Γ μ τ K J .i2c len pc lv st σ = (len = 1 ∧ s1i st fun x r => J (pc + 1) lv (.int (x.toUInt32 % 65536).toInt32 :: r) σ) := rfl
theorem ok_i2c {Γ : Cx} {μ : Mt} {τ : Tb} {K : Option Value → Hp → Prop} {J : Nat → Lv → List Value → Hp → Prop} {len pc : Nat} {lv : Lv} {st : List Value} {σ : Hp} (hτ : TbOK Γ μ τ) (hJ : ∀ pc lv st σ, J pc lv st σ → YG Γ μ K pc lv st σ) (hd : decode μ.2.2.1 pc = .ok (.i2c, len)) (h : len = 1 ∧ s1i st fun x r => J (pc + 1) lv (.int (x.toUInt32 % 65536).toInt32 :: r) σ) : YG Γ μ K pc lv st σ := by
  obtain ⟨rfl, h⟩ := h
  match st, h with
  | .int x :: r, h =>
    intro p e s m args below meth c H locs ls F B S hl
    exact lv_i2c F.1 F.2.1 hd rfl (hJ _ _ _ _ h p e s m args below meth c H locs ls F B S hl)
theorem st_iconst {Γ : Cx} {μ : Mt} {τ : Tb} {K : Option Value → Hp → Prop} {J : Nat → Lv → List Value → Hp → Prop} {len pc : Nat} {lv : Lv} {st : List Value} {σ : Hp} {n : Int} : ystep Γ μ τ K J (.iconst n) len pc lv st σ = (len = 1 ∧ J (pc + 1) lv (.int (Int32.ofInt n) :: st) σ) := rfl
theorem ok_iconst {Γ : Cx} {μ : Mt} {τ : Tb} {K : Option Value → Hp → Prop} {J : Nat → Lv → List Value → Hp → Prop} {len pc : Nat} {lv : Lv} {st : List Value} {σ : Hp} {n : Int} (hτ : TbOK Γ μ τ) (hJ : ∀ pc lv st σ, J pc lv st σ → YG Γ μ K pc lv st σ) (hd : decode μ.2.2.1 pc = .ok ((.iconst n), len)) (h : len = 1 ∧ J (pc + 1) lv (.int (Int32.ofInt n) :: st) σ) : YG Γ μ K pc lv st σ := by
  obtain ⟨rfl, h⟩ := h
  intro p e s m args below meth c H locs ls F B S hl
  exact lv_iconst F.1 F.2.1 hd rfl (hJ _ _ _ _ h p e s m args below meth c H locs ls F B S hl)
theorem st_bipush {Γ : Cx} {μ : Mt} {τ : Tb} {K : Option Value → Hp → Prop} {J : Nat → Lv → List Value → Hp → Prop} {len pc : Nat} {lv : Lv} {st : List Value} {σ : Hp} {n : Int} : ystep Γ μ τ K J (.bipush n) len pc lv st σ = (len = 2 ∧ J (pc + 2) lv (.int (Int8.ofInt n).toInt32 :: st) σ) := rfl
theorem ok_bipush {Γ : Cx} {μ : Mt} {τ : Tb} {K : Option Value → Hp → Prop} {J : Nat → Lv → List Value → Hp → Prop} {len pc : Nat} {lv : Lv} {st : List Value} {σ : Hp} {n : Int} (hτ : TbOK Γ μ τ) (hJ : ∀ pc lv st σ, J pc lv st σ → YG Γ μ K pc lv st σ) (hd : decode μ.2.2.1 pc = .ok ((.bipush n), len)) (h : len = 2 ∧ J (pc + 2) lv (.int (Int8.ofInt n).toInt32 :: st) σ) : YG Γ μ K pc lv st σ := by
  obtain ⟨rfl, h⟩ := h
  intro p e s m args below meth c H locs ls F B S hl
  exact lv_bipush F.1 F.2.1 hd rfl (hJ _ _ _ _ h p e s m args below meth c H locs ls F B S hl)
theorem st_sipush {Γ : Cx} {μ : Mt} {τ : Tb} {K : Option Value → Hp → Prop} {J : Nat → Lv → List Value → Hp → Prop} {len pc : Nat} {lv : Lv} {st : List Value} {σ : Hp} {n : Int} : ystep Γ μ τ K J (.sipush n) len pc lv st σ = (len = 3 ∧ J (pc + 3) lv (.int (Int16.ofInt n).toInt32 :: st) σ) := rfl
theorem ok_sipush {Γ : Cx} {μ : Mt} {τ : Tb} {K : Option Value → Hp → Prop} {J : Nat → Lv → List Value → Hp → Prop} {len pc : Nat} {lv : Lv} {st : List Value} {σ : Hp} {n : Int} (hτ : TbOK Γ μ τ) (hJ : ∀ pc lv st σ, J pc lv st σ → YG Γ μ K pc lv st σ) (hd : decode μ.2.2.1 pc = .ok ((.sipush n), len)) (h : len = 3 ∧ J (pc + 3) lv (.int (Int16.ofInt n).toInt32 :: st) σ) : YG Γ μ K pc lv st σ := by
  obtain ⟨rfl, h⟩ := h
  intro p e s m args below meth c H locs ls F B S hl
  exact lv_sipush F.1 F.2.1 hd rfl (hJ _ _ _ _ h p e s m args below meth c H locs ls F B S hl)
theorem st_lconst {Γ : Cx} {μ : Mt} {τ : Tb} {K : Option Value → Hp → Prop} {J : Nat → Lv → List Value → Hp → Prop} {len pc : Nat} {lv : Lv} {st : List Value} {σ : Hp} {n : Fin 2} : ystep Γ μ τ K J (.lconst n) len pc lv st σ = (len = 1 ∧ J (pc + 1) lv (.long (Int64.ofNat n.val) :: st) σ) := rfl
theorem ok_lconst {Γ : Cx} {μ : Mt} {τ : Tb} {K : Option Value → Hp → Prop} {J : Nat → Lv → List Value → Hp → Prop} {len pc : Nat} {lv : Lv} {st : List Value} {σ : Hp} {n : Fin 2} (hτ : TbOK Γ μ τ) (hJ : ∀ pc lv st σ, J pc lv st σ → YG Γ μ K pc lv st σ) (hd : decode μ.2.2.1 pc = .ok ((.lconst n), len)) (h : len = 1 ∧ J (pc + 1) lv (.long (Int64.ofNat n.val) :: st) σ) : YG Γ μ K pc lv st σ := by
  obtain ⟨rfl, h⟩ := h
  intro p e s m args below meth c H locs ls F B S hl
  exact lv_lconst F.1 F.2.1 hd rfl (hJ _ _ _ _ h p e s m args below meth c H locs ls F B S hl)
theorem st_iload_n {Γ : Cx} {μ : Mt} {τ : Tb} {K : Option Value → Hp → Prop} {J : Nat → Lv → List Value → Hp → Prop} {len pc : Nat} {lv : Lv} {st : List Value} {σ : Hp} {k : Fin 4} : ystep Γ μ τ K J (.iload_n k) len pc lv st σ = (len = 1 ∧ (match lg lv k.val with | some (.int x) => J (pc + 1) lv (.int x :: st) σ | _ => False)) := rfl
theorem ok_iload_n {Γ : Cx} {μ : Mt} {τ : Tb} {K : Option Value → Hp → Prop} {J : Nat → Lv → List Value → Hp → Prop} {len pc : Nat} {lv : Lv} {st : List Value} {σ : Hp} {k : Fin 4} (hτ : TbOK Γ μ τ) (hJ : ∀ pc lv st σ, J pc lv st σ → YG Γ μ K pc lv st σ) (hd : decode μ.2.2.1 pc = .ok ((.iload_n k), len)) (h : len = 1 ∧ (match lg lv k.val with | some (.int x) => J (pc + 1) lv (.int x :: st) σ | _ => False)) : YG Γ μ K pc lv st σ := by
  obtain ⟨rfl, h⟩ := h
  split at h
  · next x e0 =>
    intro p e s m args below meth c H locs ls F B S hl
    exact lv_iload_n F.1 F.2.1 hd rfl (lg_at hl e0) (hJ _ _ _ _ h p e s m args below meth c H locs ls F B S hl)
  · exact h.elim
theorem st_iload {Γ : Cx} {μ : Mt} {τ : Tb} {K : Option Value → Hp → Prop} {J : Nat → Lv → List Value → Hp → Prop} {len pc : Nat} {lv : Lv} {st : List Value} {σ : Hp} {k : Nat} : ystep Γ μ τ K J (.iload k) len pc lv st σ = (len = 2 ∧ (match lg lv k with | some (.int x) => J (pc + 2) lv (.int x :: st) σ | _ => False)) := rfl
theorem ok_iload {Γ : Cx} {μ : Mt} {τ : Tb} {K : Option Value → Hp → Prop} {J : Nat → Lv → List Value → Hp → Prop} {len pc : Nat} {lv : Lv} {st : List Value} {σ : Hp} {k : Nat} (hτ : TbOK Γ μ τ) (hJ : ∀ pc lv st σ, J pc lv st σ → YG Γ μ K pc lv st σ) (hd : decode μ.2.2.1 pc = .ok ((.iload k), len)) (h : len = 2 ∧ (match lg lv k with | some (.int x) => J (pc + 2) lv (.int x :: st) σ | _ => False)) : YG Γ μ K pc lv st σ := by
  obtain ⟨rfl, h⟩ := h
  split at h
  · next x e0 =>
    intro p e s m args below meth c H locs ls F B S hl
    exact lv_iload F.1 F.2.1 hd (lg_at hl e0) (hJ _ _ _ _ h p e s m args below meth c H locs ls F B S hl)
  · exact h.elim
theorem st_aload_n {Γ : Cx} {μ : Mt} {τ : Tb} {K : Option Value → Hp → Prop} {J : Nat → Lv → List Value → Hp → Prop} {len pc : Nat} {lv : Lv} {st : List Value} {σ : Hp} {k : Fin 4} : ystep Γ μ τ K J (.aload_n k) len pc lv st σ = (len = 1 ∧ (match lg lv k.val with | some (.ref x) => J (pc + 1) lv (.ref x :: st) σ | _ => False)) := rfl
theorem ok_aload_n {Γ : Cx} {μ : Mt} {τ : Tb} {K : Option Value → Hp → Prop} {J : Nat → Lv → List Value → Hp → Prop} {len pc : Nat} {lv : Lv} {st : List Value} {σ : Hp} {k : Fin 4} (hτ : TbOK Γ μ τ) (hJ : ∀ pc lv st σ, J pc lv st σ → YG Γ μ K pc lv st σ) (hd : decode μ.2.2.1 pc = .ok ((.aload_n k), len)) (h : len = 1 ∧ (match lg lv k.val with | some (.ref x) => J (pc + 1) lv (.ref x :: st) σ | _ => False)) : YG Γ μ K pc lv st σ := by
  obtain ⟨rfl, h⟩ := h
  split at h
  · next x e0 =>
    intro p e s m args below meth c H locs ls F B S hl
    exact lv_aload_n F.1 F.2.1 hd rfl (lg_at hl e0) (hJ _ _ _ _ h p e s m args below meth c H locs ls F B S hl)
  · exact h.elim
theorem st_aload {Γ : Cx} {μ : Mt} {τ : Tb} {K : Option Value → Hp → Prop} {J : Nat → Lv → List Value → Hp → Prop} {len pc : Nat} {lv : Lv} {st : List Value} {σ : Hp} {k : Nat} : ystep Γ μ τ K J (.aload k) len pc lv st σ = (len = 2 ∧ (match lg lv k with | some (.ref x) => J (pc + 2) lv (.ref x :: st) σ | _ => False)) := rfl
theorem ok_aload {Γ : Cx} {μ : Mt} {τ : Tb} {K : Option Value → Hp → Prop} {J : Nat → Lv → List Value → Hp → Prop} {len pc : Nat} {lv : Lv} {st : List Value} {σ : Hp} {k : Nat} (hτ : TbOK Γ μ τ) (hJ : ∀ pc lv st σ, J pc lv st σ → YG Γ μ K pc lv st σ) (hd : decode μ.2.2.1 pc = .ok ((.aload k), len)) (h : len = 2 ∧ (match lg lv k with | some (.ref x) => J (pc + 2) lv (.ref x :: st) σ | _ => False)) : YG Γ μ K pc lv st σ := by
  obtain ⟨rfl, h⟩ := h
  split at h
  · next x e0 =>
    intro p e s m args below meth c H locs ls F B S hl
    exact lv_aload F.1 F.2.1 hd (lg_at hl e0) (hJ _ _ _ _ h p e s m args below meth c H locs ls F B S hl)
  · exact h.elim
theorem st_lload_n {Γ : Cx} {μ : Mt} {τ : Tb} {K : Option Value → Hp → Prop} {J : Nat → Lv → List Value → Hp → Prop} {len pc : Nat} {lv : Lv} {st : List Value} {σ : Hp} {k : Fin 4} : ystep Γ μ τ K J (.lload_n k) len pc lv st σ = (len = 1 ∧ (match lg lv k.val with | some (.long x) => J (pc + 1) lv (.long x :: st) σ | _ => False)) := rfl
theorem ok_lload_n {Γ : Cx} {μ : Mt} {τ : Tb} {K : Option Value → Hp → Prop} {J : Nat → Lv → List Value → Hp → Prop} {len pc : Nat} {lv : Lv} {st : List Value} {σ : Hp} {k : Fin 4} (hτ : TbOK Γ μ τ) (hJ : ∀ pc lv st σ, J pc lv st σ → YG Γ μ K pc lv st σ) (hd : decode μ.2.2.1 pc = .ok ((.lload_n k), len)) (h : len = 1 ∧ (match lg lv k.val with | some (.long x) => J (pc + 1) lv (.long x :: st) σ | _ => False)) : YG Γ μ K pc lv st σ := by
  obtain ⟨rfl, h⟩ := h
  split at h
  · next x e0 =>
    intro p e s m args below meth c H locs ls F B S hl
    exact lv_lload_n F.1 F.2.1 hd rfl (lg_at hl e0) (hJ _ _ _ _ h p e s m args below meth c H locs ls F B S hl)
  · exact h.elim
theorem st_lload {Γ : Cx} {μ : Mt} {τ : Tb} {K : Option Value → Hp → Prop} {J : Nat → Lv → List Value → Hp → Prop} {len pc : Nat} {lv : Lv} {st : List Value} {σ : Hp} {k : Nat} : ystep Γ μ τ K J (.lload k) len pc lv st σ = (len = 2 ∧ (match lg lv k with | some (.long x) => J (pc + 2) lv (.long x :: st) σ | _ => False)) := rfl
theorem ok_lload {Γ : Cx} {μ : Mt} {τ : Tb} {K : Option Value → Hp → Prop} {J : Nat → Lv → List Value → Hp → Prop} {len pc : Nat} {lv : Lv} {st : List Value} {σ : Hp} {k : Nat} (hτ : TbOK Γ μ τ) (hJ : ∀ pc lv st σ, J pc lv st σ → YG Γ μ K pc lv st σ) (hd : decode μ.2.2.1 pc = .ok ((.lload k), len)) (h : len = 2 ∧ (match lg lv k with | some (.long x) => J (pc + 2) lv (.long x :: st) σ | _ => False)) : YG Γ μ K pc lv st σ := by
  obtain ⟨rfl, h⟩ := h
  split at h
  · next x e0 =>
    intro p e s m args below meth c H locs ls F B S hl
    exact lv_lload F.1 F.2.1 hd (lg_at hl e0) (hJ _ _ _ _ h p e s m args below meth c H locs ls F B S hl)
  · exact h.elim
theorem st_istore_n {Γ : Cx} {μ : Mt} {τ : Tb} {K : Option Value → Hp → Prop} {J : Nat → Lv → List Value → Hp → Prop} {len pc : Nat} {lv : Lv} {st : List Value} {σ : Hp} {k : Fin 4} : ystep Γ μ τ K J (.istore_n k) len pc lv st σ = (len = 1 ∧ s1i st fun x r => k.val < μ.2.2.2.1 ∧ J (pc + 1) (lput lv k.val (.int x)) r σ) := rfl
theorem ok_istore_n {Γ : Cx} {μ : Mt} {τ : Tb} {K : Option Value → Hp → Prop} {J : Nat → Lv → List Value → Hp → Prop} {len pc : Nat} {lv : Lv} {st : List Value} {σ : Hp} {k : Fin 4} (hτ : TbOK Γ μ τ) (hJ : ∀ pc lv st σ, J pc lv st σ → YG Γ μ K pc lv st σ) (hd : decode μ.2.2.1 pc = .ok ((.istore_n k), len)) (h : len = 1 ∧ s1i st fun x r => k.val < μ.2.2.2.1 ∧ J (pc + 1) (lput lv k.val (.int x)) r σ) : YG Γ μ K pc lv st σ := by
  obtain ⟨rfl, h⟩ := h
  match st, h with
  | .int x :: r, h =>
    intro p e s m args below meth c H locs ls F B S hl
    exact lv_istore_n F.1 F.2.1 hd rfl hl h.1 rfl (fun ls' hl' => hJ _ _ _ _ h.2 p e s m args below meth c H locs ls' F B S (lput_has hl'))
theorem st_istore {Γ : Cx} {μ : Mt} {τ : Tb} {K : Option Value → Hp → Prop} {J : Nat → Lv → List Value → Hp → Prop} {len pc : Nat} {lv : Lv} {st : List Value} {σ : Hp} {k : Nat} : ystep Γ μ τ K J (.istore k) len pc lv st σ = (len = 2 ∧ s1i st fun x r => k < μ.2.2.2.1 ∧ J (pc + 2) (lput lv k (.int x)) r σ) := rfl
theorem ok_istore {Γ : Cx} {μ : Mt} {τ : Tb} {K : Option Value → Hp → Prop} {J : Nat → Lv → List Value → Hp → Prop} {len pc : Nat} {lv : Lv} {st : List Value} {σ : Hp} {k : Nat} (hτ : TbOK Γ μ τ) (hJ : ∀ pc lv st σ, J pc lv st σ → YG Γ μ K pc lv st σ) (hd : decode μ.2.2.1 pc = .ok ((.istore k), len)) (h : len = 2 ∧ s1i st fun x r => k < μ.2.2.2.1 ∧ J (pc + 2) (lput lv k (.int x)) r σ) : YG Γ μ K pc lv st σ := by
  obtain ⟨rfl, h⟩ := h
  match st, h with
  | .int x :: r, h =>
    intro p e s m args below meth c H locs ls F B S hl
    exact lv_istore F.1 F.2.1 hd hl h.1 rfl (fun ls' hl' => hJ _ _ _ _ h.2 p e s m args below meth c H locs ls' F B S (lput_has hl'))
theorem st_astore_n {Γ : Cx} {μ : Mt} {τ : Tb} {K : Option Value → Hp → Prop} {J : Nat → Lv → List Value → Hp → Prop} {len pc : Nat} {lv : Lv} {st : List Value} {σ : Hp} {k : Fin 4} : ystep Γ μ τ K J (.astore_n k) len pc lv st σ = (len = 1 ∧ s1r st fun x r => k.val < μ.2.2.2.1 ∧ J (pc + 1) (lput lv k.val (.ref x)) r σ) := rfl
theorem ok_astore_n {Γ : Cx} {μ : Mt} {τ : Tb} {K : Option Value → Hp → Prop} {J : Nat → Lv → List Value → Hp → Prop} {len pc : Nat} {lv : Lv} {st : List Value} {σ : Hp} {k : Fin 4} (hτ : TbOK Γ μ τ) (hJ : ∀ pc lv st σ, J pc lv st σ → YG Γ μ K pc lv st σ) (hd : decode μ.2.2.1 pc = .ok ((.astore_n k), len)) (h : len = 1 ∧ s1r st fun x r => k.val < μ.2.2.2.1 ∧ J (pc + 1) (lput lv k.val (.ref x)) r σ) : YG Γ μ K pc lv st σ := by
  obtain ⟨rfl, h⟩ := h
  match st, h with
  | .ref x :: r, h =>
    intro p e s m args below meth c H locs ls F B S hl
    exact lv_astore_n F.1 F.2.1 hd rfl hl h.1 rfl (fun ls' hl' => hJ _ _ _ _ h.2 p e s m args below meth c H locs ls' F B S (lput_has hl'))
theorem st_astore {Γ : Cx} {μ : Mt} {τ : Tb} {K : Option Value → Hp → Prop} {J : Nat → Lv → List Value → Hp → Prop} {len pc : Nat} {lv : Lv} {st : List Value} {σ : Hp} {k : Nat} : ystep Γ μ τ K J (.astore k) len pc lv st σ = (len = 2 ∧ s1r st fun x r => k < μ.2.2.2.1 ∧ J (pc + 2) (lput lv k (.ref x)) r σ) := rfl
theorem ok_astore {Γ : Cx} {μ : Mt} {τ : Tb} {K : Option Value → Hp → Prop} {J : Nat → Lv → List Value → Hp → Prop} {len pc : Nat} {lv : Lv} {st : List Value} {σ : Hp} {k : Nat} (hτ : TbOK Γ μ τ) (hJ : ∀ pc lv st σ, J pc lv st σ → YG Γ μ K pc lv st σ) (hd : decode μ.2.2.1 pc = .ok ((.astore k), len)) (h : len = 2 ∧ s1r st fun x r => k < μ.2.2.2.1 ∧ J (pc + 2) (lput lv k (.ref x)) r σ) : YG Γ μ K pc lv st σ := by
  obtain ⟨rfl, h⟩ := h
  match st, h with
  | .ref x :: r, h =>
    intro p e s m args below meth c H locs ls F B S hl
    exact lv_astore F.1 F.2.1 hd hl h.1 rfl (fun ls' hl' => hJ _ _ _ _ h.2 p e s m args below meth c H locs ls' F B S (lput_has hl'))
theorem st_iinc {Γ : Cx} {μ : Mt} {τ : Tb} {K : Option Value → Hp → Prop} {J : Nat → Lv → List Value → Hp → Prop} {len pc : Nat} {lv : Lv} {st : List Value} {σ : Hp} {k : Nat} {n : Int} : ystep Γ μ τ K J (.iinc k n) len pc lv st σ = (len = 3 ∧ k < μ.2.2.2.1 ∧ (match lg lv k with | some (.int x) => J (pc + 3) (lput lv k (.int (x + Int32.ofInt n))) st σ | _ => False)) := rfl
theorem ok_iinc {Γ : Cx} {μ : Mt} {τ : Tb} {K : Option Value → Hp → Prop} {J : Nat → Lv → List Value → Hp → Prop} {len pc : Nat} {lv : Lv} {st : List Value} {σ : Hp} {k : Nat} {n : Int} (hτ : TbOK Γ μ τ) (hJ : ∀ pc lv st σ, J pc lv st σ → YG Γ μ K pc lv st σ) (hd : decode μ.2.2.1 pc = .ok ((.iinc k n), len)) (h : len = 3 ∧ k < μ.2.2.2.1 ∧ (match lg lv k with | some (.int x) => J (pc + 3) (lput lv k (.int (x + Int32.ofInt n))) st σ | _ => False)) : YG Γ μ K pc lv st σ := by
  obtain ⟨rfl, h0, h⟩ := h
  split at h
  · next x e0 =>
    intro p e s m args below meth c H locs ls F B S hl
    obtain ⟨j, hj⟩ := lg_ix e0
    exact lv_iinc F.1 F.2.1 hd hl hj rfl h0 rfl (fun ls' hl' => hJ _ _ _ _ h p e s m args below meth c H locs ls' F B S (lput_has hl'))
  · exact h.elim
theorem st_dup {Γ : Cx} {μ : Mt} {τ : Tb} {K : Option Value → Hp → Prop} {J : Nat → Lv → List Value → Hp → Prop} {len pc : Nat} {lv : Lv} {st : List Value} {σ : Hp} : ystep Γ μ τ K J .dup len pc lv st σ = (len = 1 ∧ sd1 st fun v r => J (pc + 1) lv (v :: v :: r) σ) := rfl
theorem ok_dup {Γ : Cx} {μ : Mt} {τ : Tb} {K : Option Value → Hp → Prop} {J : Nat → Lv → List Value → Hp → Prop} {len pc : Nat} {lv : Lv} {st : List Value} {σ : Hp} (hτ : TbOK Γ μ τ) (hJ : ∀ pc lv st σ, J pc lv st σ → YG Γ μ K pc lv st σ) (hd : decode μ.2.2.1 pc = .ok (.dup, len)) (h : len = 1 ∧ sd1 st fun v r => J (pc + 1) lv (v :: v :: r) σ) : YG Γ μ K pc lv st σ := by
  obtain ⟨rfl, h⟩ := h
  match st, h with
  | v :: r, h =>
    intro p e s m args below meth c H locs ls F B S hl
    exact lv_dup F.1 F.2.1 hd (isL_cat h.1) (hJ _ _ _ _ h.2 p e s m args below meth c H locs ls F B S hl)
theorem st_pop {Γ : Cx} {μ : Mt} {τ : Tb} {K : Option Value → Hp → Prop} {J : Nat → Lv → List Value → Hp → Prop} {len pc : Nat} {lv : Lv} {st : List Value} {σ : Hp} : ystep Γ μ τ K J .pop len pc lv st σ = (len = 1 ∧ sd1 st fun v r => J (pc + 1) lv r σ) := rfl
theorem ok_pop {Γ : Cx} {μ : Mt} {τ : Tb} {K : Option Value → Hp → Prop} {J : Nat → Lv → List Value → Hp → Prop} {len pc : Nat} {lv : Lv} {st : List Value} {σ : Hp} (hτ : TbOK Γ μ τ) (hJ : ∀ pc lv st σ, J pc lv st σ → YG Γ μ K pc lv st σ) (hd : decode μ.2.2.1 pc = .ok (.pop, len)) (h : len = 1 ∧ sd1 st fun v r => J (pc + 1) lv r σ) : YG Γ μ K pc lv st σ := by
  obtain ⟨rfl, h⟩ := h
  match st, h with
  | v :: r, h =>
    intro p e s m args below meth c H locs ls F B S hl
    exact lv_pop F.1 F.2.1 hd (isL_cat h.1) (hJ _ _ _ _ h.2 p e s m args below meth c H locs ls F B S hl)
theorem st_dup2 {Γ : Cx} {μ : Mt} {τ : Tb} {K : Option Value → Hp → Prop} {J : Nat → Lv → List Value → Hp → Prop} {len pc : Nat} {lv : Lv} {st : List Value} {σ : Hp} : ystep Γ μ τ K J .dup2 len pc lv st σ = (len = 1 ∧ sd2 st fun v w r => J (pc + 1) lv (v :: w :: v :: w :: r) σ) := rfl
theorem ok_dup2 {Γ : Cx} {μ : Mt} {τ : Tb} {K : Option Value → Hp → Prop} {J : Nat → Lv → List Value → Hp → Prop} {len pc : Nat} {lv : Lv} {st : List Value} {σ : Hp} (hτ : TbOK Γ μ τ) (hJ : ∀ pc lv st σ, J pc lv st σ → YG Γ μ K pc lv st σ) (hd : decode μ.2.2.1 pc = .ok (.dup2, len)) (h : len = 1 ∧ sd2 st fun v w r => J (pc + 1) lv (v :: w :: v :: w :: r) σ) : YG Γ μ K pc lv st σ := by
  obtain ⟨rfl, h⟩ := h
  match st, h with
  | v :: w :: r, h =>
    intro p e s m args below meth c H locs ls F B S hl
    exact lv_dup2_11 F.1 F.2.1 hd (isL_cat h.1) (isL_cat h.2.1) (hJ _ _ _ _ h.2.2 p e s m args below meth c H locs ls F B S hl)
theorem st_goto {Γ : Cx} {μ : Mt} {τ : Tb} {K : Option Value → Hp → Prop} {J : Nat → Lv → List Value → Hp → Prop} {len pc : Nat} {lv : Lv} {st : List Value} {σ : Hp} {off : Int} : ystep Γ μ τ K J (.goto off) len pc lv st σ = (len = 3 ∧ jmp pc off fun t => J t lv st σ) := rfl
theorem ok_goto {Γ : Cx} {μ : Mt} {τ : Tb} {K : Option Value → Hp → Prop} {J : Nat → Lv → List Value → Hp → Prop} {len pc : Nat} {lv : Lv} {st : List Value} {σ : Hp} {off : Int} (hτ : TbOK Γ μ τ) (hJ : ∀ pc lv st σ, J pc lv st σ → YG Γ μ K pc lv st σ) (hd : decode μ.2.2.1 pc = .ok ((.goto off), len)) (h : len = 3 ∧ jmp pc off fun t => J t lv st σ) : YG Γ μ K pc lv st σ := by
  obtain ⟨rfl, h⟩ := h
  obtain ⟨t, ht, h⟩ := jmp_spec h
  intro p e s m args below meth c H locs ls F B S hl
  exact lv_goto F.1 F.2.1 hd ht (hJ _ _ _ _ h p e s m args below meth c H locs ls F B S hl)
theorem st_ifCond {Γ : Cx} {μ : Mt} {τ : Tb} {K : Option Value → Hp → Prop} {J : Nat → Lv → List Value → Hp → Prop} {len pc : Nat} {lv : Lv} {st : List Value} {σ : Hp} {cn : ClassFile.Cond} {off : Int} : ystep Γ μ τ K J (.ifCond cn off) len pc lv st σ = (len = 3 ∧ s1i st fun x r => jmp pc off fun t => (cnd1 cn x → J t lv r σ) ∧ (¬ cnd1 cn x → J (pc + 3) lv r σ)) := rfl
theorem ok_ifCond {Γ : Cx} {μ : Mt} {τ : Tb} {K : Option Value → Hp → Prop} {J : Nat → Lv → List Value → Hp → Prop} {len pc : Nat} {lv : Lv} {st : List Value} {σ : Hp} {cn : ClassFile.Cond} {off : Int} (hτ : TbOK Γ μ τ) (hJ : ∀ pc lv st σ, J pc lv st σ → YG Γ μ K pc lv st σ) (hd : decode μ.2.2.1 pc = .ok ((.ifCond cn off), len)) (h : len = 3 ∧ s1i st fun x r => jmp pc off fun t => (cnd1 cn x → J t lv r σ) ∧ (¬ cnd1 cn x → J (pc + 3) lv r σ)) : YG Γ μ K pc lv st σ := by
  obtain ⟨rfl, h⟩ := h
  match st, h with
  | .int x :: r, h =>
    obtain ⟨t, ht, h1, h2⟩ := jmp_spec h
    intro p e s m args below meth c H locs ls F B S hl
    cases cn
    case eq => exact lv_if_eq F.1 F.2.1 hd ht (fun z => hJ _ _ _ _ (h1 (cnd1_eq.mpr z)) p e s m args below meth c H locs ls F B S hl) (fun z => hJ _ _ _ _ (h2 (fun q => z (cnd1_eq.mp q))) p e s m args below meth c H locs ls F B S hl)
    case ne => exact lv_if_ne F.1 F.2.1 hd ht (fun z => hJ _ _ _ _ (h1 (cnd1_ne.mpr z)) p e s m args below meth c H locs ls F B S hl) (fun z => hJ _ _ _ _ (h2 (fun q => cnd1_ne.mp q z)) p e s m args below meth c H locs ls F B S hl)
    case lt => exact lv_if_lt F.1 F.2.1 hd ht (fun z => hJ _ _ _ _ (h1 (cnd1_lt.mpr z)) p e s m args below meth c H locs ls F B S hl) (fun z => hJ _ _ _ _ (h2 (fun q => z (cnd1_lt.mp q))) p e s m args below meth c H locs ls F B S hl)
    case ge => exact lv_if_ge F.1 F.2.1 hd ht (fun z => hJ _ _ _ _ (h1 (cnd1_ge.mpr z)) p e s m args below meth c H locs ls F B S hl) (fun z => hJ _ _ _ _ (h2 (fun q => z (cnd1_ge.mp q))) p e s m args below meth c H locs ls F B S hl)
    case gt => exact lv_if_gt F.1 F.2.1 hd ht (fun z => hJ _ _ _ _ (h1 (cnd1_gt.mpr z)) p e s m args below meth c H locs ls F B S hl) (fun z => hJ _ _ _ _ (h2 (fun q => z (cnd1_gt.mp q))) p e s m args below meth c H locs ls F B S hl)
    case le => exact lv_if_le F.1 F.2.1 hd ht (fun z => hJ _ _ _ _ (h1 (cnd1_le.mpr z)) p e s m args below meth c H locs ls F B S hl) (fun z => hJ _ _ _ _ (h2 (fun q => z (cnd1_le.mp q))) p e s m args below meth c H locs ls F B S hl)
theorem st_if_icmp {Γ : Cx} {μ : Mt} {τ : Tb} {K : Option Value → Hp → Prop} {J : Nat → Lv → List Value → Hp → Prop} {len pc : Nat} {lv : Lv} {st : List Value} {σ : Hp} {cn : ClassFile.Cond} {off : Int} : ystep Γ μ τ K J (.if_icmp cn off) len pc lv st σ = (len = 3 ∧ s2i st fun x y r => jmp pc off fun t => (cnd2 cn x y → J t lv r σ) ∧ (¬ cnd2 cn x y → J (pc + 3) lv r σ)) := rfl
theorem ok_if_icmp {Γ : Cx} {μ : Mt} {τ : Tb} {K : Option Value → Hp → Prop} {J : Nat → Lv → List Value → Hp → Prop} {len pc : Nat} {lv : Lv} {st : List Value} {σ : Hp} {cn : ClassFile.Cond} {off : Int} (hτ : TbOK Γ μ τ) (hJ : ∀ pc lv st σ, J pc lv st σ → YG Γ μ K pc lv st σ) (hd : decode μ.2.2.1 pc = .ok ((.if_icmp cn off), len)) (h : len = 3 ∧ s2i st fun x y r => jmp pc off fun t => (cnd2 cn x y → J t lv r σ) ∧ (¬ cnd2 cn x y → J (pc + 3) lv r σ)) : YG Γ μ K pc lv st σ := by
  obtain ⟨rfl, h⟩ := h
  match st, h with
  | .int y :: .int x :: r, h =>
    obtain ⟨t, ht, h1, h2⟩ := jmp_spec h
    intro p e s m args below meth c H locs ls F B S hl
    cases cn
    case eq => exact lv_icmp_eq F.1 F.2.1 hd ht (fun z => hJ _ _ _ _ (h1 (cnd2_eq.mpr z)) p e s m args below meth c H locs ls F B S hl) (fun z => hJ _ _ _ _ (h2 (fun q => z (cnd2_eq.mp q))) p e s m args below meth c H locs ls F B S hl)
    case ne => exact lv_icmp_ne F.1 F.2.1 hd ht (fun z => hJ _ _ _ _ (h1 (cnd2_ne.mpr z)) p e s m args below meth c H locs ls F B S hl) (fun z => hJ _ _ _ _ (h2 (fun q => cnd2_ne.mp q z)) p e s m args below meth c H locs ls F B S hl)
    case lt => exact lv_icmp_lt F.1 F.2.1 hd ht (fun z => hJ _ _ _ _ (h1 (cnd2_lt.mpr z)) p e s m args below meth c H locs ls F B S hl) (fun z => hJ _ _ _ _ (h2 (fun q => z (cnd2_lt.mp q))) p e s m args below meth c H locs ls F B S hl)
    case ge => exact lv_icmp_ge F.1 F.2.1 hd ht (fun z => hJ _ _ _ _ (h1 (cnd2_ge.mpr z)) p e s m args below meth c H locs ls F B S hl) (fun z => hJ _ _ _ _ (h2 (fun q => z (cnd2_ge.mp q))) p e s m args below meth c H locs ls F B S hl)
    case gt => exact lv_icmp_gt F.1 F.2.1 hd ht (fun z => hJ _ _ _ _ (h1 (cnd2_gt.mpr z)) p e s m args below meth c H locs ls F B S hl) (fun z => hJ _ _ _ _ (h2 (fun q => z (cnd2_gt.mp q))) p e s m args below meth c H locs ls F B S hl)
    case le => exact lv_icmp_le F.1 F.2.1 hd ht (fun z => hJ _ _ _ _ (h1 (cnd2_le.mpr z)) p e s m args below meth c H locs ls F B S hl) (fun z => hJ _ _ _ _ (h2 (fun q => z (cnd2_le.mp q))) p e s m args below meth c H locs ls F B S hl)
theorem st_lcmp {Γ : Cx} {μ : Mt} {τ : Tb} {K : Option Value → Hp → Prop} {J : Nat → Lv → List Value → Hp → Prop} {len pc : Nat} {lv : Lv} {st : List Value} {σ : Hp} : ystep Γ μ τ K J .lcmp len pc lv st σ = (len = 1 ∧ s2l st fun x y r => J (pc + 1) lv (.int (lg_cmp x y) :: r) σ) := rfl
theorem ok_lcmp {Γ : Cx} {μ : Mt} {τ : Tb} {K : Option Value → Hp → Prop} {J : Nat → Lv → List Value → Hp → Prop} {len pc : Nat} {lv : Lv} {st : List Value} {σ : Hp} (hτ : TbOK Γ μ τ) (hJ : ∀ pc lv st σ, J pc lv st σ → YG Γ μ K pc lv st σ) (hd : decode μ.2.2.1 pc = .ok (.lcmp, len)) (h : len = 1 ∧ s2l st fun x y r => J (pc + 1) lv (.int (lg_cmp x y) :: r) σ) : YG Γ μ K pc lv st σ := by
  obtain ⟨rfl, h⟩ := h
  match st, h with
  | .long y :: .long x :: r, h =>
    intro p e s m args below meth c H locs ls F B S hl
    exact W.lcmp F.1 F.2.1 hd (hJ _ _ _ _ h p e s m args below meth c H locs ls F B S hl)
theorem st_ldc {Γ : Cx} {μ : Mt} {τ : Tb} {K : Option Value → Hp → Prop} {J : Nat → Lv → List Value → Hp → Prop} {len pc : Nat} {lv : Lv} {st : List Value} {σ : Hp} {i : Nat} : ystep Γ μ τ K J (.ldc i) len pc lv st σ = (len = 2 ∧ (match τ.2.1 i with | some (.inl v) => J (pc + 2) lv (.int v :: st) σ | _ => False)) := rfl
theorem ok_ldc {Γ : Cx} {μ : Mt} {τ : Tb} {K : Option Value → Hp → Prop} {J : Nat → Lv → List Value → Hp → Prop} {len pc : Nat} {lv : Lv} {st : List Value} {σ : Hp} {i : Nat} (hτ : TbOK Γ μ τ) (hJ : ∀ pc lv st σ, J pc lv st σ → YG Γ μ K pc lv st σ) (hd : decode μ.2.2.1 pc = .ok ((.ldc i), len)) (h : len = 2 ∧ (match τ.2.1 i with | some (.inl v) => J (pc + 2) lv (.int v :: st) σ | _ => False)) : YG Γ μ K pc lv st σ := by
  obtain ⟨rfl, h⟩ := h
  split at h
  · next v e0 =>
    intro p e s m args below meth c H locs ls F B S hl
    exact lv_ldc F.1 F.2.1 F.2.2.2.1 (F.2.2.2.2.1 _ (hτ.2.1 _ _ e0)) hd (hJ _ _ _ _ h p e s m args below meth c H locs ls F B S hl)
  · exact h.elim
theorem st_ldc_w {Γ : Cx} {μ : Mt} {τ : Tb} {K : Option Value → Hp → Prop} {J : Nat → Lv → List Value → Hp → Prop} {len pc : Nat} {lv : Lv} {st : List Value} {σ : Hp} {i : Nat} : ystep Γ μ τ K J (.ldc_w i) len pc lv st σ = (len = 3 ∧ (match τ.2.1 i with | some (.inl v) => J (pc + 3) lv (.int v :: st) σ | _ => False)) := rfl
theorem ok_ldc_w {Γ : Cx} {μ : Mt} {τ : Tb} {K : Option Value → Hp → Prop} {J : Nat → Lv → List Value → Hp → Prop} {len pc : Nat} {lv : Lv} {st : List Value} {σ : Hp} {i : Nat} (hτ : TbOK Γ μ τ) (hJ : ∀ pc lv st σ, J pc lv st σ → YG Γ μ K pc lv st σ) (hd : decode μ.2.2.1 pc = .ok ((.ldc_w i), len)) (h : len = 3 ∧ (match τ.2.1 i with | some (.inl v) => J (pc + 3) lv (.int v :: st) σ | _ => False)) : YG Γ μ K pc lv st σ := by
  obtain ⟨rfl, h⟩ := h
  split at h
  · next v e0 =>
    intro p e s m args below meth c H locs ls F B S hl
    exact lv_ldcw F.1 F.2.1 F.2.2.2.1 (F.2.2.2.2.1 _ (hτ.2.1 _ _ e0)) hd (hJ _ _ _ _ h p e s m args below meth c H locs ls F B S hl)
  · exact h.elim
theorem st_ldc2_w {Γ : Cx} {μ : Mt} {τ : Tb} {K : Option Value → Hp → Prop} {J : Nat → Lv → List Value → Hp → Prop} {len pc : Nat} {lv : Lv} {st : List Value} {σ : Hp} {i : Nat} : ystep Γ μ τ K J (.ldc2_w i) len pc lv st σ = (len = 3 ∧ (match τ.2.1 i with | some (.inr v) => J (pc + 3) lv (.long v :: st) σ | _ => False)) := rfl
theorem ok_ldc2_w {Γ : Cx} {μ : Mt} {τ : Tb} {K : Option Value → Hp → Prop} {J : Nat → Lv → List Value → Hp → Prop} {len pc : Nat} {lv : Lv} {st : List Value} {σ : Hp} {i : Nat} (hτ : TbOK Γ μ τ) (hJ : ∀ pc lv st σ, J pc lv st σ → YG Γ μ K pc lv st σ) (hd : decode μ.2.2.1 pc = .ok ((.ldc2_w i), len)) (h : len = 3 ∧ (match τ.2.1 i with | some (.inr v) => J (pc + 3) lv (.long v :: st) σ | _ => False)) : YG Γ μ K pc lv st σ := by
  obtain ⟨rfl, h⟩ := h
  split at h
  · next v e0 =>
    intro p e s m args below meth c H locs ls F B S hl
    exact lv_ldc2 F.1 F.2.1 F.2.2.2.1 (F.2.2.2.2.1 _ (hτ.2.2.1 _ _ e0)) hd (hJ _ _ _ _ h p e s m args below meth c H locs ls F B S hl)
  · exact h.elim
theorem st_getfield {Γ : Cx} {μ : Mt} {τ : Tb} {K : Option Value → Hp → Prop} {J : Nat → Lv → List Value → Hp → Prop} {len pc : Nat} {lv : Lv} {st : List Value} {σ : Hp} {i : Nat} : ystep Γ μ τ K J (.getfield i) len pc lv st σ = (len = 3 ∧ s1r st fun a r => obj σ a fun ci fs => (match τ.1 i ci with | some (k, _) => (match fs[k]? with | some v => J (pc + 3) lv (v :: r) σ | none => False) | none => False)) := rfl
theorem ok_getfield {Γ : Cx} {μ : Mt} {τ : Tb} {K : Option Value → Hp → Prop} {J : Nat → Lv → List Value → Hp → Prop} {len pc : Nat} {lv : Lv} {st : List Value} {σ : Hp} {i : Nat} (hτ : TbOK Γ μ τ) (hJ : ∀ pc lv st σ, J pc lv st σ → YG Γ μ K pc lv st σ) (hd : decode μ.2.2.1 pc = .ok ((.getfield i), len)) (h : len = 3 ∧ s1r st fun a r => obj σ a fun ci fs => (match τ.1 i ci with | some (k, _) => (match fs[k]? with | some v => J (pc + 3) lv (v :: r) σ | none => False) | none => False)) : YG Γ μ K pc lv st σ := by
  obtain ⟨rfl, h⟩ := h
  match st, h with
  | .ref a :: r, h =>
    obtain ⟨ha, h⟩ := h
    split at h
    · next ci fs e0 =>
      split at h
      · next k b e1 =>
        split at h
        · next v e2 =>
          intro p e s m args below meth c H locs ls F B S hl
          obtain ⟨C, T, N, ref, f1, f2, f3, f4, -⟩ := hτ.2.2.2.1 _ _ _ _ e1
          obtain ⟨q0, hq⟩ := va_pl_get (X := []) (f := σ.2) ha
          rw [e0] at hq
          exact va_get F.1 F.2.1 F.2.2.2.2.1 f4.1 F.2.2.2.1 F.2.2.2.2.2.2.2.1.1 B.1 q0 hq f1 k f2 (F.2.2.2.2.1 _ f3) (f4.2.elim (fun z x hx => by rw [z]; exact hx) (fun z => u_same (F.2.2.2.2.1 _ z))) e2 hd (hJ _ _ _ _ h p e s m args below meth c H locs ls F B S hl)
        · exact h.elim
      · exact h.elim
    · exact h.elim
theorem st_putfield {Γ : Cx} {μ : Mt} {τ : Tb} {K : Option Value → Hp → Prop} {J : Nat → Lv → List Value → Hp → Prop} {len pc : Nat} {lv : Lv} {st : List Value} {σ : Hp} {i : Nat} : ystep Γ μ τ K J (.putfield i) len pc lv st σ = (len = 3 ∧ svr st fun a x r => obj σ a fun ci fs => (match τ.1 i ci with | some (k, b) => fput b x ∧ k < fs.length ∧ J (pc + 3) lv r (hput σ a (.inr (ci, fs.set k (.int x)))) | none => False)) := rfl
theorem ok_putfield {Γ : Cx} {μ : Mt} {τ : Tb} {K : Option Value → Hp → Prop} {J : Nat → Lv → List Value → Hp → Prop} {len pc : Nat} {lv : Lv} {st : List Value} {σ : Hp} {i : Nat} (hτ : TbOK Γ μ τ) (hJ : ∀ pc lv st σ, J pc lv st σ → YG Γ μ K pc lv st σ) (hd : decode μ.2.2.1 pc = .ok ((.putfield i), len)) (h : len = 3 ∧ svr st fun a x r => obj σ a fun ci fs => (match τ.1 i ci with | some (k, b) => fput b x ∧ k < fs.length ∧ J (pc + 3) lv r (hput σ a (.inr (ci, fs.set k (.int x)))) | none => False)) : YG Γ μ K pc lv st σ := by
  obtain ⟨rfl, h⟩ := h
  match st, h with
  | .int x :: .ref a :: r, h =>
    obtain ⟨ha, h⟩ := h
    split at h
    · next ci fs e0 =>
      split at h
      · next k b e1 =>
        obtain ⟨h1, h2, h⟩ := h
        intro p e s m args below meth c H locs ls F B S hl
        obtain ⟨C, T, N, ref, f1, f2, f3, f4, f5, ty0, f6, f7⟩ := hτ.2.2.2.1 _ _ _ _ e1
        obtain ⟨q0, hq⟩ := va_pl_get (X := []) (f := σ.2) ha
        have hset := va_pl_set (X := []) (e := .inr (ci, fs.set k (.int x))) B.2 ha hq
        rw [e0] at hq
        obtain ⟨ty, g1, g2, g3, g4⟩ := f5 x h1
        refine va_put F.1 F.2.1 F.2.2.2.2.1 f4.1 ty0 f6 f7 F.2.2.2.1 F.2.2.2.2.2.2.2.1.1 B.1 B.2 S q0 hq f1 k f2 (F.2.2.2.2.1 _ f3) (f4.2.elim (fun z x hx => by rw [z]; exact hx) (fun z => u_same (F.2.2.2.2.1 _ z))) g1 g2 g3 g4 h2 hd (fun H1 locs1 hP1 hD1 hS1 => ?_)
        simp only [List.nil_append] at hset
        rw [hset] at hP1 hD1
        exact hJ _ _ _ _ h p e s m args below meth c H1 locs1 ls F ⟨hP1, hD1⟩ hS1 hl
      · exact h.elim
    · exact h.elim
theorem st_iaload {Γ : Cx} {μ : Mt} {τ : Tb} {K : Option Value → Hp → Prop} {J : Nat → Lv → List Value → Hp → Prop} {len pc : Nat} {lv : Lv} {st : List Value} {σ : Hp} : ystep Γ μ τ K J .iaload len pc lv st σ = (len = 1 ∧ sir st fun a i r => (match μ.2.2.2.2.2.2 with | true => a = Γ.2.2.2.2.2.2.1 ∧ vp_in i Γ.2.2.2.2.2.2.2.1 ∧ J (pc + 1) lv (.int (Γ.2.2.2.2.2.2.2.2 i.toNatClampNeg) :: r) σ | false => arI Γ σ a fun n f => vp_in i n ∧ J (pc + 1) lv (.int (f i.toNatClampNeg) :: r) σ)) := rfl
theorem ok_iaload {Γ : Cx} {μ : Mt} {τ : Tb} {K : Option Value → Hp → Prop} {J : Nat → Lv → List Value → Hp → Prop} {len pc : Nat} {lv : Lv} {st : List Value} {σ : Hp} (hτ : TbOK Γ μ τ) (hJ : ∀ pc lv st σ, J pc lv st σ → YG Γ μ K pc lv st σ) (hd : decode μ.2.2.1 pc = .ok (.iaload, len)) (h : len = 1 ∧ sir st fun a i r => (match μ.2.2.2.2.2.2 with | true => a = Γ.2.2.2.2.2.2.1 ∧ vp_in i Γ.2.2.2.2.2.2.2.1 ∧ J (pc + 1) lv (.int (Γ.2.2.2.2.2.2.2.2 i.toNatClampNeg) :: r) σ | false => arI Γ σ a fun n f => vp_in i n ∧ J (pc + 1) lv (.int (f i.toNatClampNeg) :: r) σ)) : YG Γ μ K pc lv st σ := by
  obtain ⟨rfl, h⟩ := h
  match st, h with
  | .int i :: .ref a :: r, h =>
    simp only [sir] at h
    split at h
    · obtain ⟨rfl, h1, h⟩ := h
      intro p e s m args below meth c H locs ls F B S hl
      have hX := F.2.2.2.2.2.2.2.1.2.2.2.2.2.1
      exact va_sld F.1 F.2.1 hX (by obtain ⟨scr, hb, -⟩ := hX; exact (Array.getElem?_eq_some_iff.mp hb).1) F.2.2.2.2.2.2.2.1.2.2.2.2.2.2 S h1 hd (hJ _ _ _ _ h p e s m args below meth c H locs ls F B S hl)
    · obtain ⟨ha, h⟩ := h
      split at h
      · next cA n f e0 =>
        obtain ⟨rfl, h1, h⟩ := h
        intro p e s m args below meth c H locs ls F B S hl
        obtain ⟨q0, hq⟩ := va_pl_get (X := []) (f := σ.2) ha
        rw [e0] at hq
        exact va_iald F.1 F.2.1 F.2.2.2.2.2.2.2.1.1 B.1 q0 0 hq rfl h1 hd (hJ _ _ _ _ h p e s m args below meth c H locs ls F B S hl)
      · exact h.elim
theorem st_arraylength {Γ : Cx} {μ : Mt} {τ : Tb} {K : Option Value → Hp → Prop} {J : Nat → Lv → List Value → Hp → Prop} {len pc : Nat} {lv : Lv} {st : List Value} {σ : Hp} : ystep Γ μ τ K J .arraylength len pc lv st σ = (len = 1 ∧ s1r st fun a r => (match μ.2.2.2.2.2.2 with | true => a = Γ.2.2.2.2.2.2.1 ∧ J (pc + 1) lv (.int (Int32.ofNat Γ.2.2.2.2.2.2.2.1) :: r) σ | false => arI Γ σ a fun n f => J (pc + 1) lv (.int (Int32.ofNat n) :: r) σ)) := rfl
theorem ok_arraylength {Γ : Cx} {μ : Mt} {τ : Tb} {K : Option Value → Hp → Prop} {J : Nat → Lv → List Value → Hp → Prop} {len pc : Nat} {lv : Lv} {st : List Value} {σ : Hp} (hτ : TbOK Γ μ τ) (hJ : ∀ pc lv st σ, J pc lv st σ → YG Γ μ K pc lv st σ) (hd : decode μ.2.2.1 pc = .ok (.arraylength, len)) (h : len = 1 ∧ s1r st fun a r => (match μ.2.2.2.2.2.2 with | true => a = Γ.2.2.2.2.2.2.1 ∧ J (pc + 1) lv (.int (Int32.ofNat Γ.2.2.2.2.2.2.2.1) :: r) σ | false => arI Γ σ a fun n f => J (pc + 1) lv (.int (Int32.ofNat n) :: r) σ)) : YG Γ μ K pc lv st σ := by
  obtain ⟨rfl, h⟩ := h
  match st, h with
  | .ref a :: r, h =>
    simp only [s1r] at h
    split at h
    · obtain ⟨rfl, h⟩ := h
      intro p e s m args below meth c H locs ls F B S hl
      have hX := F.2.2.2.2.2.2.2.1.2.2.2.2.2.1
      exact va_slen F.1 F.2.1 hX (by obtain ⟨scr, hb, -⟩ := hX; exact (Array.getElem?_eq_some_iff.mp hb).1) F.2.2.2.2.2.2.2.1.2.2.2.2.2.2 S hd (hJ _ _ _ _ h p e s m args below meth c H locs ls F B S hl)
    · obtain ⟨ha, h⟩ := h
      split at h
      · next cA n f e0 =>
        obtain ⟨rfl, h⟩ := h
        intro p e s m args below meth c H locs ls F B S hl
        obtain ⟨q0, hq⟩ := va_pl_get (X := []) (f := σ.2) ha
        rw [e0] at hq
        exact va_alen F.1 F.2.1 F.2.2.2.2.2.2.2.1.1 B.1 q0 0 hq rfl rfl hd (hJ _ _ _ _ h p e s m args below meth c H locs ls F B S hl)
      · exact h.elim
theorem st_laload {Γ : Cx} {μ : Mt} {τ : Tb} {K : Option Value → Hp → Prop} {J : Nat → Lv → List Value → Hp → Prop} {len pc : Nat} {lv : Lv} {st : List Value} {σ : Hp} : ystep Γ μ τ K J .laload len pc lv st σ = (len = 1 ∧ sir st fun a i r => arL Γ σ a fun n f => vp_in i n ∧ J (pc + 1) lv (.long (f i.toNatClampNeg) :: r) σ) := rfl
theorem ok_laload {Γ : Cx} {μ : Mt} {τ : Tb} {K : Option Value → Hp → Prop} {J : Nat → Lv → List Value → Hp → Prop} {len pc : Nat} {lv : Lv} {st : List Value} {σ : Hp} (hτ : TbOK Γ μ τ) (hJ : ∀ pc lv st σ, J pc lv st σ → YG Γ μ K pc lv st σ) (hd : decode μ.2.2.1 pc = .ok (.laload, len)) (h : len = 1 ∧ sir st fun a i r => arL Γ σ a fun n f => vp_in i n ∧ J (pc + 1) lv (.long (f i.toNatClampNeg) :: r) σ) : YG Γ μ K pc lv st σ := by
  obtain ⟨rfl, h⟩ := h
  match st, h with
  | .int i :: .ref a :: r, h =>
    obtain ⟨ha, h⟩ := h
    split at h
    · next cA n f e0 =>
      obtain ⟨rfl, h1, h⟩ := h
      intro p e s m args below meth c H locs ls F B S hl
      obtain ⟨q0, hq⟩ := va_pl_get (X := []) (f := σ.2) ha
      rw [e0] at hq
      exact va_lald F.1 F.2.1 F.2.2.2.2.2.2.2.1.1 B.1 q0 1 hq rfl h1 hd (hJ _ _ _ _ h p e s m args below meth c H locs ls F B S hl)
    · exact h.elim
theorem st_aaload {Γ : Cx} {μ : Mt} {τ : Tb} {K : Option Value → Hp → Prop} {J : Nat → Lv → List Value → Hp → Prop} {len pc : Nat} {lv : Lv} {st : List Value} {σ : Hp} : ystep Γ μ τ K J .aaload len pc lv st σ = (len = 1 ∧ sir st fun a i r => arR Γ σ a fun n cA f => vp_in i n ∧ (match f i.toNatClampNeg with | some q => J (pc + 1) lv (.ref q :: r) σ | none => False)) := rfl
theorem ok_aaload {Γ : Cx} {μ : Mt} {τ : Tb} {K : Option Value → Hp → Prop} {J : Nat → Lv → List Value → Hp → Prop} {len pc : Nat} {lv : Lv} {st : List Value} {σ : Hp} (hτ : TbOK Γ μ τ) (hJ : ∀ pc lv st σ, J pc lv st σ → YG Γ μ K pc lv st σ) (hd : decode μ.2.2.1 pc = .ok (.aaload, len)) (h : len = 1 ∧ sir st fun a i r => arR Γ σ a fun n cA f => vp_in i n ∧ (match f i.toNatClampNeg with | some q => J (pc + 1) lv (.ref q :: r) σ | none => False)) : YG Γ μ K pc lv st σ := by
  obtain ⟨rfl, h⟩ := h
  match st, h with
  | .int i :: .ref a :: r, h =>
    obtain ⟨ha, h⟩ := h
    split at h
    · next cA n f e0 =>
      obtain ⟨hc, h1, h⟩ := h
      split at h
      · next q e1 =>
        intro p e s m args below meth c H locs ls F B S hl
        obtain ⟨q0, hq⟩ := va_pl_get (X := []) (f := σ.2) ha
        rw [e0] at hq
        rcases hc with rfl | rfl
        · refine va_aldq F.1 F.2.1 F.2.2.2.2.2.2.2.1.1 B.1 q0 2 hq rfl h1 hd ?_
          rw [e1]
          exact hJ _ _ _ _ h p e s m args below meth c H locs ls F B S hl
        · refine va_aldq F.1 F.2.1 F.2.2.2.2.2.2.2.1.1 B.1 q0 3 hq rfl h1 hd ?_
          rw [e1]
          exact hJ _ _ _ _ h p e s m args below meth c H locs ls F B S hl
      · exact h.elim
    · exact h.elim
theorem st_iastore {Γ : Cx} {μ : Mt} {τ : Tb} {K : Option Value → Hp → Prop} {J : Nat → Lv → List Value → Hp → Prop} {len pc : Nat} {lv : Lv} {st : List Value} {σ : Hp} : ystep Γ μ τ K J .iastore len pc lv st σ = (len = 1 ∧ siir st fun a i x r => arI Γ σ a fun n f => vp_in i n ∧ J (pc + 1) lv r (hput σ a (.inl (Γ.2.2.2.1 0, n, .inl (upd f i.toNatClampNeg x))))) := rfl
theorem ok_iastore {Γ : Cx} {μ : Mt} {τ : Tb} {K : Option Value → Hp → Prop} {J : Nat → Lv → List Value → Hp → Prop} {len pc : Nat} {lv : Lv} {st : List Value} {σ : Hp} (hτ : TbOK Γ μ τ) (hJ : ∀ pc lv st σ, J pc lv st σ → YG Γ μ K pc lv st σ) (hd : decode μ.2.2.1 pc = .ok (.iastore, len)) (h : len = 1 ∧ siir st fun a i x r => arI Γ σ a fun n f => vp_in i n ∧ J (pc + 1) lv r (hput σ a (.inl (Γ.2.2.2.1 0, n, .inl (upd f i.toNatClampNeg x))))) : YG Γ μ K pc lv st σ := by
  obtain ⟨rfl, h⟩ := h
  match st, h with
  | .int x :: .int i :: .ref a :: r, h =>
    obtain ⟨ha, h⟩ := h
    split at h
    · next cA n f e0 =>
      obtain ⟨rfl, h1, h⟩ := h
      intro p e s m args below meth c H locs ls F B S hl
      obtain ⟨q0, hq⟩ := va_pl_get (X := []) (f := σ.2) ha
      have hset := va_pl_set (X := []) (e := (.inl (Γ.2.2.2.1 0, n, .inl (upd f i.toNatClampNeg x)))) B.2 ha hq
      rw [e0] at hq
      refine va_iast F.1 F.2.1 F.2.2.2.2.2.2.2.1.1 B.1 B.2 S q0 0 hq rfl h1 hd (fun H1 locs1 hP1 hD1 hS1 => ?_)
      simp only [List.nil_append] at hset
      rw [hset] at hP1 hD1
      exact hJ _ _ _ _ h p e s m args below meth c H1 locs1 ls F ⟨hP1, hD1⟩ hS1 hl
    · exact h.elim
theorem st_lastore {Γ : Cx} {μ : Mt} {τ : Tb} {K : Option Value → Hp → Prop} {J : Nat → Lv → List Value → Hp → Prop} {len pc : Nat} {lv : Lv} {st : List Value} {σ : Hp} : ystep Γ μ τ K J .lastore len pc lv st σ = (len = 1 ∧ slir st fun a i x r => arL Γ σ a fun n f => vp_in i n ∧ J (pc + 1) lv r (hput σ a (.inl (Γ.2.2.2.1 1, n, .inr (.inl (vp_updL f i.toNatClampNeg x)))))) := rfl
theorem ok_lastore {Γ : Cx} {μ : Mt} {τ : Tb} {K : Option Value → Hp → Prop} {J : Nat → Lv → List Value → Hp → Prop} {len pc : Nat} {lv : Lv} {st : List Value} {σ : Hp} (hτ : TbOK Γ μ τ) (hJ : ∀ pc lv st σ, J pc lv st σ → YG Γ μ K pc lv st σ) (hd : decode μ.2.2.1 pc = .ok (.lastore, len)) (h : len = 1 ∧ slir st fun a i x r => arL Γ σ a fun n f => vp_in i n ∧ J (pc + 1) lv r (hput σ a (.inl (Γ.2.2.2.1 1, n, .inr (.inl (vp_updL f i.toNatClampNeg x)))))) : YG Γ μ K pc lv st σ := by
  obtain ⟨rfl, h⟩ := h
  match st, h with
  | .long x :: .int i :: .ref a :: r, h =>
    obtain ⟨ha, h⟩ := h
    split at h
    · next cA n f e0 =>
      obtain ⟨rfl, h1, h⟩ := h
      intro p e s m args below meth c H locs ls F B S hl
      obtain ⟨q0, hq⟩ := va_pl_get (X := []) (f := σ.2) ha
      have hset := va_pl_set (X := []) (e := (.inl (Γ.2.2.2.1 1, n, .inr (.inl (vp_updL f i.toNatClampNeg x))))) B.2 ha hq
      rw [e0] at hq
      refine va_last F.1 F.2.1 F.2.2.2.2.2.2.2.1.1 B.1 B.2 S q0 1 hq rfl h1 hd (fun H1 locs1 hP1 hD1 hS1 => ?_)
      simp only [List.nil_append] at hset
      rw [hset] at hP1 hD1
      exact hJ _ _ _ _ h p e s m args below meth c H1 locs1 ls F ⟨hP1, hD1⟩ hS1 hl
    · exact h.elim
theorem st_aastore {Γ : Cx} {μ : Mt} {τ : Tb} {K : Option Value → Hp → Prop} {J : Nat → Lv → List Value → Hp → Prop} {len pc : Nat} {lv : Lv} {st : List Value} {σ : Hp} : ystep Γ μ τ K J .aastore len pc lv st σ = (len = 1 ∧ srir st fun a i v r => arR Γ σ a fun n cA f => vp_in i n ∧ cA = Γ.2.2.2.1 2 ∧ (obj σ v fun ci fs => ci = 1) ∧ J (pc + 1) lv r (hput σ a (.inl (cA, n, .inr (.inr (.inr (.inr (va_up f i.toNatClampNeg (some v))))))))) := rfl
theorem ok_aastore {Γ : Cx} {μ : Mt} {τ : Tb} {K : Option Value → Hp → Prop} {J : Nat → Lv → List Value → Hp → Prop} {len pc : Nat} {lv : Lv} {st : List Value} {σ : Hp} (hτ : TbOK Γ μ τ) (hJ : ∀ pc lv st σ, J pc lv st σ → YG Γ μ K pc lv st σ) (hd : decode μ.2.2.1 pc = .ok (.aastore, len)) (h : len = 1 ∧ srir st fun a i v r => arR Γ σ a fun n cA f => vp_in i n ∧ cA = Γ.2.2.2.1 2 ∧ (obj σ v fun ci fs => ci = 1) ∧ J (pc + 1) lv r (hput σ a (.inl (cA, n, .inr (.inr (.inr (.inr (va_up f i.toNatClampNeg (some v))))))))) : YG Γ μ K pc lv st σ := by
  obtain ⟨rfl, h⟩ := h
  match st, h with
  | .ref v :: .int i :: .ref a :: r, h =>
    obtain ⟨ha, h⟩ := h
    split at h
    · next cA n f e0 =>
      obtain ⟨-, h1, rfl, ⟨hv, hv2⟩, h⟩ := h
      split at hv2
      · next ci fs e1 =>
        subst hv2
        intro p e s m args below meth c H locs ls F B S hl
        obtain ⟨q0, hq⟩ := va_pl_get (X := []) (f := σ.2) ha
        obtain ⟨q1, hq1⟩ := va_pl_get (X := []) (f := σ.2) hv
        have hset := va_pl_set (X := []) (e := (.inl (Γ.2.2.2.1 2, n, .inr (.inr (.inr (.inr (va_up f i.toNatClampNeg (some v)))))))) B.2 ha hq
        rw [e0] at hq
        rw [e1] at hq1
        refine va_astq F.1 F.2.1 F.2.2.2.2.2.2.2.1.1 B.1 B.2 S q0 2 q1 1 (r := (RX1, TX1, 5)) hq rfl hq1 rfl h1 hd (fun H1 locs1 hP1 hD1 hS1 => ?_)
        simp only [List.nil_append] at hset
        rw [hset] at hP1 hD1
        exact hJ _ _ _ _ h p e s m args below meth c H1 locs1 ls F ⟨hP1, hD1⟩ hS1 hl
      · exact hv2.elim
    · exact h.elim
theorem st_ireturn {Γ : Cx} {μ : Mt} {τ : Tb} {K : Option Value → Hp → Prop} {J : Nat → Lv → List Value → Hp → Prop} {len pc : Nat} {lv : Lv} {st : List Value} {σ : Hp} : ystep Γ μ τ K J .ireturn len pc lv st σ = (len = 1 ∧ (match st with | [.int v] => rok μ.2.2.2.2.1 v ∧ K (some (.int v)) σ | _ => False)) := rfl
theorem ok_ireturn {Γ : Cx} {μ : Mt} {τ : Tb} {K : Option Value → Hp → Prop} {J : Nat → Lv → List Value → Hp → Prop} {len pc : Nat} {lv : Lv} {st : List Value} {σ : Hp} (hτ : TbOK Γ μ τ) (hJ : ∀ pc lv st σ, J pc lv st σ → YG Γ μ K pc lv st σ) (hd : decode μ.2.2.1 pc = .ok (.ireturn, len)) (h : len = 1 ∧ (match st with | [.int v] => rok μ.2.2.2.2.1 v ∧ K (some (.int v)) σ | _ => False)) : YG Γ μ K pc lv st σ := by
  obtain ⟨rfl, h⟩ := h
  split at h
  · next v =>
    intro p e s m args below meth c H locs ls F B S hl
    have hq : ∀ t : State, t.heap = H → s.WarmedH t.vm → Qk Γ K args s (.returned (some (.int v))) t := fun t ht _ => ⟨⟨_, σ, rfl, h.2, by rw [ht]; exact B⟩, S.F ht⟩
    have hr := F.2.2.2.2.2.1
    have h0 := h.1
    unfold rok at h0
    split at h0
    · next e0 => exact W.iret F.1 F.2.1 (hr.trans e0) hq S.2.2 hd F.2.2.2.2.2.2.1
    · next e0 => exact W.zret F.1 F.2.1 (hr.trans e0) (by rcases h0 with rfl | rfl <;> rfl) hq S.2.2 hd F.2.2.2.2.2.2.1
    · exact h0.elim
  · exact h.elim
theorem st_return {Γ : Cx} {μ : Mt} {τ : Tb} {K : Option Value → Hp → Prop} {J : Nat → Lv → List Value → Hp → Prop} {len pc : Nat} {lv : Lv} {st : List Value} {σ : Hp} : ystep Γ μ τ K J .return_ len pc lv st σ = (len = 1 ∧ (match st with | [] => μ.2.2.2.2.1 = none ∧ K none σ | _ => False)) := rfl
theorem ok_return {Γ : Cx} {μ : Mt} {τ : Tb} {K : Option Value → Hp → Prop} {J : Nat → Lv → List Value → Hp → Prop} {len pc : Nat} {lv : Lv} {st : List Value} {σ : Hp} (hτ : TbOK Γ μ τ) (hJ : ∀ pc lv st σ, J pc lv st σ → YG Γ μ K pc lv st σ) (hd : decode μ.2.2.1 pc = .ok (.return_, len)) (h : len = 1 ∧ (match st with | [] => μ.2.2.2.2.1 = none ∧ K none σ | _ => False)) : YG Γ μ K pc lv st σ := by
  obtain ⟨rfl, h⟩ := h
  split at h
  · intro p e s m args below meth c H locs ls F B S hl
    exact W.vret F.1 F.2.1 (F.2.2.2.2.2.1.trans h.1) (fun t ht _ => ⟨⟨_, σ, rfl, h.2, by rw [ht]; exact B⟩, S.F ht⟩) S.2.2 hd F.2.2.2.2.2.2.1
  · exact h.elim
theorem st_tableswitch {Γ : Cx} {μ : Mt} {τ : Tb} {K : Option Value → Hp → Prop} {J : Nat → Lv → List Value → Hp → Prop} {len pc : Nat} {lv : Lv} {st : List Value} {σ : Hp} {dflt : Int} {lo : Int} {hi : Int} {offs : Array Int} : ystep Γ μ τ K J (.tableswitch dflt lo hi offs) len pc lv st σ = (s1i st fun x r => hi = lo + offs.toList.length - 1 ∧ swl x (fun o => jmp pc o fun t => J t lv r σ) offs.toList lo ∧ ((x.toInt < lo ∨ hi < x.toInt) → jmp pc dflt fun t => J t lv r σ)) := rfl
theorem ok_tableswitch {Γ : Cx} {μ : Mt} {τ : Tb} {K : Option Value → Hp → Prop} {J : Nat → Lv → List Value → Hp → Prop} {len pc : Nat} {lv : Lv} {st : List Value} {σ : Hp} {dflt : Int} {lo : Int} {hi : Int} {offs : Array Int} (hτ : TbOK Γ μ τ) (hJ : ∀ pc lv st σ, J pc lv st σ → YG Γ μ K pc lv st σ) (hd : decode μ.2.2.1 pc = .ok ((.tableswitch dflt lo hi offs), len)) (h : s1i st fun x r => hi = lo + offs.toList.length - 1 ∧ swl x (fun o => jmp pc o fun t => J t lv r σ) offs.toList lo ∧ ((x.toInt < lo ∨ hi < x.toInt) → jmp pc dflt fun t => J t lv r σ)) : YG Γ μ K pc lv st σ := by
  match st, h with
  | .int x :: r, h =>
    obtain ⟨h0, h1, h2⟩ := h
    intro p e s m args below meth c H locs ls F B S hl
    by_cases hx : x.toInt < lo ∨ hi < x.toInt
    · obtain ⟨t, ht, h⟩ := jmp_spec (h2 hx)
      exact lv_tableOut F.1 F.2.1 hd hx ht (hJ _ _ _ _ h p e s m args below meth c H locs ls F B S hl)
    · have hlo : ¬ x.toInt < lo := fun z => hx (Or.inl z)
      have hhi : ¬ hi < x.toInt := fun z => hx (Or.inr z)
      have hlt : (x.toInt - lo).toNat < offs.toList.length := by omega
      have hj := swl_at h1 _ hlt (by rw [show lo + ((x.toInt - lo).toNat : Int) = x.toInt by omega]; exact (Int32.ofInt_toInt x).symm)
      obtain ⟨t, ht, h⟩ := jmp_spec hj
      exact lv_tableIn F.1 F.2.1 hd hlo hhi (by rw [← Array.getElem?_toList]; exact List.getElem?_eq_getElem hlt) ht (hJ _ _ _ _ h p e s m args below meth c H locs ls F B S hl)
theorem st_lookupswitch {Γ : Cx} {μ : Mt} {τ : Tb} {K : Option Value → Hp → Prop} {J : Nat → Lv → List Value → Hp → Prop} {len pc : Nat} {lv : Lv} {st : List Value} {σ : Hp} {dflt : Int} {ps : Array (Int × Int)} : ystep Γ μ τ K J (.lookupswitch dflt ps) len pc lv st σ = (s1i st fun x r => (ps.toList.zip (ps.toList.drop 1)).all (fun (a, next) => a.1 < next.1) = true ∧ lkl x (fun o => jmp pc o fun t => J t lv r σ) ps.toList dflt) := rfl
theorem ok_lookupswitch {Γ : Cx} {μ : Mt} {τ : Tb} {K : Option Value → Hp → Prop} {J : Nat → Lv → List Value → Hp → Prop} {len pc : Nat} {lv : Lv} {st : List Value} {σ : Hp} {dflt : Int} {ps : Array (Int × Int)} (hτ : TbOK Γ μ τ) (hJ : ∀ pc lv st σ, J pc lv st σ → YG Γ μ K pc lv st σ) (hd : decode μ.2.2.1 pc = .ok ((.lookupswitch dflt ps), len)) (h : s1i st fun x r => (ps.toList.zip (ps.toList.drop 1)).all (fun (a, next) => a.1 < next.1) = true ∧ lkl x (fun o => jmp pc o fun t => J t lv r σ) ps.toList dflt) : YG Γ μ K pc lv st σ := by
  match st, h with
  | .int x :: r, h =>
    obtain ⟨h0, h1⟩ := h
    intro p e s m args below meth c H locs ls F B S hl
    obtain ⟨t, ht, h⟩ := jmp_spec (lkl_at h1)
    exact lv_lookup F.1 F.2.1 hd h0 rfl ht (hJ _ _ _ _ h p e s m args below meth c H locs ls F B S hl)
theorem st_invokevirtual {Γ : Cx} {μ : Mt} {τ : Tb} {K : Option Value → Hp → Prop} {J : Nat → Lv → List Value → Hp → Prop} {len pc : Nat} {lv : Lv} {st : List Value} {σ : Hp} {i : Nat} : ystep Γ μ τ K J (.invokevirtual i) len pc lv st σ = (len = 3 ∧ (match τ.2.2 0 i with | some (n, true, sp) => csum (st.drop n) ≤ 8 ∧ sp (st.take n).reverse σ (fun v σ' => J (pc + 3) lv (v.toList ++ st.drop n) σ') | some (n, false, sp) => csum (st.drop n) ≤ 8 ∧ sp (st.take n).reverse σ (fun v σ' => YG Γ μ K (pc + 3) lv (v.toList ++ st.drop n) σ') | none => False)) := rfl
theorem ok_invokevirtual {Γ : Cx} {μ : Mt} {τ : Tb} {K : Option Value → Hp → Prop} {J : Nat → Lv → List Value → Hp → Prop} {len pc : Nat} {lv : Lv} {st : List Value} {σ : Hp} {i : Nat} (hτ : TbOK Γ μ τ) (hJ : ∀ pc lv st σ, J pc lv st σ → YG Γ μ K pc lv st σ) (hd : decode μ.2.2.1 pc = .ok ((.invokevirtual i), len)) (h : len = 3 ∧ (match τ.2.2 0 i with | some (n, true, sp) => csum (st.drop n) ≤ 8 ∧ sp (st.take n).reverse σ (fun v σ' => J (pc + 3) lv (v.toList ++ st.drop n) σ') | some (n, false, sp) => csum (st.drop n) ≤ 8 ∧ sp (st.take n).reverse σ (fun v σ' => YG Γ μ K (pc + 3) lv (v.toList ++ st.drop n) σ') | none => False)) : YG Γ μ K pc lv st σ := by
  obtain ⟨rfl, h⟩ := h
  split at h
  · next n sp e0 =>
    exact (hτ.2.2.2.2 _ _ _ _ _ e0).1 K pc lv st σ hd h.1 ((hτ.2.2.2.2 _ _ _ _ _ e0).2 rfl _ _ _ _ (fun v σ' hk => hJ _ _ _ _ hk) h.2)
  · next n sp e0 =>
    exact (hτ.2.2.2.2 _ _ _ _ _ e0).1 K pc lv st σ hd h.1 h.2
  · exact h.elim
theorem st_invokestatic {Γ : Cx} {μ : Mt} {τ : Tb} {K : Option Value → Hp → Prop} {J : Nat → Lv → List Value → Hp → Prop} {len pc : Nat} {lv : Lv} {st : List Value} {σ : Hp} {i : Nat} : ystep Γ μ τ K J (.invokestatic i) len pc lv st σ = (len = 3 ∧ (match τ.2.2 1 i with | some (n, true, sp) => csum (st.drop n) ≤ 8 ∧ sp (st.take n).reverse σ (fun v σ' => J (pc + 3) lv (v.toList ++ st.drop n) σ') | some (n, false, sp) => csum (st.drop n) ≤ 8 ∧ sp (st.take n).reverse σ (fun v σ' => YG Γ μ K (pc + 3) lv (v.toList ++ st.drop n) σ') | none => False)) := rfl
theorem ok_invokestatic {Γ : Cx} {μ : Mt} {τ : Tb} {K : Option Value → Hp → Prop} {J : Nat → Lv → List Value → Hp → Prop} {len pc : Nat} {lv : Lv} {st : List Value} {σ : Hp} {i : Nat} (hτ : TbOK Γ μ τ) (hJ : ∀ pc lv st σ, J pc lv st σ → YG Γ μ K pc lv st σ) (hd : decode μ.2.2.1 pc = .ok ((.invokestatic i), len)) (h : len = 3 ∧ (match τ.2.2 1 i with | some (n, true, sp) => csum (st.drop n) ≤ 8 ∧ sp (st.take n).reverse σ (fun v σ' => J (pc + 3) lv (v.toList ++ st.drop n) σ') | some (n, false, sp) => csum (st.drop n) ≤ 8 ∧ sp (st.take n).reverse σ (fun v σ' => YG Γ μ K (pc + 3) lv (v.toList ++ st.drop n) σ') | none => False)) : YG Γ μ K pc lv st σ := by
  obtain ⟨rfl, h⟩ := h
  split at h
  · next n sp e0 =>
    exact (hτ.2.2.2.2 _ _ _ _ _ e0).1 K pc lv st σ hd h.1 ((hτ.2.2.2.2 _ _ _ _ _ e0).2 rfl _ _ _ _ (fun v σ' hk => hJ _ _ _ _ hk) h.2)
  · next n sp e0 =>
    exact (hτ.2.2.2.2 _ _ _ _ _ e0).1 K pc lv st σ hd h.1 h.2
  · exact h.elim
theorem st_invokespecial {Γ : Cx} {μ : Mt} {τ : Tb} {K : Option Value → Hp → Prop} {J : Nat → Lv → List Value → Hp → Prop} {len pc : Nat} {lv : Lv} {st : List Value} {σ : Hp} {i : Nat} : ystep Γ μ τ K J (.invokespecial i) len pc lv st σ = (len = 3 ∧ (match τ.2.2 2 i with | some (n, true, sp) => csum (st.drop n) ≤ 8 ∧ sp (st.take n).reverse σ (fun v σ' => J (pc + 3) lv (v.toList ++ st.drop n) σ') | some (n, false, sp) => csum (st.drop n) ≤ 8 ∧ sp (st.take n).reverse σ (fun v σ' => YG Γ μ K (pc + 3) lv (v.toList ++ st.drop n) σ') | none => False)) := rfl
theorem ok_invokespecial {Γ : Cx} {μ : Mt} {τ : Tb} {K : Option Value → Hp → Prop} {J : Nat → Lv → List Value → Hp → Prop} {len pc : Nat} {lv : Lv} {st : List Value} {σ : Hp} {i : Nat} (hτ : TbOK Γ μ τ) (hJ : ∀ pc lv st σ, J pc lv st σ → YG Γ μ K pc lv st σ) (hd : decode μ.2.2.1 pc = .ok ((.invokespecial i), len)) (h : len = 3 ∧ (match τ.2.2 2 i with | some (n, true, sp) => csum (st.drop n) ≤ 8 ∧ sp (st.take n).reverse σ (fun v σ' => J (pc + 3) lv (v.toList ++ st.drop n) σ') | some (n, false, sp) => csum (st.drop n) ≤ 8 ∧ sp (st.take n).reverse σ (fun v σ' => YG Γ μ K (pc + 3) lv (v.toList ++ st.drop n) σ') | none => False)) : YG Γ μ K pc lv st σ := by
  obtain ⟨rfl, h⟩ := h
  split at h
  · next n sp e0 =>
    exact (hτ.2.2.2.2 _ _ _ _ _ e0).1 K pc lv st σ hd h.1 ((hτ.2.2.2.2 _ _ _ _ _ e0).2 rfl _ _ _ _ (fun v σ' hk => hJ _ _ _ _ hk) h.2)
  · next n sp e0 =>
    exact (hτ.2.2.2.2 _ _ _ _ _ e0).1 K pc lv st σ hd h.1 h.2
  · exact h.elim
theorem ystep_ok {Γ : Cx} {μ : Mt} {τ : Tb} {K : Option Value → Hp → Prop} {J : Nat → Lv → List Value → Hp → Prop} {len pc : Nat} {lv : Lv} {st : List Value} {σ : Hp} {ins : Instr} (hτ : TbOK Γ μ τ) (hJ : ∀ pc lv st σ, J pc lv st σ → YG Γ μ K pc lv st σ) (hd : decode μ.2.2.1 pc = .ok (ins, len)) (h : ystep Γ μ τ K J ins len pc lv st σ) : YG Γ μ K pc lv st σ := by
  cases ins
  case iadd => exact ok_iadd hτ hJ hd h
  case isub => exact ok_isub hτ hJ hd h
  case imul => exact ok_imul hτ hJ hd h
  case iand => exact ok_iand hτ hJ hd h
  case ior => exact ok_ior hτ hJ hd h
  case idiv => exact ok_idiv hτ hJ hd h
  case irem => exact ok_irem hτ hJ hd h
  case ishl => exact ok_ishl hτ hJ hd h
  case ishr => exact ok_ishr hτ hJ hd h
  case iushr => exact ok_iushr hτ hJ hd h
  case ladd => exact ok_ladd hτ hJ hd h
  case lmul => exact ok_lmul hτ hJ hd h
  case land => exact ok_land hτ hJ hd h
  case lor => exact ok_lor hτ hJ hd h
  case lshl => exact ok_lshl hτ hJ hd h
  case lshr => exact ok_lshr hτ hJ hd h
  case i2l => exact ok_i2l hτ hJ hd h
  case l2i => exact ok_l2i hτ hJ hd h
  case i2b => exact ok_i2b hτ hJ hd h
  case i2s => exact ok_i2s hτ hJ hd h
  case i2c => exact ok_i2c hτ hJ hd h
  case iconst => exact ok_iconst hτ hJ hd h
  case bipush => exact ok_bipush hτ hJ hd h
  case sipush => exact ok_sipush hτ hJ hd h
  case lconst => exact ok_lconst hτ hJ hd h
  case iload_n => exact ok_iload_n hτ hJ hd h
  case iload => exact ok_iload hτ hJ hd h
  case aload_n => exact ok_aload_n hτ hJ hd h
  case aload => exact ok_aload hτ hJ hd h
  case lload_n => exact ok_lload_n hτ hJ hd h
  case lload => exact ok_lload hτ hJ hd h
  case istore_n => exact ok_istore_n hτ hJ hd h
  case istore => exact ok_istore hτ hJ hd h
  case astore_n => exact ok_astore_n hτ hJ hd h
  case astore => exact ok_astore hτ hJ hd h
  case iinc => exact ok_iinc hτ hJ hd h
  case dup => exact ok_dup hτ hJ hd h
  case pop => exact ok_pop hτ hJ hd h
  case dup2 => exact ok_dup2 hτ hJ hd h
  case goto => exact ok_goto hτ hJ hd h
  case ifCond => exact ok_ifCond hτ hJ hd h
  case if_icmp => exact ok_if_icmp hτ hJ hd h
  case lcmp => exact ok_lcmp hτ hJ hd h
  case ldc => exact ok_ldc hτ hJ hd h
  case ldc_w => exact ok_ldc_w hτ hJ hd h
  case ldc2_w => exact ok_ldc2_w hτ hJ hd h
  case getfield => exact ok_getfield hτ hJ hd h
  case putfield => exact ok_putfield hτ hJ hd h
  case iaload => exact ok_iaload hτ hJ hd h
  case arraylength => exact ok_arraylength hτ hJ hd h
  case laload => exact ok_laload hτ hJ hd h
  case aaload => exact ok_aaload hτ hJ hd h
  case iastore => exact ok_iastore hτ hJ hd h
  case lastore => exact ok_lastore hτ hJ hd h
  case aastore => exact ok_aastore hτ hJ hd h
  case ireturn => exact ok_ireturn hτ hJ hd h
  case return_ => exact ok_return hτ hJ hd h
  case tableswitch => exact ok_tableswitch hτ hJ hd h
  case lookupswitch => exact ok_lookupswitch hτ hJ hd h
  case invokevirtual => exact ok_invokevirtual hτ hJ hd h
  case invokestatic => exact ok_invokestatic hτ hJ hd h
  case invokespecial => exact ok_invokespecial hτ hJ hd h
  all_goals exact False.elim h
def yvc (Γ : Cx) (μ : Mt) (τ : Tb) (K : Option Value → Hp → Prop) (S : List Nat) : Nat → Nat → Lv → List Value → Hp → Prop
  | 0, pc, lv, st, σ => YG Γ μ K pc lv st σ
  | n + 1, pc, lv, st, σ => if S.elem pc = true then YG Γ μ K pc lv st σ else (match decode μ.2.2.1 pc with | .ok (ins, len) => ystep Γ μ τ K (yvc Γ μ τ K S n) ins len pc lv st σ | _ => False)
/-- the first instruction in any case, then on to the points of S -/
def yvc1 (Γ : Cx) (μ : Mt) (τ : Tb) (K : Option Value → Hp → Prop) (S : List Nat) (n pc : Nat) (lv : Lv) (st : List Value) (σ : Hp) : Prop := match decode μ.2.2.1 pc with | .ok (ins, len) => ystep Γ μ τ K (yvc Γ μ τ K S n) ins len pc lv st σ | _ => False
theorem yvc_ok {Γ : Cx} {μ : Mt} {τ : Tb} {K : Option Value → Hp → Prop} {S : List Nat} (hτ : TbOK Γ μ τ) : ∀ (n pc : Nat) (lv : Lv) (st : List Value) (σ : Hp), yvc Γ μ τ K S n pc lv st σ → YG Γ μ K pc lv st σ
  | 0, pc, lv, st, σ, h => h
  | n + 1, pc, lv, st, σ, h => by
    unfold yvc at h
    split at h
    · exact h
    · split at h
      · next ins len e0 => exact ystep_ok hτ (yvc_ok hτ n) e0 h
      · exact h.elim
theorem yvc1_ok {Γ : Cx} {μ : Mt} {τ : Tb} {K : Option Value → Hp → Prop} {S : List Nat} (hτ : TbOK Γ μ τ) (n : Nat) {pc : Nat} {lv : Lv} {st : List Value} {σ : Hp} (h : yvc1 Γ μ τ K S n pc lv st σ) : YG Γ μ K pc lv st σ := by
  unfold yvc1 at h
  split at h
  · next ins len e0 => exact ystep_ok hτ (yvc_ok hτ n) e0 h
  · exact h.elim
theorem yvc_s {Γ : Cx} {μ : Mt} {τ : Tb} {K : Option Value → Hp → Prop} {S : List Nat} {n pc : Nat} {lv : Lv} {st : List Value} {σ : Hp} : yvc Γ μ τ K S (n + 1) pc lv st σ = (if S.elem pc = true then YG Γ μ K pc lv st σ else (match decode μ.2.2.1 pc with | .ok (ins, len) => ystep Γ μ τ K (yvc Γ μ τ K S n) ins len pc lv st σ | _ => False)) := rfl
end
section
/-! ===== CONTRACTS AND CALLS over the frame ===== -/
def Bp (Γ : Cx) (σ : Hp) (U : State) : Prop := Bq Γ σ U.heap ∧ EV Γ U U.heap ∧ ∀ q, U.heap.size ≤ q → Γ.2.2.1 q
def wsm (y : MethodName) (μ : Mt) : List Cond := .code y μ.2.2.1 μ.2.2.2.1 μ.2.2.2.2.1 :: BW
/-- the contract of method y, described by μ, with spec sp; it makes no cell -/
def Ok (Γ : Cx) (y : MethodName) (μ : Mt) (sp : YSp) : Prop := ∀ (av : List Value) (σ : Hp) (K : Option Value → Hp → Prop), sp av σ K → Met Γ.1 y (wsm y μ) μ.1 (va_Pc av (Bp Γ σ)) (Qk Γ K) 0 0 Γ.2.2.1
theorem ok_intro {Γ : Cx} {y : MethodName} {μ : Mt} {sp : YSp} (hy : plainName y.cls = true) (ho : y.cls = μ.2.1) (h0 : μ.2.2.2.2.2.1 = (0, 0))
    (h : ∀ (av : List Value) (σ : Hp) (K : Option Value → Hp → Prop), sp av σ K → (lg_sl av).length ≤ μ.2.2.2.1 ∧ YG Γ μ K 0 (lv_args 0 av) [] σ) : Ok Γ y μ sp := by
  intro av σ K hs
  obtain ⟨hn, hG⟩ := h av σ K hs
  refine Met.ofW (cc := μ.2.2.1) (maxL := μ.2.2.2.1) (ret := μ.2.2.2.2.1) hy rfl ?_
  intro p e s m args below meth c s₁ B hml hv
  obtain ⟨rfl, hB, hE, hA⟩ := hv
  have hts := atoms_spec (ws := wsm y μ) B.pre
  have hown : s.vm.findClass y.cls = some m.cls := findClass_of_methodNamed B.named
  have hl := lv_entry av (n := μ.2.2.2.1) hn
  rw [lg_entry_eq]
  have F : Fx Γ μ p s m av.toArray meth c := ⟨B.exec, B.bytes, hml, by rw [← ho]; exact hown, fun w hw => hts w (List.mem_cons_of_mem _ hw), B.returns, B.notSynchronized, hE, hA⟩
  have := hG p e s m av.toArray below meth c s.heap [] _ F hB va_S.rf hl
  rw [h0] at this
  exact this
theorem pc_blind {Γ : Cx} {av : List Value} {σ : Hp} : FrameBlind (va_Pc av (Bp Γ σ)) := fun a U g mk q => ⟨q.1, q.2.1, EV.same (s := U) (U := U.calling g mk a) (H := U.heap) rfl q.2.2.1, q.2.2.2⟩
section CALLK
variable {Γ : Cx} {p : Program} {l : Launch} {e : Env} {R : Room} {s : State} {m : MethodId} {args : Array Value} {below : List Frame} {meth : Method} {c : Code} {H : Heap} {locs : List Loc} {cells slots : Nat} {Q : State → Prop} {pc : Nat} {ls : Array Slot} {rest st0 : List Value} {a : Array Value} {K' : Option Value → Hp → Prop}
theorem va_callk (hr : va_Run p l e R s m args below meth c H locs cells slots 0 0 (F0 m pc ls st0) rest (Qk Γ K' a) Γ.2.2.1) (hS : va_S Γ.2.2.1 s.heap H locs)
    (kk : ∀ (v : Option Value) (σ : Hp) (H1 : Heap) (locs1 : List Loc), K' v σ → Bq Γ σ H1 → va_S Γ.2.2.1 s.heap H1 locs1 → W p l e R s m args below meth c H1 locs1 cells slots Q (F0 m (pc + 3) ls (v.toList ++ rest))) : W p l e R s m args below meth c H locs cells slots Q (F0 m pc ls st0) := by
  intro T hT X
  obtain ⟨v, st₀, t, T', L, h0, X', hL, e1, e2, ⟨⟨v', σ', hv, hp, hb⟩, hz, hk⟩, st⟩ := hr T hT X
  cases hv
  rw [h0] at hz hk
  obtain ⟨t2, a1, b1⟩ := kk v σ' T'.heap (locs ++ L) hp (by rw [e1]; exact hb)
    ⟨Nat.le_trans hS.1 (by rw [e1]; exact hz), fun q h1 h2 => by rw [e1, hk q (Nat.lt_of_lt_of_le h1 hS.1) h2]; exact hS.2.1 q h1 h2, fun q hq => by
      rcases List.mem_append.mp hq with h | h
      · exact hS.2.2 q h
      · exact hL q h⟩ T' rfl X'
  exact ⟨t2, st t2 a1, b1⟩
end CALLK
/-- what a call's arguments must be: a receiver of class number ci in our cells, and n more -/
def Recv (sp : YSp) (n ci : Nat) : Prop := ∀ (av : List Value) (σ : Hp) (K : Option Value → Hp → Prop), sp av σ K → ∃ (b : Nat) (As : List Value) (fs : List Value), av = .ref b :: As ∧ As.length = n ∧ b ∈ σ.1 ∧ σ.2 b = .inr (ci, fs)
def Args (sp : YSp) (n : Nat) : Prop := ∀ (av : List Value) (σ : Hp) (K : Option Value → Hp → Prop), sp av σ K → av.length = n
theorem take_rev {st av : List Value} {n : Nat} (h : (st.take n).reverse = av) : st = av.reverse ++ st.drop n := by
  rw [← h, List.reverse_reverse, List.take_append_drop]
theorem csum_room {m : MethodId} {pc : Nat} {ls : Array Slot} {rest st : List Value} (h : csum st ≤ 8) : 2 * (F0 m pc ls rest).monitorRoom + (st.map fun v => v.category).sum ≤ 8 := lv_room (by rw [csum_cat]; exact h)
theorem wsm_good {y : MethodName} {μ : Mt} (hc : Cond.code y μ.2.2.1 μ.2.2.2.1 μ.2.2.2.2.1 ∈ BW) : GoodIn BW (wsm y μ) := fun w h => (List.mem_cons.mp h).elim (fun z => by rw [z]; exact bw_good _ hc) (fun h => bw_good w h)
theorem good_app {a b : List Cond} (ha : ∀ w ∈ a, w ∈ BW) (hb : GoodIn BW b) : GoodIn BW (a ++ b) := fun w h => (List.mem_append.mp h).elim (fun h => bw_good w (ha w h)) (hb w)
def RoomOK (μ μ' : Mt) : Prop := (μ'.1.cells = 0 ∧ μ'.1.slots = 0) ∧ (μ'.1.frames + 1 ≤ μ.1.frames ∧ 8 + (μ'.2.2.2.1 + 11) + μ'.1.locals ≤ μ.1.locals) ∧ (μ.2.2.2.2.2.1.1 + 0 ≤ μ.1.cells ∧ μ.2.2.2.2.2.1.2 + 0 ≤ μ.1.slots)
def NameOK (y : MethodName) (n : Nat) : Prop := y.cls ≠ "java/lang/invoke/MethodHandle" ∧ y.cls ≠ "java/lang/invoke/VarHandle" ∧ (parseMethodDescriptor y.desc).map (fun d => d.parameters.length) = some n
theorem call_V {Γ : Cx} {μ μ' : Mt} {y : MethodName} {sp : YSp} {i n ci N : Nat} {T : u_T} (hOk : Ok Γ y μ' sp) (hrv : Recv sp n ci) (hci : kcl[ci]? = some (y.cls, T, N)) (hc : Cond.code y μ'.2.2.1 μ'.2.2.2.1 μ'.2.2.2.2.1 ∈ BW)
    (h1 : Cond.methodLink μ.2.1 i y ∈ BW) (h2 : Cond.instanceMethod y ∈ BW) (h3 : Cond.selects y.cls y y ∈ BW) (h4 : Cond.initialized y.cls ∈ BW) (hN : NameOK y n) (hR : RoomOK μ μ') : CallOK Γ μ 0 i (n + 1) sp := by
  intro K pc lv st σ hd hcs hsp
  obtain ⟨b, As, fs, hav, hn, hb, hfs⟩ := hrv _ _ _ hsp
  have hst := take_rev hav
  rw [hav] at hsp
  generalize st.drop (n + 1) = rest at hst hcs hsp
  intro p e s m args below meth c H locs ls F B S hl
  obtain ⟨q0, hq⟩ := va_pl_get (X := []) (f := σ.2) hb
  rw [hfs] at hq
  have hwG : GoodIn BW (wsV μ.2.1 i y.cls y (wsm y μ')) := good_app (by
    intro w hw
    simp only [List.mem_cons, List.not_mem_nil, or_false] at hw
    rcases hw with rfl | rfl | rfl | rfl
    · exact h1
    · exact h2
    · exact h3
    · exact h4) (wsm_good hc)
  refine va_callk (va_runV (As := As) (rest := rest) (b := b) ⟨F.1, F.2.1, F.2.2.1, F.2.2.2.1, F.2.2.2.2.1⟩ (hOk _ σ _ hsp) (cwV n F.2.2.2.2.1 hwG rfl hR.1.1 hR.1.2 ⟨rfl, hN⟩ hR.2.1)
    ⟨pc_blind, va_recv F.2.2.2.2.2.2.2.1.1 B.1 hci hq, fun U hU hW => ⟨rfl, by rw [hU]; exact B, (by rw [hU]; exact (F.2.2.2.2.2.2.2.1.kept S.2.1).warm hW), fun q hq => F.2.2.2.2.2.2.2.2 q (Nat.le_trans S.1 (by rw [← hU]; exact hq))⟩⟩
    rfl hn hl.1 (by rw [hst]; simp) (csum_room hcs) hd hR.2.2) S (fun v σ' H1 locs1 hk hB hS' => ?_)
  exact hk p e s m args below meth c H1 locs1 ls F hB hS' hl
theorem call_S {Γ : Cx} {μ μ' : Mt} {y : MethodName} {sp : YSp} {i n : Nat} (hOk : Ok Γ y μ' sp) (hrv : Args sp n) (hc : Cond.code y μ'.2.2.1 μ'.2.2.2.1 μ'.2.2.2.2.1 ∈ BW)
    (h1 : Cond.methodLink μ.2.1 i y ∈ BW) (h2 : Cond.static y ∈ BW) (h4 : Cond.initialized y.cls ∈ BW) (hN : NameOK y n) (hR : RoomOK μ μ') : CallOK Γ μ 1 i n sp := by
  intro K pc lv st σ hd hcs hsp
  have hn := hrv _ _ _ hsp
  have hst := take_rev (st := st) (n := n) rfl
  generalize (st.take n).reverse = As at hst hsp hn
  generalize st.drop n = rest at hst hcs hsp
  intro p e s m args below meth c H locs ls F B S hl
  have hwG : GoodIn BW (va_wsS μ.2.1 i y (wsm y μ')) := good_app (by
    intro w hw
    simp only [List.mem_cons, List.not_mem_nil, or_false] at hw
    rcases hw with rfl | rfl | rfl
    · exact h1
    · exact h2
    · exact h4) (wsm_good hc)
  refine va_callk (va_runS (As := As) (rest := rest) ⟨F.1, F.2.1, F.2.2.1, F.2.2.2.1, F.2.2.2.2.1⟩ (hOk _ σ _ hsp) (va_cwS n F.2.2.2.2.1 hwG rfl hR.1.1 hR.1.2 hN hR.2.1)
    ⟨pc_blind, fun U hU hW => ⟨rfl, by rw [hU]; exact B, (by rw [hU]; exact (F.2.2.2.2.2.2.2.1.kept S.2.1).warm hW), fun q hq => F.2.2.2.2.2.2.2.2 q (Nat.le_trans S.1 (by rw [← hU]; exact hq))⟩⟩
    rfl hn hl.1 hst (csum_room hcs) hd hR.2.2) S (fun v σ' H1 locs1 hk hB hS' => ?_)
  exact hk p e s m args below meth c H1 locs1 ls F hB hS' hl
/-- a private static method of a nest mate -/
theorem call_SN {Γ : Cx} {μ μ' : Mt} {y : MethodName} {sp : YSp} {i n : Nat} {host : String} (hOk : Ok Γ y μ' sp) (hrv : Args sp n) (hc : Cond.code y μ'.2.2.1 μ'.2.2.2.1 μ'.2.2.2.2.1 ∈ BW)
    (h1 : Cond.methodLinkNest μ.2.1 i y host ∈ nestW) (h2 : Cond.static y ∈ BW) (h4 : Cond.initialized y.cls ∈ BW) (hN : NameOK y n) (hR : RoomOK μ μ') : CallOK Γ μ 1 i n sp := by
  intro K pc lv st σ hd hcs hsp
  have hn := hrv _ _ _ hsp
  have hst := take_rev (st := st) (n := n) rfl
  generalize (st.take n).reverse = As at hst hsp hn
  generalize st.drop n = rest at hst hcs hsp
  intro p e s m args below meth c H locs ls F B S hl
  refine va_callk (va_runSN (As := As) (rest := rest) ⟨F.1, F.2.1, F.2.2.1, F.2.2.2.1, F.2.2.2.2.1⟩ (hOk _ σ _ hsp) ⟨va_cnB n F.2.2.2.2.1 (wsm_good hc) rfl hR.1.1 hR.1.2 (F.2.2.2.2.2.2.2.1.2.1 _ h1) (F.2.2.2.2.1 _ h4) hN hR.2.1, F.2.2.2.2.1 _ h2, trivial⟩
    ⟨pc_blind, fun U hU hW => ⟨rfl, by rw [hU]; exact B, (by rw [hU]; exact (F.2.2.2.2.2.2.2.1.kept S.2.1).warm hW), fun q hq => F.2.2.2.2.2.2.2.2 q (Nat.le_trans S.1 (by rw [← hU]; exact hq))⟩⟩
    rfl hn hl.1 hst (csum_room hcs) hd hR.2.2) S (fun v σ' H1 locs1 hk hB hS' => ?_)
  exact hk p e s m args below meth c H1 locs1 ls F hB hS' hl
/-- a method that the receiver's class (number ci) has from the class of y -/
theorem call_U {Γ : Cx} {μ μ' : Mt} {x y : MethodName} {sp : YSp} {i n : Nat} (cis : List (Nat × String × u_T × Nat)) (hOk : Ok Γ y μ' sp) (hrv : ∀ (av : List Value) (σ : Hp) (K : Option Value → Hp → Prop), sp av σ K → ∃ (b : Nat) (As : List Value) (fs : List Value) (ci : Nat × String × u_T × Nat), ci ∈ cis ∧ av = .ref b :: As ∧ As.length = n ∧ b ∈ σ.1 ∧ σ.2 b = .inr (ci.1, fs)) (hci : ∀ ci ∈ cis, kcl[ci.1]? = some (ci.2.1, ci.2.2.1, ci.2.2.2) ∧ Cond.selects ci.2.1 x y ∈ BW) (hc : Cond.code y μ'.2.2.1 μ'.2.2.2.1 μ'.2.2.2.2.1 ∈ BW)
    (h1 : Cond.methodLink μ.2.1 i x ∈ BW) (h0 : Cond.sameMethod x.cls y.cls x.name x.desc ∈ BW) (h2 : Cond.instanceMethod y ∈ BW) (h4 : Cond.initialized y.cls ∈ BW) (hyx : y = ⟨y.cls, x.name, x.desc⟩) (hN : y.cls ≠ "java/lang/invoke/MethodHandle" ∧ y.cls ≠ "java/lang/invoke/VarHandle" ∧ (parseMethodDescriptor x.desc).map (fun d => d.parameters.length) = some n) (hR : RoomOK μ μ') : CallOK Γ μ 0 i (n + 1) sp := by
  intro K pc lv st σ hd hcs hsp
  obtain ⟨b, As, fs, ci, hin, hav, hn, hb, hfs⟩ := hrv _ _ _ hsp
  obtain ⟨hk0, h3⟩ := hci ci hin
  have hst := take_rev hav
  rw [hav] at hsp
  generalize st.drop (n + 1) = rest at hst hcs hsp
  intro p e s m args below meth c H locs ls F B S hl
  obtain ⟨q0, hq⟩ := va_pl_get (X := []) (f := σ.2) hb
  rw [hfs] at hq
  have hwG : GoodIn BW (va_wsU μ.2.1 i ci.2.1 y.cls x y (wsm y μ')) := good_app (by
    intro w hw
    simp only [List.mem_cons, List.not_mem_nil, or_false] at hw
    rcases hw with rfl | rfl | rfl | rfl | rfl
    · exact h1
    · exact h0
    · exact h3
    · exact h2
    · exact h4) (wsm_good hc)
  refine va_callk (va_runU (As := As) (rest := rest) (b := b) ⟨F.1, F.2.1, F.2.2.1, F.2.2.2.1, F.2.2.2.2.1⟩ (hOk _ σ _ hsp) (va_cwU n F.2.2.2.2.1 hwG rfl hR.1.1 hR.1.2 hyx hN hR.2.1)
    ⟨pc_blind, va_recv F.2.2.2.2.2.2.2.1.1 B.1 hk0 hq, fun U hU hW => ⟨rfl, by rw [hU]; exact B, (by rw [hU]; exact (F.2.2.2.2.2.2.2.1.kept S.2.1).warm hW), fun q hq => F.2.2.2.2.2.2.2.2 q (Nat.le_trans S.1 (by rw [← hU]; exact hq))⟩⟩
    rfl hn hl.1 (by rw [hst]; simp) (csum_room hcs) hd hR.2.2) S (fun v σ' H1 locs1 hk hB hS' => ?_)
  exact hk p e s m args below meth c H1 locs1 ls F hB hS' hl
/-- Math.min -/
def sp_min : YSp := fun av σ K => match av with | [.int x, .int y] => K (some (.int (if y < x then y else x))) σ | _ => False
theorem mono_min : Mono sp_min := by
  intro av σ K K' hk h
  unfold sp_min at h ⊢
  split at h
  · exact hk _ _ h
  · exact h.elim
theorem call_min {Γ : Cx} {μ : Mt} {i : Nat} (h1 : Cond.methodLink μ.2.1 i Lib.Math.min.name ∈ BW) (h2 : Cond.static Lib.Math.min.name ∈ BW) (h3 : Cond.initialized "java/lang/Math" ∈ BW) (h4 : Cond.code Lib.Math.min.name Lib.Math.min.code 2 (some .int) ∈ BW)
    (hR : 1 ≤ μ.1.frames ∧ 21 ≤ μ.1.locals ∧ μ.2.2.2.2.2.1.1 ≤ μ.1.cells ∧ μ.2.2.2.2.2.1.2 ≤ μ.1.slots) : CallOK Γ μ 1 i 2 sp_min := by
  intro K pc lv st σ hd hcs hsp
  have hst := take_rev (st := st) (n := 2) rfl
  generalize (st.take 2).reverse = As at hst hsp
  generalize st.drop 2 = rest at hst hcs hsp
  unfold sp_min at hsp
  split at hsp
  · next x y =>
    subst hst
    intro p e s m args below meth c H locs ls F B S hl
    exact va_mmin F.1 F.2.1 (F.2.2.1.trans hl.1.symm) F.2.2.2.1 (F.2.2.2.2.1 _ h1) (F.2.2.2.2.1 _ h2) (F.2.2.2.2.1 _ h3) (F.2.2.2.2.1 _ h4) hR.1 (by rw [csum_cat]; show csum rest + 13 ≤ _; omega) hR.2.2.1 hR.2.2.2 hd (hsp p e s m args below meth c H locs ls F B S hl)
  · exact hsp.elim
/-- System.arraycopy of ints, of longs -/
def sp_cpyI (Γ : Cx) : YSp := fun av σ K => match av with
  | [.ref a, .int i, .ref b, .int j, .int n] => arI Γ σ a fun n0 f => arI Γ σ b fun n1 g => (¬ i < 0 ∧ ¬ j < 0 ∧ ¬ n < 0 ∧ i.toNatClampNeg + n.toNatClampNeg ≤ n0 ∧ j.toNatClampNeg + n.toNatClampNeg ≤ n1) ∧ K none (hput σ b (.inl (Γ.2.2.2.1 0, n1, .inl (va_cpy f g i.toNatClampNeg j.toNatClampNeg n.toNatClampNeg))))
  | _ => False
def sp_cpyL (Γ : Cx) : YSp := fun av σ K => match av with
  | [.ref a, .int i, .ref b, .int j, .int n] => arL Γ σ a fun n0 f => arL Γ σ b fun n1 g => (¬ i < 0 ∧ ¬ j < 0 ∧ ¬ n < 0 ∧ i.toNatClampNeg + n.toNatClampNeg ≤ n0 ∧ j.toNatClampNeg + n.toNatClampNeg ≤ n1) ∧ K none (hput σ b (.inl (Γ.2.2.2.1 1, n1, .inr (.inl (va_cpy f g i.toNatClampNeg j.toNatClampNeg n.toNatClampNeg)))))
  | _ => False
theorem arI_mono {Γ : Cx} {σ : Hp} {a : Nat} {k k' : Nat → (Nat → Int32) → Prop} (hk : ∀ n f, k n f → k' n f) (h : arI Γ σ a k) : arI Γ σ a k' := by
  obtain ⟨h1, h2⟩ := h
  refine ⟨h1, ?_⟩
  split at h2
  · next e0 => exact ⟨h2.1, hk _ _ h2.2⟩
  · exact h2.elim
theorem arL_mono {Γ : Cx} {σ : Hp} {a : Nat} {k k' : Nat → (Nat → Int64) → Prop} (hk : ∀ n f, k n f → k' n f) (h : arL Γ σ a k) : arL Γ σ a k' := by
  obtain ⟨h1, h2⟩ := h
  refine ⟨h1, ?_⟩
  split at h2
  · next e0 => exact ⟨h2.1, hk _ _ h2.2⟩
  · exact h2.elim
theorem mono_cpyI {Γ : Cx} : Mono (sp_cpyI Γ) := by
  intro av σ K K' hk h
  unfold sp_cpyI at h ⊢
  split at h
  · exact arI_mono (fun _ _ h => arI_mono (fun _ _ h => ⟨h.1, hk _ _ h.2⟩) h) h
  · exact h.elim
theorem mono_cpyL {Γ : Cx} : Mono (sp_cpyL Γ) := by
  intro av σ K K' hk h
  unfold sp_cpyL at h ⊢
  split at h
  · exact arL_mono (fun _ _ h => arL_mono (fun _ _ h => ⟨h.1, hk _ _ h.2⟩) h) h
  · exact h.elim
theorem call_cpyI {Γ : Cx} {μ : Mt} {i : Nat} (h1 : Cond.methodLink μ.2.1 i arraycopyName ∈ BW) (h2 : Cond.native arraycopyName ∈ BW) (h3 : Cond.static arraycopyName ∈ BW) (h4 : Cond.initialized "java/lang/System" ∈ BW)
    (hR : 1 ≤ μ.1.frames ∧ 8 + (nativeFrameWords "java/lang/System" "arraycopy" 5 + 11) ≤ μ.1.locals) : CallOK Γ μ 1 i 5 (sp_cpyI Γ) := by
  intro K pc lv st σ hd hcs hsp
  have hst := take_rev (st := st) (n := 5) rfl
  generalize (st.take 5).reverse = As at hst hsp
  generalize st.drop 5 = rest at hst hcs hsp
  unfold sp_cpyI at hsp
  split at hsp
  · next a sp b dp n =>
    subst hst
    obtain ⟨ha, hsp⟩ := hsp
    split at hsp
    · next cA n0 f e0 =>
      obtain ⟨rfl, hb, hsp⟩ := hsp
      split at hsp
      · next cB n1 g e1 =>
        obtain ⟨rfl, ⟨g1, g2, g3, g4, g5⟩, hsp⟩ := hsp
        intro p e s m args below meth c H locs ls F B S hl
        obtain ⟨q0, hq0⟩ := va_pl_get (X := []) (f := σ.2) ha
        obtain ⟨q1, hq1⟩ := va_pl_get (X := []) (f := σ.2) hb
        have hset := va_pl_set (X := []) (e := .inl (Γ.2.2.2.1 0, n1, .inl (va_cpy f g sp.toNatClampNeg dp.toNatClampNeg n.toNatClampNeg))) B.2 hb hq1
        rw [e0] at hq0
        rw [e1] at hq1
        refine va_copyi F.1 F.2.1 (F.2.2.1.trans hl.1.symm) F.2.2.2.1 (F.2.2.2.2.1 _ h1) (F.2.2.2.2.1 _ h2) (F.2.2.2.2.1 _ h3) (F.2.2.2.2.1 _ h4) F.2.2.2.2.2.2.2.1.1 B.1 B.2 S q0 q1 0 0 hq0 hq1 rfl rfl rfl g1 g2 g3 g4 g5 (fun _ _ => rfl) hR.1 (by rw [csum_cat]; show csum rest + _ ≤ _; omega) hd (fun H1 locs1 hP1 hD1 hS1 => ?_)
        simp only [List.nil_append] at hset
        rw [hset] at hP1 hD1
        exact hsp p e s m args below meth c H1 locs1 ls F ⟨hP1, hD1⟩ hS1 hl
      · exact hsp.elim
    · exact hsp.elim
  · exact hsp.elim
theorem call_cpyL {Γ : Cx} {μ : Mt} {i : Nat} (h1 : Cond.methodLink μ.2.1 i arraycopyName ∈ BW) (h2 : Cond.native arraycopyName ∈ BW) (h3 : Cond.static arraycopyName ∈ BW) (h4 : Cond.initialized "java/lang/System" ∈ BW)
    (hR : 1 ≤ μ.1.frames ∧ 8 + (nativeFrameWords "java/lang/System" "arraycopy" 5 + 11) ≤ μ.1.locals) : CallOK Γ μ 1 i 5 (sp_cpyL Γ) := by
  intro K pc lv st σ hd hcs hsp
  have hst := take_rev (st := st) (n := 5) rfl
  generalize (st.take 5).reverse = As at hst hsp
  generalize st.drop 5 = rest at hst hcs hsp
  unfold sp_cpyL at hsp
  split at hsp
  · next a sp b dp n =>
    subst hst
    obtain ⟨ha, hsp⟩ := hsp
    split at hsp
    · next cA n0 f e0 =>
      obtain ⟨rfl, hb, hsp⟩ := hsp
      split at hsp
      · next cB n1 g e1 =>
        obtain ⟨rfl, ⟨g1, g2, g3, g4, g5⟩, hsp⟩ := hsp
        intro p e s m args below meth c H locs ls F B S hl
        obtain ⟨q0, hq0⟩ := va_pl_get (X := []) (f := σ.2) ha
        obtain ⟨q1, hq1⟩ := va_pl_get (X := []) (f := σ.2) hb
        have hset := va_pl_set (X := []) (e := .inl (Γ.2.2.2.1 1, n1, .inr (.inl (va_cpy f g sp.toNatClampNeg dp.toNatClampNeg n.toNatClampNeg)))) B.2 hb hq1
        rw [e0] at hq0
        rw [e1] at hq1
        refine va_copyl F.1 F.2.1 (F.2.2.1.trans hl.1.symm) F.2.2.2.1 (F.2.2.2.2.1 _ h1) (F.2.2.2.2.1 _ h2) (F.2.2.2.2.1 _ h3) (F.2.2.2.2.1 _ h4) F.2.2.2.2.2.2.2.1.1 B.1 B.2 S q0 q1 1 1 hq0 hq1 rfl rfl rfl g1 g2 g3 g4 g5 (fun _ _ => rfl) hR.1 (by rw [csum_cat]; show csum rest + _ ≤ _; omega) hd (fun H1 locs1 hP1 hD1 hS1 => ?_)
        simp only [List.nil_append] at hset
        rw [hset] at hP1 hD1
        exact hsp p e s m args below meth c H1 locs1 ls F ⟨hP1, hD1⟩ hS1 hl
      · exact hsp.elim
    · exact hsp.elim
  · exact hsp.elim
/-! tables as lists -/
def fT (t : List ((Nat × Nat) × Nat × Nat)) (i ci : Nat) : Option (Nat × Nat) := (t.find? (fun q => q.1.1 == i && q.1.2 == ci)).map (fun q => q.2)
theorem fT_ok {own : String} {t : List ((Nat × Nat) × Nat × Nat)} (h : ∀ q ∈ t, FieldOK own q.1.1 q.1.2 q.2.1 q.2.2) : ∀ i ci k b : Nat, fT t i ci = some (k, b) → FieldOK own i ci k b := by
  intro i ci k b he
  unfold fT at he
  cases hf : t.find? (fun q => q.1.1 == i && q.1.2 == ci) with
  | none => rw [hf] at he; cases he
  | some q =>
    rw [hf] at he
    have h1 := List.find?_some hf
    have h2 := h q (List.mem_of_find?_eq_some hf)
    simp only [Bool.and_eq_true, beq_iff_eq] at h1
    have h3 : q.2 = (k, b) := Option.some.inj he
    rw [h1.1, h1.2, h3] at h2
    exact h2
def cT (t : List (Nat × (Int32 ⊕ Int64))) (i : Nat) : Option (Int32 ⊕ Int64) := (t.find? (fun q => q.1 == i)).map (fun q => q.2)
def conOK (own : String) (q : Nat × (Int32 ⊕ Int64)) : Prop := match q.2 with | .inl v => Cond.constant own q.1 v ∈ BW | .inr v => Cond.constantLong own q.1 v ∈ BW
theorem cT_ok {own : String} {t : List (Nat × (Int32 ⊕ Int64))} (h : ∀ q ∈ t, conOK own q) {i : Nat} {v : Int32 ⊕ Int64} (he : cT t i = some v) : conOK own (i, v) := by
  unfold cT at he
  cases hf : t.find? (fun q => q.1 == i) with
  | none => rw [hf] at he; cases he
  | some q =>
    rw [hf] at he
    have h1 := List.find?_some hf
    have h2 := h q (List.mem_of_find?_eq_some hf)
    simp only [beq_iff_eq] at h1
    have h3 : q.2 = v := Option.some.inj he
    rw [← h1, ← h3]
    exact h2
def kT (t : List ((Nat × Nat) × Nat × Bool × YSp)) (kd i : Nat) : Option (Nat × Bool × YSp) := (t.find? (fun q => q.1.1 == kd && q.1.2 == i)).map (fun q => q.2)
theorem kT_ok {Γ : Cx} {μ : Mt} {t : List ((Nat × Nat) × Nat × Bool × YSp)} (h : ∀ q ∈ t, CallOK Γ μ q.1.1 q.1.2 q.2.1 q.2.2.2 ∧ (q.2.2.1 = true → Mono q.2.2.2)) : ∀ (kd i n : Nat) (o : Bool) (sp : YSp), kT t kd i = some (n, o, sp) → CallOK Γ μ kd i n sp ∧ (o = true → Mono sp) := by
  intro kd i n o sp he
  unfold kT at he
  cases hf : t.find? (fun q => q.1.1 == kd && q.1.2 == i) with
  | none => rw [hf] at he; cases he
  | some q =>
    rw [hf] at he
    have h1 := List.find?_some hf
    have h2 := h q (List.mem_of_find?_eq_some hf)
    simp only [Bool.and_eq_true, beq_iff_eq] at h1
    have h3 : q.2 = (n, o, sp) := Option.some.inj he
    rw [h1.1, h1.2, h3] at h2
    exact h2
theorem tb_ok {Γ : Cx} {μ : Mt} {f : List ((Nat × Nat) × Nat × Nat)} {k : List (Nat × (Int32 ⊕ Int64))} {t : List ((Nat × Nat) × Nat × Bool × YSp)} (hf : ∀ q ∈ f, FieldOK μ.2.1 q.1.1 q.1.2 q.2.1 q.2.2) (hk : ∀ q ∈ k, conOK μ.2.1 q) (ht : ∀ q ∈ t, CallOK Γ μ q.1.1 q.1.2 q.2.1 q.2.2.2 ∧ (q.2.2.1 = true → Mono q.2.2.2)) : TbOK Γ μ (fT f, cT k, kT t) :=
  ⟨trivial, fun i v h => cT_ok hk h, fun i v h => cT_ok hk h, fT_ok hf, kT_ok ht⟩
theorem all_nil {α : Type} {P : α → Prop} : ∀ q ∈ ([] : List α), P q := fun _ h => absurd h List.not_mem_nil
theorem all_cons {α : Type} {P : α → Prop} {a : α} {l : List α} (h : P a) (t : ∀ q ∈ l, P q) : ∀ q ∈ a :: l, P q := List.forall_mem_cons.mpr ⟨h, t⟩
end
section
theorem wsIn_0 : ∀ w ∈ u_ws RX0 TX0 9, w ∈ BW := by decide +kernel
theorem wsIn_1 : ∀ w ∈ u_ws RX1 TX1 5, w ∈ BW := by decide +kernel
theorem wsIn_2 : ∀ w ∈ u_ws RX2 TX2 2, w ∈ BW := by decide +kernel
theorem wsIn_3 : ∀ w ∈ u_ws RX3 TX3 3, w ∈ BW := by decide +kernel
theorem wsIn_4 : ∀ w ∈ u_ws RX4 TX4 3, w ∈ BW := by decide +kernel
theorem wsIn_5 : ∀ w ∈ u_ws RX5 TX5 3, w ∈ BW := by decide +kernel
theorem wsIn_6 : ∀ w ∈ u_ws RX6 TX6 9, w ∈ BW := by decide +kernel
theorem wsIn_7 : ∀ w ∈ u_ws RX7 TX7 26, w ∈ BW := by decide +kernel
theorem bw_75 : Cond.fieldLink RX0 9 "YawnKeys$College" "kinds" "[I" ∈ BW := bw_i 75 (by decide +kernel) (by decide +kernel)
theorem bw_76 : Cond.fieldLink RX6 85 "YawnKeys$College" "kinds" "[I" ∈ BW := bw_i 76 (by decide +kernel) (by decide +kernel)
theorem bw_77 : Cond.fieldLink RX0 15 "YawnKeys$College" "people" "I" ∈ BW := bw_i 77 (by decide +kernel) (by decide +kernel)
theorem bw_78 : Cond.fieldLink RX3 22 "YawnKeys$College" "people" "I" ∈ BW := bw_i 78 (by decide +kernel) (by decide +kernel)
theorem bw_79 : Cond.fieldLink RX6 61 "YawnKeys$College" "people" "I" ∈ BW := bw_i 79 (by decide +kernel) (by decide +kernel)
theorem bw_80 : Cond.fieldLink RX5 52 "YawnKeys$College" "people" "I" ∈ BW := bw_i 80 (by decide +kernel) (by decide +kernel)
theorem bw_81 : Cond.fieldLink RX0 19 "YawnKeys$College" "rule" "I" ∈ BW := bw_i 81 (by decide +kernel) (by decide +kernel)
theorem bw_82 : Cond.fieldLink RX6 72 "YawnKeys$College" "rule" "I" ∈ BW := bw_i 82 (by decide +kernel) (by decide +kernel)
theorem bw_83 : Cond.fieldLink RX5 47 "YawnKeys$College" "rule" "I" ∈ BW := bw_i 83 (by decide +kernel) (by decide +kernel)
theorem bw_84 : Cond.fieldLink RX0 22 "YawnKeys$College" "goneDoors" "I" ∈ BW := bw_i 84 (by decide +kernel) (by decide +kernel)
theorem bw_85 : Cond.fieldLink RX1 9 "YawnKeys$Moment" "wants" "[I" ∈ BW := bw_i 85 (by decide +kernel) (by decide +kernel)
theorem bw_86 : Cond.fieldLink RX0 43 "YawnKeys$College" "wants" "[I" ∈ BW := bw_i 86 (by decide +kernel) (by decide +kernel)
theorem bw_87 : Cond.sameField "YawnKeys$College" "YawnKeys$Moment" "wants" "[I" ∈ BW := bw_i 87 (by decide +kernel) (by decide +kernel)
theorem bw_88 : Cond.fieldLink RX1 15 "YawnKeys$Moment" "keepers" "[I" ∈ BW := bw_i 88 (by decide +kernel) (by decide +kernel)
theorem bw_89 : Cond.fieldLink RX3 31 "YawnKeys$College" "keepers" "[I" ∈ BW := bw_i 89 (by decide +kernel) (by decide +kernel)
theorem bw_90 : Cond.sameField "YawnKeys$College" "YawnKeys$Moment" "keepers" "[I" ∈ BW := bw_i 90 (by decide +kernel) (by decide +kernel)
theorem bw_91 : Cond.fieldLink RX6 96 "YawnKeys$College" "keepers" "[I" ∈ BW := bw_i 91 (by decide +kernel) (by decide +kernel)
theorem bw_92 : Cond.fieldLink RX0 59 "YawnKeys$College" "keepers" "[I" ∈ BW := bw_i 92 (by decide +kernel) (by decide +kernel)
theorem bw_93 : Cond.fieldLink RX5 77 "YawnKeys$College" "keepers" "[I" ∈ BW := bw_i 93 (by decide +kernel) (by decide +kernel)
theorem bw_94 : Cond.fieldLink RX1 18 "YawnKeys$Moment" "day" "I" ∈ BW := bw_i 94 (by decide +kernel) (by decide +kernel)
theorem bw_95 : Cond.fieldLink RX6 115 "YawnKeys$College" "day" "I" ∈ BW := bw_i 95 (by decide +kernel) (by decide +kernel)
theorem bw_96 : Cond.sameField "YawnKeys$College" "YawnKeys$Moment" "day" "I" ∈ BW := bw_i 96 (by decide +kernel) (by decide +kernel)
theorem bw_97 : Cond.fieldLink RX0 80 "YawnKeys$College" "day" "I" ∈ BW := bw_i 97 (by decide +kernel) (by decide +kernel)
theorem bw_98 : Cond.fieldLink RX1 22 "YawnKeys$Moment" "gone" "I" ∈ BW := bw_i 98 (by decide +kernel) (by decide +kernel)
theorem bw_99 : Cond.fieldLink RX3 40 "YawnKeys$College" "gone" "I" ∈ BW := bw_i 99 (by decide +kernel) (by decide +kernel)
theorem bw_100 : Cond.sameField "YawnKeys$College" "YawnKeys$Moment" "gone" "I" ∈ BW := bw_i 100 (by decide +kernel) (by decide +kernel)
theorem bw_101 : Cond.fieldLink RX6 118 "YawnKeys$College" "gone" "I" ∈ BW := bw_i 101 (by decide +kernel) (by decide +kernel)
theorem bw_102 : Cond.fieldLink RX0 96 "YawnKeys$College" "gone" "I" ∈ BW := bw_i 102 (by decide +kernel) (by decide +kernel)
theorem bw_103 : Cond.fieldLink RX1 25 "YawnKeys$Moment" "draw" "I" ∈ BW := bw_i 103 (by decide +kernel) (by decide +kernel)
theorem bw_104 : Cond.fieldLink RX6 121 "YawnKeys$College" "draw" "I" ∈ BW := bw_i 104 (by decide +kernel) (by decide +kernel)
theorem bw_105 : Cond.sameField "YawnKeys$College" "YawnKeys$Moment" "draw" "I" ∈ BW := bw_i 105 (by decide +kernel) (by decide +kernel)
theorem bw_106 : Cond.fieldLink RX0 106 "YawnKeys$College" "draw" "I" ∈ BW := bw_i 106 (by decide +kernel) (by decide +kernel)
theorem bw_143 : Cond.fieldLink RX2 11 "YawnKeys$Past" "moments" "[LYawnKeys$Moment;" ∈ BW := bw_i 143 (by decide +kernel) (by decide +kernel)
theorem bw_144 : Cond.fieldLink RX2 17 "YawnKeys$Past" "known" "I" ∈ BW := bw_i 144 (by decide +kernel) (by decide +kernel)
theorem bw_145 : Cond.fieldLink RX6 138 "YawnKeys$Past" "known" "I" ∈ BW := bw_i 145 (by decide +kernel) (by decide +kernel)
theorem bw_157 : Cond.fieldLink RX5 9 "YawnKeys$Tape" "letters" "[I" ∈ BW := bw_i 157 (by decide +kernel) (by decide +kernel)
theorem bw_158 : Cond.fieldLink RX5 15 "YawnKeys$Tape" "length" "I" ∈ BW := bw_i 158 (by decide +kernel) (by decide +kernel)
theorem bw_159 : Cond.fieldLink RX6 105 "YawnKeys$Tape" "length" "I" ∈ BW := bw_i 159 (by decide +kernel) (by decide +kernel)
theorem bw_160 : Cond.fieldLink RX5 19 "YawnKeys$Tape" "place" "I" ∈ BW := bw_i 160 (by decide +kernel) (by decide +kernel)
theorem bw_174 : Cond.fieldLink RX3 9 "YawnKeys$Plan" "keepers" "[I" ∈ BW := bw_i 174 (by decide +kernel) (by decide +kernel)
theorem bw_175 : Cond.fieldLink RX6 180 "YawnKeys$Plan" "keepers" "[I" ∈ BW := bw_i 175 (by decide +kernel) (by decide +kernel)
theorem bw_176 : Cond.fieldLink RX3 15 "YawnKeys$Plan" "gone" "I" ∈ BW := bw_i 176 (by decide +kernel) (by decide +kernel)
theorem bw_177 : Cond.fieldLink RX6 176 "YawnKeys$Plan" "gone" "I" ∈ BW := bw_i 177 (by decide +kernel) (by decide +kernel)
theorem bw_178 : Cond.fieldLink RX3 19 "YawnKeys$Plan" "given" "I" ∈ BW := bw_i 178 (by decide +kernel) (by decide +kernel)
theorem bw_179 : Cond.fieldLink RX6 177 "YawnKeys$Plan" "given" "I" ∈ BW := bw_i 179 (by decide +kernel) (by decide +kernel)
theorem bw_194 : Cond.fieldLink RX4 9 "YawnKeys$Sheet" "items" "[J" ∈ BW := bw_i 194 (by decide +kernel) (by decide +kernel)
theorem bw_195 : Cond.fieldLink RX6 230 "YawnKeys$Sheet" "items" "[J" ∈ BW := bw_i 195 (by decide +kernel) (by decide +kernel)
theorem bw_196 : Cond.fieldLink RX4 15 "YawnKeys$Sheet" "lane" "I" ∈ BW := bw_i 196 (by decide +kernel) (by decide +kernel)
theorem bw_197 : Cond.fieldLink RX6 223 "YawnKeys$Sheet" "lane" "I" ∈ BW := bw_i 197 (by decide +kernel) (by decide +kernel)
theorem bw_198 : Cond.fieldLink RX4 19 "YawnKeys$Sheet" "size" "I" ∈ BW := bw_i 198 (by decide +kernel) (by decide +kernel)
theorem bw_207 : Cond.fieldLink RX6 10 "YawnKeys" "now" "LYawnKeys$College;" ∈ BW := bw_i 207 (by decide +kernel) (by decide +kernel)
theorem bw_208 : Cond.fieldLink RX6 16 "YawnKeys" "trial" "LYawnKeys$College;" ∈ BW := bw_i 208 (by decide +kernel) (by decide +kernel)
theorem bw_209 : Cond.fieldLink RX6 22 "YawnKeys" "past" "LYawnKeys$Past;" ∈ BW := bw_i 209 (by decide +kernel) (by decide +kernel)
theorem bw_210 : Cond.fieldLink RX6 26 "YawnKeys" "imaged" "LYawnKeys$College;" ∈ BW := bw_i 210 (by decide +kernel) (by decide +kernel)
theorem bw_211 : Cond.fieldLink RX6 29 "YawnKeys" "imagedPast" "LYawnKeys$Past;" ∈ BW := bw_i 211 (by decide +kernel) (by decide +kernel)
theorem bw_212 : Cond.fieldLink RX6 32 "YawnKeys" "hasImage" "Z" ∈ BW := bw_i 212 (by decide +kernel) (by decide +kernel)
theorem bw_213 : Cond.fieldLink RX6 39 "YawnKeys" "tape" "LYawnKeys$Tape;" ∈ BW := bw_i 213 (by decide +kernel) (by decide +kernel)
theorem bw_214 : Cond.fieldLink RX6 46 "YawnKeys" "plan" "LYawnKeys$Plan;" ∈ BW := bw_i 214 (by decide +kernel) (by decide +kernel)
theorem bw_215 : Cond.fieldLink RX6 53 "YawnKeys" "sheets" "[LYawnKeys$Sheet;" ∈ BW := bw_i 215 (by decide +kernel) (by decide +kernel)
theorem bw_505 : Cond.constantLong RX0 109 (1103515245 : Int64) ∈ BW := bw_i 505 (by decide +kernel) (by decide +kernel)
theorem bw_506 : Cond.constantLong RX0 111 (12345 : Int64) ∈ BW := bw_i 506 (by decide +kernel) (by decide +kernel)
theorem bw_507 : Cond.constantLong RX0 113 (2147483647 : Int64) ∈ BW := bw_i 507 (by decide +kernel) (by decide +kernel)
theorem bw_508 : Cond.constant RX0 115 (65536 : Int32) ∈ BW := bw_i 508 (by decide +kernel) (by decide +kernel)
theorem bw_710 : Cond.fieldLink RX7 60 "YawnKeysModel" "people" "I" ∈ BW := bw_i 710 (by decide +kernel) (by decide +kernel)
theorem bw_711 : Cond.fieldLink RX7 7 "YawnKeysModel" "rule" "I" ∈ BW := bw_i 711 (by decide +kernel) (by decide +kernel)
theorem bw_712 : Cond.fieldLink RX7 13 "YawnKeysModel" "kinds" "[I" ∈ BW := bw_i 712 (by decide +kernel) (by decide +kernel)
theorem bw_713 : Cond.fieldLink RX7 17 "YawnKeysModel" "now" "[I" ∈ BW := bw_i 713 (by decide +kernel) (by decide +kernel)
theorem bw_714 : Cond.fieldLink RX7 20 "YawnKeysModel" "side" "[I" ∈ BW := bw_i 714 (by decide +kernel) (by decide +kernel)
theorem bw_715 : Cond.fieldLink RX7 23 "YawnKeysModel" "before" "[I" ∈ BW := bw_i 715 (by decide +kernel) (by decide +kernel)
theorem bw_716 : Cond.fieldLink RX7 104 "YawnKeysModel" "undoMany" "I" ∈ BW := bw_i 716 (by decide +kernel) (by decide +kernel)
theorem bw_717 : Cond.fieldLink RX7 207 "YawnKeysModel" "hasImage" "Z" ∈ BW := bw_i 717 (by decide +kernel) (by decide +kernel)
theorem bw_718 : Cond.fieldLink RX7 26 "YawnKeysModel" "imageOf" "[I" ∈ BW := bw_i 718 (by decide +kernel) (by decide +kernel)
theorem bw_719 : Cond.fieldLink RX7 29 "YawnKeysModel" "imageRow" "[I" ∈ BW := bw_i 719 (by decide +kernel) (by decide +kernel)
theorem bw_720 : Cond.fieldLink RX7 32 "YawnKeysModel" "imageBefore" "[I" ∈ BW := bw_i 720 (by decide +kernel) (by decide +kernel)
theorem bw_721 : Cond.fieldLink RX7 35 "YawnKeysModel" "items" "[J" ∈ BW := bw_i 721 (by decide +kernel) (by decide +kernel)
theorem bw_722 : Cond.fieldLink RX7 39 "YawnKeysModel" "lanes" "[I" ∈ BW := bw_i 722 (by decide +kernel) (by decide +kernel)
theorem bw_723 : Cond.fieldLink RX7 42 "YawnKeysModel" "sizes" "[I" ∈ BW := bw_i 723 (by decide +kernel) (by decide +kernel)
theorem bw_724 : Cond.fieldLink RX7 129 "YawnKeysModel" "length" "I" ∈ BW := bw_i 724 (by decide +kernel) (by decide +kernel)
theorem bw_725 : Cond.fieldLink RX7 45 "YawnKeysModel" "tape" "[I" ∈ BW := bw_i 725 (by decide +kernel) (by decide +kernel)
theorem bw_726 : Cond.fieldLink RX7 48 "YawnKeysModel" "otherOne" "I" ∈ BW := bw_i 726 (by decide +kernel) (by decide +kernel)
theorem bw_727 : Cond.fieldLink RX7 69 "YawnKeysModel" "otherKind" "I" ∈ BW := bw_i 727 (by decide +kernel) (by decide +kernel)
theorem bw_728 : Cond.fieldLink RX7 51 "YawnKeysModel" "mores" "[I" ∈ BW := bw_i 728 (by decide +kernel) (by decide +kernel)
theorem bw_729 : Cond.fieldLink RX7 79 "YawnKeysModel" "goneNow" "I" ∈ BW := bw_i 729 (by decide +kernel) (by decide +kernel)
theorem bw_730 : Cond.fieldLink RX7 132 "YawnKeysModel" "spot" "I" ∈ BW := bw_i 730 (by decide +kernel) (by decide +kernel)
theorem bw_731 : Cond.fieldLink RX7 135 "YawnKeysModel" "begins" "I" ∈ BW := bw_i 731 (by decide +kernel) (by decide +kernel)
theorem bw_732 : Cond.fieldLink RX7 149 "YawnKeysModel" "readRule" "I" ∈ BW := bw_i 732 (by decide +kernel) (by decide +kernel)
theorem bw_733 : Cond.fieldLink RX7 155 "YawnKeysModel" "readPeople" "I" ∈ BW := bw_i 733 (by decide +kernel) (by decide +kernel)
theorem bw_734 : Cond.fieldLink RX7 54 "YawnKeysModel" "readKinds" "[I" ∈ BW := bw_i 734 (by decide +kernel) (by decide +kernel)
theorem bw_735 : Cond.fieldLink RX7 57 "YawnKeysModel" "readRow" "[I" ∈ BW := bw_i 735 (by decide +kernel) (by decide +kernel)
theorem bw_793 : Cond.constantLong RX7 100 (4 : Int64) ∈ BW := bw_i 793 (by decide +kernel) (by decide +kernel)
theorem bw_797 : Cond.constantLong RX7 102 (20 : Int64) ∈ BW := bw_i 797 (by decide +kernel) (by decide +kernel)
theorem bw_813 : Cond.constantLong RX7 67 (3 : Int64) ∈ BW := bw_i 813 (by decide +kernel) (by decide +kernel)
theorem bw_818 : Cond.constantLong RX7 114 (2 : Int64) ∈ BW := bw_i 818 (by decide +kernel) (by decide +kernel)
theorem bw_855 : Cond.constantLong RX7 125 (32 : Int64) ∈ BW := bw_i 855 (by decide +kernel) (by decide +kernel)
theorem bw_856 : Cond.constantLong RX7 127 (126 : Int64) ∈ BW := bw_i 856 (by decide +kernel) (by decide +kernel)
theorem bw_876 : Cond.constantLong RX7 138 (48 : Int64) ∈ BW := bw_i 876 (by decide +kernel) (by decide +kernel)
theorem bw_877 : Cond.constantLong RX7 140 (57 : Int64) ∈ BW := bw_i 877 (by decide +kernel) (by decide +kernel)
theorem bw_885 : Cond.constantLong RX7 158 (97 : Int64) ∈ BW := bw_i 885 (by decide +kernel) (by decide +kernel)
theorem bw_886 : Cond.constantLong RX7 160 (117 : Int64) ∈ BW := bw_i 886 (by decide +kernel) (by decide +kernel)
theorem bw_907 : Cond.constantLong RX7 181 (40 : Int64) ∈ BW := bw_i 907 (by decide +kernel) (by decide +kernel)
theorem bw_940 : Cond.constantLong RX7 189 (1103515245 : Int64) ∈ BW := bw_i 940 (by decide +kernel) (by decide +kernel)
theorem bw_941 : Cond.constantLong RX7 191 (12345 : Int64) ∈ BW := bw_i 941 (by decide +kernel) (by decide +kernel)
theorem bw_942 : Cond.constantLong RX7 193 (2147483647 : Int64) ∈ BW := bw_i 942 (by decide +kernel) (by decide +kernel)
theorem bw_943 : Cond.constant RX7 195 (65536 : Int32) ∈ BW := bw_i 943 (by decide +kernel) (by decide +kernel)
theorem bw_956 : Cond.constantLong RX7 196 (60 : Int64) ∈ BW := bw_i 956 (by decide +kernel) (by decide +kernel)
theorem bw_985 : Cond.constantLong RX7 201 (30 : Int64) ∈ BW := bw_i 985 (by decide +kernel) (by decide +kernel)
theorem bw_986 : Cond.constantLong RX7 203 (-2 : Int64) ∈ BW := bw_i 986 (by decide +kernel) (by decide +kernel)
theorem bw_999 : Cond.constantLong RX7 205 (10 : Int64) ∈ BW := bw_i 999 (by decide +kernel) (by decide +kernel)
theorem bw_1018 : Cond.constantLong RX7 225 (8 : Int64) ∈ BW := bw_i 1018 (by decide +kernel) (by decide +kernel)
theorem bw_1047 : Cond.constantLong RX7 241 (24 : Int64) ∈ BW := bw_i 1047 (by decide +kernel) (by decide +kernel)
theorem fo_0_9_0 : FieldOK RX0 9 0 5 0 := ⟨RX0, TX0, 9, "YawnKeys$College", rfl, by decide, bw_75, ⟨wsIn_0, Or.inl rfl⟩, fun x hx => hx.elim, tyX0, tyX0_ok, nmX0⟩
theorem fo_0_15_0 : FieldOK RX0 15 0 6 1 := ⟨RX0, TX0, 9, "YawnKeys$College", rfl, by decide, bw_77, ⟨wsIn_0, Or.inl rfl⟩, fun x _ => ⟨.int, rfl, by decide +kernel, rfl, rfl⟩, tyX0, tyX0_ok, nmX0⟩
theorem fo_0_19_0 : FieldOK RX0 19 0 7 1 := ⟨RX0, TX0, 9, "YawnKeys$College", rfl, by decide, bw_81, ⟨wsIn_0, Or.inl rfl⟩, fun x _ => ⟨.int, rfl, by decide +kernel, rfl, rfl⟩, tyX0, tyX0_ok, nmX0⟩
theorem fo_0_22_0 : FieldOK RX0 22 0 8 1 := ⟨RX0, TX0, 9, "YawnKeys$College", rfl, by decide, bw_84, ⟨wsIn_0, Or.inl rfl⟩, fun x _ => ⟨.int, rfl, by decide +kernel, rfl, rfl⟩, tyX0, tyX0_ok, nmX0⟩
theorem fo_0_43_0 : FieldOK RX0 43 0 0 0 := ⟨RX0, TX0, 9, "YawnKeys$College", rfl, by decide, bw_86, ⟨wsIn_0, Or.inr bw_87⟩, fun x hx => hx.elim, tyX0, tyX0_ok, nmX0⟩
theorem fo_0_59_0 : FieldOK RX0 59 0 1 0 := ⟨RX0, TX0, 9, "YawnKeys$College", rfl, by decide, bw_92, ⟨wsIn_0, Or.inr bw_90⟩, fun x hx => hx.elim, tyX0, tyX0_ok, nmX0⟩
theorem fo_0_80_0 : FieldOK RX0 80 0 2 1 := ⟨RX0, TX0, 9, "YawnKeys$College", rfl, by decide, bw_97, ⟨wsIn_0, Or.inr bw_96⟩, fun x _ => ⟨.int, rfl, by decide +kernel, rfl, rfl⟩, tyX0, tyX0_ok, nmX0⟩
theorem fo_0_96_0 : FieldOK RX0 96 0 3 1 := ⟨RX0, TX0, 9, "YawnKeys$College", rfl, by decide, bw_102, ⟨wsIn_0, Or.inr bw_100⟩, fun x _ => ⟨.int, rfl, by decide +kernel, rfl, rfl⟩, tyX0, tyX0_ok, nmX0⟩
theorem fo_0_106_0 : FieldOK RX0 106 0 4 1 := ⟨RX0, TX0, 9, "YawnKeys$College", rfl, by decide, bw_106, ⟨wsIn_0, Or.inr bw_105⟩, fun x _ => ⟨.int, rfl, by decide +kernel, rfl, rfl⟩, tyX0, tyX0_ok, nmX0⟩
def fX0 : List ((Nat × Nat) × Nat × Nat) := [((9, 0), 5, 0), ((15, 0), 6, 1), ((19, 0), 7, 1), ((22, 0), 8, 1), ((43, 0), 0, 0), ((59, 0), 1, 0), ((80, 0), 2, 1), ((96, 0), 3, 1), ((106, 0), 4, 1)]
theorem fX0_ok : ∀ q ∈ fX0, FieldOK RX0 q.1.1 q.1.2 q.2.1 q.2.2 := all_cons fo_0_9_0 (all_cons fo_0_15_0 (all_cons fo_0_19_0 (all_cons fo_0_22_0 (all_cons fo_0_43_0 (all_cons fo_0_59_0 (all_cons fo_0_80_0 (all_cons fo_0_96_0 (all_cons fo_0_106_0 (all_nil)))))))))
theorem fl_0_9_0 : fT fX0 9 0 = some (5, 0) := by decide +kernel
theorem fl_0_15_0 : fT fX0 15 0 = some (6, 1) := by decide +kernel
theorem fl_0_19_0 : fT fX0 19 0 = some (7, 1) := by decide +kernel
theorem fl_0_22_0 : fT fX0 22 0 = some (8, 1) := by decide +kernel
theorem fl_0_43_0 : fT fX0 43 0 = some (0, 0) := by decide +kernel
theorem fl_0_59_0 : fT fX0 59 0 = some (1, 0) := by decide +kernel
theorem fl_0_80_0 : fT fX0 80 0 = some (2, 1) := by decide +kernel
theorem fl_0_96_0 : fT fX0 96 0 = some (3, 1) := by decide +kernel
theorem fl_0_106_0 : fT fX0 106 0 = some (4, 1) := by decide +kernel
def kX0 : List (Nat × (Int32 ⊕ Int64)) := [(109, .inr (1103515245 : Int64)), (111, .inr (12345 : Int64)), (113, .inr (2147483647 : Int64)), (115, .inl (65536 : Int32))]
theorem kX0_ok : ∀ q ∈ kX0, conOK RX0 q := all_cons bw_505 (all_cons bw_506 (all_cons bw_507 (all_cons bw_508 (all_nil))))
theorem cl_0_109 : cT kX0 109 = some (.inr (1103515245 : Int64)) := by decide +kernel
theorem cl_0_111 : cT kX0 111 = some (.inr (12345 : Int64)) := by decide +kernel
theorem cl_0_113 : cT kX0 113 = some (.inr (2147483647 : Int64)) := by decide +kernel
theorem cl_0_115 : cT kX0 115 = some (.inl (65536 : Int32)) := by decide +kernel
theorem fo_1_9_0 : FieldOK RX1 9 0 0 0 := ⟨RX0, TX0, 9, "YawnKeys$Moment", rfl, by decide, bw_85, ⟨wsIn_0, Or.inl rfl⟩, fun x hx => hx.elim, tyX0, tyX0_ok, nmX0⟩
theorem fo_1_9_1 : FieldOK RX1 9 1 0 0 := ⟨RX1, TX1, 5, "YawnKeys$Moment", rfl, by decide, bw_85, ⟨wsIn_1, Or.inl rfl⟩, fun x hx => hx.elim, tyX1, tyX1_ok, nmX1⟩
theorem fo_1_15_0 : FieldOK RX1 15 0 1 0 := ⟨RX0, TX0, 9, "YawnKeys$Moment", rfl, by decide, bw_88, ⟨wsIn_0, Or.inl rfl⟩, fun x hx => hx.elim, tyX0, tyX0_ok, nmX0⟩
theorem fo_1_15_1 : FieldOK RX1 15 1 1 0 := ⟨RX1, TX1, 5, "YawnKeys$Moment", rfl, by decide, bw_88, ⟨wsIn_1, Or.inl rfl⟩, fun x hx => hx.elim, tyX1, tyX1_ok, nmX1⟩
theorem fo_1_18_0 : FieldOK RX1 18 0 2 1 := ⟨RX0, TX0, 9, "YawnKeys$Moment", rfl, by decide, bw_94, ⟨wsIn_0, Or.inl rfl⟩, fun x _ => ⟨.int, rfl, by decide +kernel, rfl, rfl⟩, tyX0, tyX0_ok, nmX0⟩
theorem fo_1_18_1 : FieldOK RX1 18 1 2 1 := ⟨RX1, TX1, 5, "YawnKeys$Moment", rfl, by decide, bw_94, ⟨wsIn_1, Or.inl rfl⟩, fun x _ => ⟨.int, rfl, by decide +kernel, rfl, rfl⟩, tyX1, tyX1_ok, nmX1⟩
theorem fo_1_22_0 : FieldOK RX1 22 0 3 1 := ⟨RX0, TX0, 9, "YawnKeys$Moment", rfl, by decide, bw_98, ⟨wsIn_0, Or.inl rfl⟩, fun x _ => ⟨.int, rfl, by decide +kernel, rfl, rfl⟩, tyX0, tyX0_ok, nmX0⟩
theorem fo_1_22_1 : FieldOK RX1 22 1 3 1 := ⟨RX1, TX1, 5, "YawnKeys$Moment", rfl, by decide, bw_98, ⟨wsIn_1, Or.inl rfl⟩, fun x _ => ⟨.int, rfl, by decide +kernel, rfl, rfl⟩, tyX1, tyX1_ok, nmX1⟩
theorem fo_1_25_0 : FieldOK RX1 25 0 4 1 := ⟨RX0, TX0, 9, "YawnKeys$Moment", rfl, by decide, bw_103, ⟨wsIn_0, Or.inl rfl⟩, fun x _ => ⟨.int, rfl, by decide +kernel, rfl, rfl⟩, tyX0, tyX0_ok, nmX0⟩
theorem fo_1_25_1 : FieldOK RX1 25 1 4 1 := ⟨RX1, TX1, 5, "YawnKeys$Moment", rfl, by decide, bw_103, ⟨wsIn_1, Or.inl rfl⟩, fun x _ => ⟨.int, rfl, by decide +kernel, rfl, rfl⟩, tyX1, tyX1_ok, nmX1⟩
def fX1 : List ((Nat × Nat) × Nat × Nat) := [((9, 0), 0, 0), ((9, 1), 0, 0), ((15, 0), 1, 0), ((15, 1), 1, 0), ((18, 0), 2, 1), ((18, 1), 2, 1), ((22, 0), 3, 1), ((22, 1), 3, 1), ((25, 0), 4, 1), ((25, 1), 4, 1)]
theorem fX1_ok : ∀ q ∈ fX1, FieldOK RX1 q.1.1 q.1.2 q.2.1 q.2.2 := all_cons fo_1_9_0 (all_cons fo_1_9_1 (all_cons fo_1_15_0 (all_cons fo_1_15_1 (all_cons fo_1_18_0 (all_cons fo_1_18_1 (all_cons fo_1_22_0 (all_cons fo_1_22_1 (all_cons fo_1_25_0 (all_cons fo_1_25_1 (all_nil))))))))))
theorem fl_1_9_0 : fT fX1 9 0 = some (0, 0) := by decide +kernel
theorem fl_1_9_1 : fT fX1 9 1 = some (0, 0) := by decide +kernel
theorem fl_1_15_0 : fT fX1 15 0 = some (1, 0) := by decide +kernel
theorem fl_1_15_1 : fT fX1 15 1 = some (1, 0) := by decide +kernel
theorem fl_1_18_0 : fT fX1 18 0 = some (2, 1) := by decide +kernel
theorem fl_1_18_1 : fT fX1 18 1 = some (2, 1) := by decide +kernel
theorem fl_1_22_0 : fT fX1 22 0 = some (3, 1) := by decide +kernel
theorem fl_1_22_1 : fT fX1 22 1 = some (3, 1) := by decide +kernel
theorem fl_1_25_0 : fT fX1 25 0 = some (4, 1) := by decide +kernel
theorem fl_1_25_1 : fT fX1 25 1 = some (4, 1) := by decide +kernel
def kX1 : List (Nat × (Int32 ⊕ Int64)) := []
theorem kX1_ok : ∀ q ∈ kX1, conOK RX1 q := all_nil
theorem fo_2_11_2 : FieldOK RX2 11 2 0 0 := ⟨RX2, TX2, 2, "YawnKeys$Past", rfl, by decide, bw_143, ⟨wsIn_2, Or.inl rfl⟩, fun x hx => hx.elim, tyX2, tyX2_ok, nmX2⟩
theorem fo_2_17_2 : FieldOK RX2 17 2 1 1 := ⟨RX2, TX2, 2, "YawnKeys$Past", rfl, by decide, bw_144, ⟨wsIn_2, Or.inl rfl⟩, fun x _ => ⟨.int, rfl, by decide +kernel, rfl, rfl⟩, tyX2, tyX2_ok, nmX2⟩
def fX2 : List ((Nat × Nat) × Nat × Nat) := [((11, 2), 0, 0), ((17, 2), 1, 1)]
theorem fX2_ok : ∀ q ∈ fX2, FieldOK RX2 q.1.1 q.1.2 q.2.1 q.2.2 := all_cons fo_2_11_2 (all_cons fo_2_17_2 (all_nil))
theorem fl_2_11_2 : fT fX2 11 2 = some (0, 0) := by decide +kernel
theorem fl_2_17_2 : fT fX2 17 2 = some (1, 1) := by decide +kernel
def kX2 : List (Nat × (Int32 ⊕ Int64)) := []
theorem kX2_ok : ∀ q ∈ kX2, conOK RX2 q := all_nil
theorem fo_3_22_0 : FieldOK RX3 22 0 6 1 := ⟨RX0, TX0, 9, "YawnKeys$College", rfl, by decide, bw_78, ⟨wsIn_0, Or.inl rfl⟩, fun x _ => ⟨.int, rfl, by decide +kernel, rfl, rfl⟩, tyX0, tyX0_ok, nmX0⟩
theorem fo_3_31_0 : FieldOK RX3 31 0 1 0 := ⟨RX0, TX0, 9, "YawnKeys$College", rfl, by decide, bw_89, ⟨wsIn_0, Or.inr bw_90⟩, fun x hx => hx.elim, tyX0, tyX0_ok, nmX0⟩
theorem fo_3_40_0 : FieldOK RX3 40 0 3 1 := ⟨RX0, TX0, 9, "YawnKeys$College", rfl, by decide, bw_99, ⟨wsIn_0, Or.inr bw_100⟩, fun x _ => ⟨.int, rfl, by decide +kernel, rfl, rfl⟩, tyX0, tyX0_ok, nmX0⟩
theorem fo_3_9_3 : FieldOK RX3 9 3 0 0 := ⟨RX3, TX3, 3, "YawnKeys$Plan", rfl, by decide, bw_174, ⟨wsIn_3, Or.inl rfl⟩, fun x hx => hx.elim, tyX3, tyX3_ok, nmX3⟩
theorem fo_3_15_3 : FieldOK RX3 15 3 1 1 := ⟨RX3, TX3, 3, "YawnKeys$Plan", rfl, by decide, bw_176, ⟨wsIn_3, Or.inl rfl⟩, fun x _ => ⟨.int, rfl, by decide +kernel, rfl, rfl⟩, tyX3, tyX3_ok, nmX3⟩
theorem fo_3_19_3 : FieldOK RX3 19 3 2 1 := ⟨RX3, TX3, 3, "YawnKeys$Plan", rfl, by decide, bw_178, ⟨wsIn_3, Or.inl rfl⟩, fun x _ => ⟨.int, rfl, by decide +kernel, rfl, rfl⟩, tyX3, tyX3_ok, nmX3⟩
def fX3 : List ((Nat × Nat) × Nat × Nat) := [((22, 0), 6, 1), ((31, 0), 1, 0), ((40, 0), 3, 1), ((9, 3), 0, 0), ((15, 3), 1, 1), ((19, 3), 2, 1)]
theorem fX3_ok : ∀ q ∈ fX3, FieldOK RX3 q.1.1 q.1.2 q.2.1 q.2.2 := all_cons fo_3_22_0 (all_cons fo_3_31_0 (all_cons fo_3_40_0 (all_cons fo_3_9_3 (all_cons fo_3_15_3 (all_cons fo_3_19_3 (all_nil))))))
theorem fl_3_22_0 : fT fX3 22 0 = some (6, 1) := by decide +kernel
theorem fl_3_31_0 : fT fX3 31 0 = some (1, 0) := by decide +kernel
theorem fl_3_40_0 : fT fX3 40 0 = some (3, 1) := by decide +kernel
theorem fl_3_9_3 : fT fX3 9 3 = some (0, 0) := by decide +kernel
theorem fl_3_15_3 : fT fX3 15 3 = some (1, 1) := by decide +kernel
theorem fl_3_19_3 : fT fX3 19 3 = some (2, 1) := by decide +kernel
def kX3 : List (Nat × (Int32 ⊕ Int64)) := []
theorem kX3_ok : ∀ q ∈ kX3, conOK RX3 q := all_nil
theorem fo_4_9_4 : FieldOK RX4 9 4 0 0 := ⟨RX4, TX4, 3, "YawnKeys$Sheet", rfl, by decide, bw_194, ⟨wsIn_4, Or.inl rfl⟩, fun x hx => hx.elim, tyX4, tyX4_ok, nmX4⟩
theorem fo_4_15_4 : FieldOK RX4 15 4 1 1 := ⟨RX4, TX4, 3, "YawnKeys$Sheet", rfl, by decide, bw_196, ⟨wsIn_4, Or.inl rfl⟩, fun x _ => ⟨.int, rfl, by decide +kernel, rfl, rfl⟩, tyX4, tyX4_ok, nmX4⟩
theorem fo_4_19_4 : FieldOK RX4 19 4 2 1 := ⟨RX4, TX4, 3, "YawnKeys$Sheet", rfl, by decide, bw_198, ⟨wsIn_4, Or.inl rfl⟩, fun x _ => ⟨.int, rfl, by decide +kernel, rfl, rfl⟩, tyX4, tyX4_ok, nmX4⟩
def fX4 : List ((Nat × Nat) × Nat × Nat) := [((9, 4), 0, 0), ((15, 4), 1, 1), ((19, 4), 2, 1)]
theorem fX4_ok : ∀ q ∈ fX4, FieldOK RX4 q.1.1 q.1.2 q.2.1 q.2.2 := all_cons fo_4_9_4 (all_cons fo_4_15_4 (all_cons fo_4_19_4 (all_nil)))
theorem fl_4_9_4 : fT fX4 9 4 = some (0, 0) := by decide +kernel
theorem fl_4_15_4 : fT fX4 15 4 = some (1, 1) := by decide +kernel
theorem fl_4_19_4 : fT fX4 19 4 = some (2, 1) := by decide +kernel
def kX4 : List (Nat × (Int32 ⊕ Int64)) := []
theorem kX4_ok : ∀ q ∈ kX4, conOK RX4 q := all_nil
theorem fo_5_52_0 : FieldOK RX5 52 0 6 1 := ⟨RX0, TX0, 9, "YawnKeys$College", rfl, by decide, bw_80, ⟨wsIn_0, Or.inl rfl⟩, fun x _ => ⟨.int, rfl, by decide +kernel, rfl, rfl⟩, tyX0, tyX0_ok, nmX0⟩
theorem fo_5_47_0 : FieldOK RX5 47 0 7 1 := ⟨RX0, TX0, 9, "YawnKeys$College", rfl, by decide, bw_83, ⟨wsIn_0, Or.inl rfl⟩, fun x _ => ⟨.int, rfl, by decide +kernel, rfl, rfl⟩, tyX0, tyX0_ok, nmX0⟩
theorem fo_5_77_0 : FieldOK RX5 77 0 1 0 := ⟨RX0, TX0, 9, "YawnKeys$College", rfl, by decide, bw_93, ⟨wsIn_0, Or.inr bw_90⟩, fun x hx => hx.elim, tyX0, tyX0_ok, nmX0⟩
theorem fo_5_9_5 : FieldOK RX5 9 5 0 0 := ⟨RX5, TX5, 3, "YawnKeys$Tape", rfl, by decide, bw_157, ⟨wsIn_5, Or.inl rfl⟩, fun x hx => hx.elim, tyX5, tyX5_ok, nmX5⟩
theorem fo_5_15_5 : FieldOK RX5 15 5 1 1 := ⟨RX5, TX5, 3, "YawnKeys$Tape", rfl, by decide, bw_158, ⟨wsIn_5, Or.inl rfl⟩, fun x _ => ⟨.int, rfl, by decide +kernel, rfl, rfl⟩, tyX5, tyX5_ok, nmX5⟩
theorem fo_5_19_5 : FieldOK RX5 19 5 2 1 := ⟨RX5, TX5, 3, "YawnKeys$Tape", rfl, by decide, bw_160, ⟨wsIn_5, Or.inl rfl⟩, fun x _ => ⟨.int, rfl, by decide +kernel, rfl, rfl⟩, tyX5, tyX5_ok, nmX5⟩
def fX5 : List ((Nat × Nat) × Nat × Nat) := [((52, 0), 6, 1), ((47, 0), 7, 1), ((77, 0), 1, 0), ((9, 5), 0, 0), ((15, 5), 1, 1), ((19, 5), 2, 1)]
theorem fX5_ok : ∀ q ∈ fX5, FieldOK RX5 q.1.1 q.1.2 q.2.1 q.2.2 := all_cons fo_5_52_0 (all_cons fo_5_47_0 (all_cons fo_5_77_0 (all_cons fo_5_9_5 (all_cons fo_5_15_5 (all_cons fo_5_19_5 (all_nil))))))
theorem fl_5_52_0 : fT fX5 52 0 = some (6, 1) := by decide +kernel
theorem fl_5_47_0 : fT fX5 47 0 = some (7, 1) := by decide +kernel
theorem fl_5_77_0 : fT fX5 77 0 = some (1, 0) := by decide +kernel
theorem fl_5_9_5 : fT fX5 9 5 = some (0, 0) := by decide +kernel
theorem fl_5_15_5 : fT fX5 15 5 = some (1, 1) := by decide +kernel
theorem fl_5_19_5 : fT fX5 19 5 = some (2, 1) := by decide +kernel
def kX5 : List (Nat × (Int32 ⊕ Int64)) := []
theorem kX5_ok : ∀ q ∈ kX5, conOK RX5 q := all_nil
theorem fo_6_85_0 : FieldOK RX6 85 0 5 0 := ⟨RX0, TX0, 9, "YawnKeys$College", rfl, by decide, bw_76, ⟨wsIn_0, Or.inl rfl⟩, fun x hx => hx.elim, tyX0, tyX0_ok, nmX0⟩
theorem fo_6_61_0 : FieldOK RX6 61 0 6 1 := ⟨RX0, TX0, 9, "YawnKeys$College", rfl, by decide, bw_79, ⟨wsIn_0, Or.inl rfl⟩, fun x _ => ⟨.int, rfl, by decide +kernel, rfl, rfl⟩, tyX0, tyX0_ok, nmX0⟩
theorem fo_6_72_0 : FieldOK RX6 72 0 7 1 := ⟨RX0, TX0, 9, "YawnKeys$College", rfl, by decide, bw_82, ⟨wsIn_0, Or.inl rfl⟩, fun x _ => ⟨.int, rfl, by decide +kernel, rfl, rfl⟩, tyX0, tyX0_ok, nmX0⟩
theorem fo_6_96_0 : FieldOK RX6 96 0 1 0 := ⟨RX0, TX0, 9, "YawnKeys$College", rfl, by decide, bw_91, ⟨wsIn_0, Or.inr bw_90⟩, fun x hx => hx.elim, tyX0, tyX0_ok, nmX0⟩
theorem fo_6_115_0 : FieldOK RX6 115 0 2 1 := ⟨RX0, TX0, 9, "YawnKeys$College", rfl, by decide, bw_95, ⟨wsIn_0, Or.inr bw_96⟩, fun x _ => ⟨.int, rfl, by decide +kernel, rfl, rfl⟩, tyX0, tyX0_ok, nmX0⟩
theorem fo_6_118_0 : FieldOK RX6 118 0 3 1 := ⟨RX0, TX0, 9, "YawnKeys$College", rfl, by decide, bw_101, ⟨wsIn_0, Or.inr bw_100⟩, fun x _ => ⟨.int, rfl, by decide +kernel, rfl, rfl⟩, tyX0, tyX0_ok, nmX0⟩
theorem fo_6_121_0 : FieldOK RX6 121 0 4 1 := ⟨RX0, TX0, 9, "YawnKeys$College", rfl, by decide, bw_104, ⟨wsIn_0, Or.inr bw_105⟩, fun x _ => ⟨.int, rfl, by decide +kernel, rfl, rfl⟩, tyX0, tyX0_ok, nmX0⟩
theorem fo_6_138_2 : FieldOK RX6 138 2 1 1 := ⟨RX2, TX2, 2, "YawnKeys$Past", rfl, by decide, bw_145, ⟨wsIn_2, Or.inl rfl⟩, fun x _ => ⟨.int, rfl, by decide +kernel, rfl, rfl⟩, tyX2, tyX2_ok, nmX2⟩
theorem fo_6_105_5 : FieldOK RX6 105 5 1 1 := ⟨RX5, TX5, 3, "YawnKeys$Tape", rfl, by decide, bw_159, ⟨wsIn_5, Or.inl rfl⟩, fun x _ => ⟨.int, rfl, by decide +kernel, rfl, rfl⟩, tyX5, tyX5_ok, nmX5⟩
theorem fo_6_180_3 : FieldOK RX6 180 3 0 0 := ⟨RX3, TX3, 3, "YawnKeys$Plan", rfl, by decide, bw_175, ⟨wsIn_3, Or.inl rfl⟩, fun x hx => hx.elim, tyX3, tyX3_ok, nmX3⟩
theorem fo_6_176_3 : FieldOK RX6 176 3 1 1 := ⟨RX3, TX3, 3, "YawnKeys$Plan", rfl, by decide, bw_177, ⟨wsIn_3, Or.inl rfl⟩, fun x _ => ⟨.int, rfl, by decide +kernel, rfl, rfl⟩, tyX3, tyX3_ok, nmX3⟩
theorem fo_6_177_3 : FieldOK RX6 177 3 2 1 := ⟨RX3, TX3, 3, "YawnKeys$Plan", rfl, by decide, bw_179, ⟨wsIn_3, Or.inl rfl⟩, fun x _ => ⟨.int, rfl, by decide +kernel, rfl, rfl⟩, tyX3, tyX3_ok, nmX3⟩
theorem fo_6_230_4 : FieldOK RX6 230 4 0 0 := ⟨RX4, TX4, 3, "YawnKeys$Sheet", rfl, by decide, bw_195, ⟨wsIn_4, Or.inl rfl⟩, fun x hx => hx.elim, tyX4, tyX4_ok, nmX4⟩
theorem fo_6_223_4 : FieldOK RX6 223 4 1 1 := ⟨RX4, TX4, 3, "YawnKeys$Sheet", rfl, by decide, bw_197, ⟨wsIn_4, Or.inl rfl⟩, fun x _ => ⟨.int, rfl, by decide +kernel, rfl, rfl⟩, tyX4, tyX4_ok, nmX4⟩
theorem fo_6_10_6 : FieldOK RX6 10 6 0 0 := ⟨RX6, TX6, 9, "YawnKeys", rfl, by decide, bw_207, ⟨wsIn_6, Or.inl rfl⟩, fun x hx => hx.elim, tyX6, tyX6_ok, nmX6⟩
theorem fo_6_16_6 : FieldOK RX6 16 6 1 0 := ⟨RX6, TX6, 9, "YawnKeys", rfl, by decide, bw_208, ⟨wsIn_6, Or.inl rfl⟩, fun x hx => hx.elim, tyX6, tyX6_ok, nmX6⟩
theorem fo_6_22_6 : FieldOK RX6 22 6 2 0 := ⟨RX6, TX6, 9, "YawnKeys", rfl, by decide, bw_209, ⟨wsIn_6, Or.inl rfl⟩, fun x hx => hx.elim, tyX6, tyX6_ok, nmX6⟩
theorem fo_6_26_6 : FieldOK RX6 26 6 3 0 := ⟨RX6, TX6, 9, "YawnKeys", rfl, by decide, bw_210, ⟨wsIn_6, Or.inl rfl⟩, fun x hx => hx.elim, tyX6, tyX6_ok, nmX6⟩
theorem fo_6_29_6 : FieldOK RX6 29 6 4 0 := ⟨RX6, TX6, 9, "YawnKeys", rfl, by decide, bw_211, ⟨wsIn_6, Or.inl rfl⟩, fun x hx => hx.elim, tyX6, tyX6_ok, nmX6⟩
theorem fo_6_32_6 : FieldOK RX6 32 6 5 2 := ⟨RX6, TX6, 9, "YawnKeys", rfl, by decide, bw_212, ⟨wsIn_6, Or.inl rfl⟩, fun x hx => ⟨.boolean, rfl, by decide +kernel, by rcases hx with rfl | rfl <;> rfl, by rcases hx with rfl | rfl <;> rfl⟩, tyX6, tyX6_ok, nmX6⟩
theorem fo_6_39_6 : FieldOK RX6 39 6 6 0 := ⟨RX6, TX6, 9, "YawnKeys", rfl, by decide, bw_213, ⟨wsIn_6, Or.inl rfl⟩, fun x hx => hx.elim, tyX6, tyX6_ok, nmX6⟩
theorem fo_6_46_6 : FieldOK RX6 46 6 7 0 := ⟨RX6, TX6, 9, "YawnKeys", rfl, by decide, bw_214, ⟨wsIn_6, Or.inl rfl⟩, fun x hx => hx.elim, tyX6, tyX6_ok, nmX6⟩
theorem fo_6_53_6 : FieldOK RX6 53 6 8 0 := ⟨RX6, TX6, 9, "YawnKeys", rfl, by decide, bw_215, ⟨wsIn_6, Or.inl rfl⟩, fun x hx => hx.elim, tyX6, tyX6_ok, nmX6⟩
def fX6 : List ((Nat × Nat) × Nat × Nat) := [((85, 0), 5, 0), ((61, 0), 6, 1), ((72, 0), 7, 1), ((96, 0), 1, 0), ((115, 0), 2, 1), ((118, 0), 3, 1), ((121, 0), 4, 1), ((138, 2), 1, 1), ((105, 5), 1, 1), ((180, 3), 0, 0), ((176, 3), 1, 1), ((177, 3), 2, 1), ((230, 4), 0, 0), ((223, 4), 1, 1), ((10, 6), 0, 0), ((16, 6), 1, 0), ((22, 6), 2, 0), ((26, 6), 3, 0), ((29, 6), 4, 0), ((32, 6), 5, 2), ((39, 6), 6, 0), ((46, 6), 7, 0), ((53, 6), 8, 0)]
theorem fX6_ok : ∀ q ∈ fX6, FieldOK RX6 q.1.1 q.1.2 q.2.1 q.2.2 := all_cons fo_6_85_0 (all_cons fo_6_61_0 (all_cons fo_6_72_0 (all_cons fo_6_96_0 (all_cons fo_6_115_0 (all_cons fo_6_118_0 (all_cons fo_6_121_0 (all_cons fo_6_138_2 (all_cons fo_6_105_5 (all_cons fo_6_180_3 (all_cons fo_6_176_3 (all_cons fo_6_177_3 (all_cons fo_6_230_4 (all_cons fo_6_223_4 (all_cons fo_6_10_6 (all_cons fo_6_16_6 (all_cons fo_6_22_6 (all_cons fo_6_26_6 (all_cons fo_6_29_6 (all_cons fo_6_32_6 (all_cons fo_6_39_6 (all_cons fo_6_46_6 (all_cons fo_6_53_6 (all_nil)))))))))))))))))))))))
theorem fl_6_85_0 : fT fX6 85 0 = some (5, 0) := by decide +kernel
theorem fl_6_61_0 : fT fX6 61 0 = some (6, 1) := by decide +kernel
theorem fl_6_72_0 : fT fX6 72 0 = some (7, 1) := by decide +kernel
theorem fl_6_96_0 : fT fX6 96 0 = some (1, 0) := by decide +kernel
theorem fl_6_115_0 : fT fX6 115 0 = some (2, 1) := by decide +kernel
theorem fl_6_118_0 : fT fX6 118 0 = some (3, 1) := by decide +kernel
theorem fl_6_121_0 : fT fX6 121 0 = some (4, 1) := by decide +kernel
theorem fl_6_138_2 : fT fX6 138 2 = some (1, 1) := by decide +kernel
theorem fl_6_105_5 : fT fX6 105 5 = some (1, 1) := by decide +kernel
theorem fl_6_180_3 : fT fX6 180 3 = some (0, 0) := by decide +kernel
theorem fl_6_176_3 : fT fX6 176 3 = some (1, 1) := by decide +kernel
theorem fl_6_177_3 : fT fX6 177 3 = some (2, 1) := by decide +kernel
theorem fl_6_230_4 : fT fX6 230 4 = some (0, 0) := by decide +kernel
theorem fl_6_223_4 : fT fX6 223 4 = some (1, 1) := by decide +kernel
theorem fl_6_10_6 : fT fX6 10 6 = some (0, 0) := by decide +kernel
theorem fl_6_16_6 : fT fX6 16 6 = some (1, 0) := by decide +kernel
theorem fl_6_22_6 : fT fX6 22 6 = some (2, 0) := by decide +kernel
theorem fl_6_26_6 : fT fX6 26 6 = some (3, 0) := by decide +kernel
theorem fl_6_29_6 : fT fX6 29 6 = some (4, 0) := by decide +kernel
theorem fl_6_32_6 : fT fX6 32 6 = some (5, 2) := by decide +kernel
theorem fl_6_39_6 : fT fX6 39 6 = some (6, 0) := by decide +kernel
theorem fl_6_46_6 : fT fX6 46 6 = some (7, 0) := by decide +kernel
theorem fl_6_53_6 : fT fX6 53 6 = some (8, 0) := by decide +kernel
def kX6 : List (Nat × (Int32 ⊕ Int64)) := []
theorem kX6_ok : ∀ q ∈ kX6, conOK RX6 q := all_nil
theorem fo_7_60_7 : FieldOK RX7 60 7 0 1 := ⟨RX7, TX7, 26, "YawnKeysModel", rfl, by decide, bw_710, ⟨wsIn_7, Or.inl rfl⟩, fun x _ => ⟨.int, rfl, by decide +kernel, rfl, rfl⟩, tyX7, tyX7_ok, nmX7⟩
theorem fo_7_7_7 : FieldOK RX7 7 7 1 1 := ⟨RX7, TX7, 26, "YawnKeysModel", rfl, by decide, bw_711, ⟨wsIn_7, Or.inl rfl⟩, fun x _ => ⟨.int, rfl, by decide +kernel, rfl, rfl⟩, tyX7, tyX7_ok, nmX7⟩
theorem fo_7_13_7 : FieldOK RX7 13 7 2 0 := ⟨RX7, TX7, 26, "YawnKeysModel", rfl, by decide, bw_712, ⟨wsIn_7, Or.inl rfl⟩, fun x hx => hx.elim, tyX7, tyX7_ok, nmX7⟩
theorem fo_7_17_7 : FieldOK RX7 17 7 3 0 := ⟨RX7, TX7, 26, "YawnKeysModel", rfl, by decide, bw_713, ⟨wsIn_7, Or.inl rfl⟩, fun x hx => hx.elim, tyX7, tyX7_ok, nmX7⟩
theorem fo_7_20_7 : FieldOK RX7 20 7 4 0 := ⟨RX7, TX7, 26, "YawnKeysModel", rfl, by decide, bw_714, ⟨wsIn_7, Or.inl rfl⟩, fun x hx => hx.elim, tyX7, tyX7_ok, nmX7⟩
theorem fo_7_23_7 : FieldOK RX7 23 7 5 0 := ⟨RX7, TX7, 26, "YawnKeysModel", rfl, by decide, bw_715, ⟨wsIn_7, Or.inl rfl⟩, fun x hx => hx.elim, tyX7, tyX7_ok, nmX7⟩
theorem fo_7_104_7 : FieldOK RX7 104 7 6 1 := ⟨RX7, TX7, 26, "YawnKeysModel", rfl, by decide, bw_716, ⟨wsIn_7, Or.inl rfl⟩, fun x _ => ⟨.int, rfl, by decide +kernel, rfl, rfl⟩, tyX7, tyX7_ok, nmX7⟩
theorem fo_7_207_7 : FieldOK RX7 207 7 7 2 := ⟨RX7, TX7, 26, "YawnKeysModel", rfl, by decide, bw_717, ⟨wsIn_7, Or.inl rfl⟩, fun x hx => ⟨.boolean, rfl, by decide +kernel, by rcases hx with rfl | rfl <;> rfl, by rcases hx with rfl | rfl <;> rfl⟩, tyX7, tyX7_ok, nmX7⟩
theorem fo_7_26_7 : FieldOK RX7 26 7 8 0 := ⟨RX7, TX7, 26, "YawnKeysModel", rfl, by decide, bw_718, ⟨wsIn_7, Or.inl rfl⟩, fun x hx => hx.elim, tyX7, tyX7_ok, nmX7⟩
theorem fo_7_29_7 : FieldOK RX7 29 7 9 0 := ⟨RX7, TX7, 26, "YawnKeysModel", rfl, by decide, bw_719, ⟨wsIn_7, Or.inl rfl⟩, fun x hx => hx.elim, tyX7, tyX7_ok, nmX7⟩
theorem fo_7_32_7 : FieldOK RX7 32 7 10 0 := ⟨RX7, TX7, 26, "YawnKeysModel", rfl, by decide, bw_720, ⟨wsIn_7, Or.inl rfl⟩, fun x hx => hx.elim, tyX7, tyX7_ok, nmX7⟩
theorem fo_7_35_7 : FieldOK RX7 35 7 11 0 := ⟨RX7, TX7, 26, "YawnKeysModel", rfl, by decide, bw_721, ⟨wsIn_7, Or.inl rfl⟩, fun x hx => hx.elim, tyX7, tyX7_ok, nmX7⟩
theorem fo_7_39_7 : FieldOK RX7 39 7 12 0 := ⟨RX7, TX7, 26, "YawnKeysModel", rfl, by decide, bw_722, ⟨wsIn_7, Or.inl rfl⟩, fun x hx => hx.elim, tyX7, tyX7_ok, nmX7⟩
theorem fo_7_42_7 : FieldOK RX7 42 7 13 0 := ⟨RX7, TX7, 26, "YawnKeysModel", rfl, by decide, bw_723, ⟨wsIn_7, Or.inl rfl⟩, fun x hx => hx.elim, tyX7, tyX7_ok, nmX7⟩
theorem fo_7_129_7 : FieldOK RX7 129 7 14 1 := ⟨RX7, TX7, 26, "YawnKeysModel", rfl, by decide, bw_724, ⟨wsIn_7, Or.inl rfl⟩, fun x _ => ⟨.int, rfl, by decide +kernel, rfl, rfl⟩, tyX7, tyX7_ok, nmX7⟩
theorem fo_7_45_7 : FieldOK RX7 45 7 15 0 := ⟨RX7, TX7, 26, "YawnKeysModel", rfl, by decide, bw_725, ⟨wsIn_7, Or.inl rfl⟩, fun x hx => hx.elim, tyX7, tyX7_ok, nmX7⟩
theorem fo_7_48_7 : FieldOK RX7 48 7 16 1 := ⟨RX7, TX7, 26, "YawnKeysModel", rfl, by decide, bw_726, ⟨wsIn_7, Or.inl rfl⟩, fun x _ => ⟨.int, rfl, by decide +kernel, rfl, rfl⟩, tyX7, tyX7_ok, nmX7⟩
theorem fo_7_69_7 : FieldOK RX7 69 7 17 1 := ⟨RX7, TX7, 26, "YawnKeysModel", rfl, by decide, bw_727, ⟨wsIn_7, Or.inl rfl⟩, fun x _ => ⟨.int, rfl, by decide +kernel, rfl, rfl⟩, tyX7, tyX7_ok, nmX7⟩
theorem fo_7_51_7 : FieldOK RX7 51 7 18 0 := ⟨RX7, TX7, 26, "YawnKeysModel", rfl, by decide, bw_728, ⟨wsIn_7, Or.inl rfl⟩, fun x hx => hx.elim, tyX7, tyX7_ok, nmX7⟩
theorem fo_7_79_7 : FieldOK RX7 79 7 19 1 := ⟨RX7, TX7, 26, "YawnKeysModel", rfl, by decide, bw_729, ⟨wsIn_7, Or.inl rfl⟩, fun x _ => ⟨.int, rfl, by decide +kernel, rfl, rfl⟩, tyX7, tyX7_ok, nmX7⟩
theorem fo_7_132_7 : FieldOK RX7 132 7 20 1 := ⟨RX7, TX7, 26, "YawnKeysModel", rfl, by decide, bw_730, ⟨wsIn_7, Or.inl rfl⟩, fun x _ => ⟨.int, rfl, by decide +kernel, rfl, rfl⟩, tyX7, tyX7_ok, nmX7⟩
theorem fo_7_135_7 : FieldOK RX7 135 7 21 1 := ⟨RX7, TX7, 26, "YawnKeysModel", rfl, by decide, bw_731, ⟨wsIn_7, Or.inl rfl⟩, fun x _ => ⟨.int, rfl, by decide +kernel, rfl, rfl⟩, tyX7, tyX7_ok, nmX7⟩
theorem fo_7_149_7 : FieldOK RX7 149 7 22 1 := ⟨RX7, TX7, 26, "YawnKeysModel", rfl, by decide, bw_732, ⟨wsIn_7, Or.inl rfl⟩, fun x _ => ⟨.int, rfl, by decide +kernel, rfl, rfl⟩, tyX7, tyX7_ok, nmX7⟩
theorem fo_7_155_7 : FieldOK RX7 155 7 23 1 := ⟨RX7, TX7, 26, "YawnKeysModel", rfl, by decide, bw_733, ⟨wsIn_7, Or.inl rfl⟩, fun x _ => ⟨.int, rfl, by decide +kernel, rfl, rfl⟩, tyX7, tyX7_ok, nmX7⟩
theorem fo_7_54_7 : FieldOK RX7 54 7 24 0 := ⟨RX7, TX7, 26, "YawnKeysModel", rfl, by decide, bw_734, ⟨wsIn_7, Or.inl rfl⟩, fun x hx => hx.elim, tyX7, tyX7_ok, nmX7⟩
theorem fo_7_57_7 : FieldOK RX7 57 7 25 0 := ⟨RX7, TX7, 26, "YawnKeysModel", rfl, by decide, bw_735, ⟨wsIn_7, Or.inl rfl⟩, fun x hx => hx.elim, tyX7, tyX7_ok, nmX7⟩
def fX7 : List ((Nat × Nat) × Nat × Nat) := [((60, 7), 0, 1), ((7, 7), 1, 1), ((13, 7), 2, 0), ((17, 7), 3, 0), ((20, 7), 4, 0), ((23, 7), 5, 0), ((104, 7), 6, 1), ((207, 7), 7, 2), ((26, 7), 8, 0), ((29, 7), 9, 0), ((32, 7), 10, 0), ((35, 7), 11, 0), ((39, 7), 12, 0), ((42, 7), 13, 0), ((129, 7), 14, 1), ((45, 7), 15, 0), ((48, 7), 16, 1), ((69, 7), 17, 1), ((51, 7), 18, 0), ((79, 7), 19, 1), ((132, 7), 20, 1), ((135, 7), 21, 1), ((149, 7), 22, 1), ((155, 7), 23, 1), ((54, 7), 24, 0), ((57, 7), 25, 0)]
theorem fX7_ok : ∀ q ∈ fX7, FieldOK RX7 q.1.1 q.1.2 q.2.1 q.2.2 := all_cons fo_7_60_7 (all_cons fo_7_7_7 (all_cons fo_7_13_7 (all_cons fo_7_17_7 (all_cons fo_7_20_7 (all_cons fo_7_23_7 (all_cons fo_7_104_7 (all_cons fo_7_207_7 (all_cons fo_7_26_7 (all_cons fo_7_29_7 (all_cons fo_7_32_7 (all_cons fo_7_35_7 (all_cons fo_7_39_7 (all_cons fo_7_42_7 (all_cons fo_7_129_7 (all_cons fo_7_45_7 (all_cons fo_7_48_7 (all_cons fo_7_69_7 (all_cons fo_7_51_7 (all_cons fo_7_79_7 (all_cons fo_7_132_7 (all_cons fo_7_135_7 (all_cons fo_7_149_7 (all_cons fo_7_155_7 (all_cons fo_7_54_7 (all_cons fo_7_57_7 (all_nil))))))))))))))))))))))))))
theorem fl_7_60_7 : fT fX7 60 7 = some (0, 1) := by decide +kernel
theorem fl_7_7_7 : fT fX7 7 7 = some (1, 1) := by decide +kernel
theorem fl_7_13_7 : fT fX7 13 7 = some (2, 0) := by decide +kernel
theorem fl_7_17_7 : fT fX7 17 7 = some (3, 0) := by decide +kernel
theorem fl_7_20_7 : fT fX7 20 7 = some (4, 0) := by decide +kernel
theorem fl_7_23_7 : fT fX7 23 7 = some (5, 0) := by decide +kernel
theorem fl_7_104_7 : fT fX7 104 7 = some (6, 1) := by decide +kernel
theorem fl_7_207_7 : fT fX7 207 7 = some (7, 2) := by decide +kernel
theorem fl_7_26_7 : fT fX7 26 7 = some (8, 0) := by decide +kernel
theorem fl_7_29_7 : fT fX7 29 7 = some (9, 0) := by decide +kernel
theorem fl_7_32_7 : fT fX7 32 7 = some (10, 0) := by decide +kernel
theorem fl_7_35_7 : fT fX7 35 7 = some (11, 0) := by decide +kernel
theorem fl_7_39_7 : fT fX7 39 7 = some (12, 0) := by decide +kernel
theorem fl_7_42_7 : fT fX7 42 7 = some (13, 0) := by decide +kernel
theorem fl_7_129_7 : fT fX7 129 7 = some (14, 1) := by decide +kernel
theorem fl_7_45_7 : fT fX7 45 7 = some (15, 0) := by decide +kernel
theorem fl_7_48_7 : fT fX7 48 7 = some (16, 1) := by decide +kernel
theorem fl_7_69_7 : fT fX7 69 7 = some (17, 1) := by decide +kernel
theorem fl_7_51_7 : fT fX7 51 7 = some (18, 0) := by decide +kernel
theorem fl_7_79_7 : fT fX7 79 7 = some (19, 1) := by decide +kernel
theorem fl_7_132_7 : fT fX7 132 7 = some (20, 1) := by decide +kernel
theorem fl_7_135_7 : fT fX7 135 7 = some (21, 1) := by decide +kernel
theorem fl_7_149_7 : fT fX7 149 7 = some (22, 1) := by decide +kernel
theorem fl_7_155_7 : fT fX7 155 7 = some (23, 1) := by decide +kernel
theorem fl_7_54_7 : fT fX7 54 7 = some (24, 0) := by decide +kernel
theorem fl_7_57_7 : fT fX7 57 7 = some (25, 0) := by decide +kernel
def kX7 : List (Nat × (Int32 ⊕ Int64)) := [(100, .inr (4 : Int64)), (102, .inr (20 : Int64)), (67, .inr (3 : Int64)), (114, .inr (2 : Int64)), (125, .inr (32 : Int64)), (127, .inr (126 : Int64)), (138, .inr (48 : Int64)), (140, .inr (57 : Int64)), (158, .inr (97 : Int64)), (160, .inr (117 : Int64)), (181, .inr (40 : Int64)), (189, .inr (1103515245 : Int64)), (191, .inr (12345 : Int64)), (193, .inr (2147483647 : Int64)), (195, .inl (65536 : Int32)), (196, .inr (60 : Int64)), (201, .inr (30 : Int64)), (203, .inr (-2 : Int64)), (205, .inr (10 : Int64)), (225, .inr (8 : Int64)), (241, .inr (24 : Int64))]
theorem kX7_ok : ∀ q ∈ kX7, conOK RX7 q := all_cons bw_793 (all_cons bw_797 (all_cons bw_813 (all_cons bw_818 (all_cons bw_855 (all_cons bw_856 (all_cons bw_876 (all_cons bw_877 (all_cons bw_885 (all_cons bw_886 (all_cons bw_907 (all_cons bw_940 (all_cons bw_941 (all_cons bw_942 (all_cons bw_943 (all_cons bw_956 (all_cons bw_985 (all_cons bw_986 (all_cons bw_999 (all_cons bw_1018 (all_cons bw_1047 (all_nil)))))))))))))))))))))
theorem cl_7_100 : cT kX7 100 = some (.inr (4 : Int64)) := by decide +kernel
theorem cl_7_102 : cT kX7 102 = some (.inr (20 : Int64)) := by decide +kernel
theorem cl_7_67 : cT kX7 67 = some (.inr (3 : Int64)) := by decide +kernel
theorem cl_7_114 : cT kX7 114 = some (.inr (2 : Int64)) := by decide +kernel
theorem cl_7_125 : cT kX7 125 = some (.inr (32 : Int64)) := by decide +kernel
theorem cl_7_127 : cT kX7 127 = some (.inr (126 : Int64)) := by decide +kernel
theorem cl_7_138 : cT kX7 138 = some (.inr (48 : Int64)) := by decide +kernel
theorem cl_7_140 : cT kX7 140 = some (.inr (57 : Int64)) := by decide +kernel
theorem cl_7_158 : cT kX7 158 = some (.inr (97 : Int64)) := by decide +kernel
theorem cl_7_160 : cT kX7 160 = some (.inr (117 : Int64)) := by decide +kernel
theorem cl_7_181 : cT kX7 181 = some (.inr (40 : Int64)) := by decide +kernel
theorem cl_7_189 : cT kX7 189 = some (.inr (1103515245 : Int64)) := by decide +kernel
theorem cl_7_191 : cT kX7 191 = some (.inr (12345 : Int64)) := by decide +kernel
theorem cl_7_193 : cT kX7 193 = some (.inr (2147483647 : Int64)) := by decide +kernel
theorem cl_7_195 : cT kX7 195 = some (.inl (65536 : Int32)) := by decide +kernel
theorem cl_7_196 : cT kX7 196 = some (.inr (60 : Int64)) := by decide +kernel
theorem cl_7_201 : cT kX7 201 = some (.inr (30 : Int64)) := by decide +kernel
theorem cl_7_203 : cT kX7 203 = some (.inr (-2 : Int64)) := by decide +kernel
theorem cl_7_205 : cT kX7 205 = some (.inr (10 : Int64)) := by decide +kernel
theorem cl_7_225 : cT kX7 225 = some (.inr (8 : Int64)) := by decide +kernel
theorem cl_7_241 : cT kX7 241 = some (.inr (24 : Int64)) := by decide +kernel
end
section
/-! ===== small words for specs ===== -/
def bI (b : Bool) : Int32 := if b = true then 1 else 0
theorem bI_t : bI true = 1 := rfl
theorem bI_f : bI false = 0 := rfl
theorem bI_eq0 {b : Bool} : bI b = 0 ↔ b = false := by cases b <;> simp [bI]
theorem bI_ne0 {b : Bool} : ¬ bI b = 0 ↔ b = true := by cases b <;> simp [bI]
theorem bI_01 {b : Bool} : bI b = 0 ∨ bI b = 1 := by cases b <;> simp [bI]
/-- a ≤ v ≤ b -/
def inr (v a b : Int32) : Bool := decide (a ≤ v) && decide (v ≤ b)
theorem inr_iff {v a b : Int32} : inr v a b = true ↔ a ≤ v ∧ v ≤ b := by simp [inr]
theorem inr_no {v a b : Int32} : inr v a b = false ↔ ¬ (a ≤ v ∧ v ≤ b) := by
  cases h : inr v a b
  · simp only [true_iff]
    intro z
    rw [inr_iff.mpr z] at h
    cases h
  · simp only [Bool.true_eq_false, false_iff, Classical.not_not]
    exact inr_iff.mp h
/-- an object of class number ci -/
def obj1 (σ : Hp) (a ci : Nat) (k : List Value → Prop) : Prop := a ∈ σ.1 ∧ (match σ.2 a with | .inr (c, fs) => c = ci ∧ k fs | _ => False)
def fI (fs : List Value) (j : Nat) (k : Int32 → Prop) : Prop := match fs[j]? with | some (.int x) => k x | _ => False
def fR (fs : List Value) (j : Nat) (k : Nat → Prop) : Prop := match fs[j]? with | some (.ref x) => k x | _ => False
theorem obj1_mono {σ : Hp} {a ci : Nat} {k k' : List Value → Prop} (hk : ∀ fs, k fs → k' fs) (h : obj1 σ a ci k) : obj1 σ a ci k' := by
  obtain ⟨h1, h2⟩ := h
  refine ⟨h1, ?_⟩
  split at h2
  · exact ⟨h2.1, hk _ h2.2⟩
  · exact h2.elim
theorem obj1_recv {σ : Hp} {a ci : Nat} {k : List Value → Prop} (h : obj1 σ a ci k) : ∃ fs, a ∈ σ.1 ∧ σ.2 a = .inr (ci, fs) ∧ k fs := by
  obtain ⟨h1, h2⟩ := h
  split at h2
  · next c fs e => exact ⟨fs, h1, by rw [e, h2.1], h2.2⟩
  · exact h2.elim
theorem fI_mono {fs : List Value} {j : Nat} {k k' : Int32 → Prop} (hk : ∀ x, k x → k' x) (h : fI fs j k) : fI fs j k' := by
  unfold fI at h ⊢
  split at h
  · exact hk _ h
  · exact h.elim
theorem fR_mono {fs : List Value} {j : Nat} {k k' : Nat → Prop} (hk : ∀ x, k x → k' x) (h : fR fs j k) : fR fs j k' := by
  unfold fR at h ⊢
  split at h
  · exact hk _ h
  · exact h.elim
theorem arI_recv {Γ : Cx} {σ : Hp} {a : Nat} {k : Nat → (Nat → Int32) → Prop} (h : arI Γ σ a k) : ∃ n f, a ∈ σ.1 ∧ σ.2 a = .inl (Γ.2.2.2.1 0, n, .inl f) ∧ k n f := by
  obtain ⟨h1, h2⟩ := h
  split at h2
  · next c n f e => exact ⟨n, f, h1, by rw [e, h2.1], h2.2⟩
  · exact h2.elim
theorem fI_recv {fs : List Value} {j : Nat} {k : Int32 → Prop} (h : fI fs j k) : ∃ x, fs[j]? = some (.int x) ∧ k x := by
  unfold fI at h
  split at h
  · next x e => exact ⟨x, e, h⟩
  · exact h.elim
theorem fR_recv {fs : List Value} {j : Nat} {k : Nat → Prop} (h : fR fs j k) : ∃ x, fs[j]? = some (.ref x) ∧ k x := by
  unfold fR at h
  split at h
  · next x e => exact ⟨x, e, h⟩
  · exact h.elim
/-- an int array's cell -/
def iA (Γ : Cx) (n : Nat) (f : Nat → Int32) : va_E := .inl (Γ.2.2.2.1 0, n, .inl f)
def lA (Γ : Cx) (n : Nat) (f : Nat → Int64) : va_E := .inl (Γ.2.2.2.1 1, n, .inr (.inl f))
theorem f4_0 : (Fin.val (0 : Fin 4)) = 0 := rfl
theorem f4_1 : (Fin.val (1 : Fin 4)) = 1 := rfl
theorem f4_2 : (Fin.val (2 : Fin 4)) = 2 := rfl
theorem f4_3 : (Fin.val (3 : Fin 4)) = 3 := rfl
theorem lc_0 : Int64.ofNat (Fin.val (0 : Fin 2)) = 0 := rfl
theorem lc_1 : Int64.ofNat (Fin.val (1 : Fin 2)) = 1 := rfl
theorem rok_i {v : Int32} : rok (some .int) v = True := rfl
theorem rok_b {v : Int32} : rok (some .boolean) v = (v = 0 ∨ v = 1) := rfl
theorem fput_1 {x : Int32} : fput 1 x = True := rfl
theorem fput_2 {x : Int32} : fput 2 x = (x = 0 ∨ x = 1) := rfl
theorem csum_nil : csum [] = 0 := rfl
theorem csum_i {x : Int32} {r : List Value} : csum (.int x :: r) = 1 + csum r := rfl
theorem csum_l {x : Int64} {r : List Value} : csum (.long x :: r) = 2 + csum r := rfl
theorem csum_r {x : Nat} {r : List Value} : csum (.ref x :: r) = 1 + csum r := rfl
theorem isL_i {x : Int32} : isL (.int x) = false := rfl
theorem isL_r {x : Nat} : isL (.ref x) = false := rfl
theorem isL_l {x : Int64} : isL (.long x) = true := rfl
end
section
/-! ===== within, isDoor, isSheet, isLane ===== -/
theorem i_nlt {a b : Int32} : ¬ a < b ↔ b ≤ a := Int32.not_lt
theorem i_nle {a b : Int32} : ¬ a ≤ b ↔ b < a := Int32.not_le
def sp_X6_within (_ : Cx) : YSp := fun av σ K => match av with | [.int v, .int a, .int b] => K (some (.int (bI (inr v a b)))) σ | _ => False
theorem mono_X6_within {Γ : Cx} : Mono (sp_X6_within Γ) := by
  intro av σ K K' hk h
  unfold sp_X6_within at h ⊢
  split at h
  · exact hk _ _ h
  · exact h.elim
theorem rv_X6_within {Γ : Cx} : Args (sp_X6_within Γ) 3 := by
  intro av σ K h
  unfold sp_X6_within at h
  split at h
  · rfl
  · exact h.elim
theorem tg_2_12 : tgo 2 12 = some 14 := by decide
theorem tg_7_7 : tgo 7 7 = some 14 := by decide
theorem ic_1 : Int32.ofInt 1 = 1 := by decide
theorem tg_11_4 : tgo 11 4 = some 15 := by decide
theorem ic_0 : Int32.ofInt 0 = 0 := by decide
def mX6_within : Mt := (⟨0, 0, 0, 0⟩, RX6, cX6_within, 3, some .boolean, (0, 0), false)
theorem mX6_within_c : mX6_within.2.2.1 = cX6_within := rfl
theorem mX6_within_n : mX6_within.2.2.2.1 = 3 := rfl
theorem mX6_within_r : mX6_within.2.2.2.2.1 = some .boolean := rfl
theorem mX6_within_l : mX6_within.2.2.2.2.2.2 = false := rfl
def jX6_within (Γ : Cx) : List ((Nat × Nat) × Nat × Bool × YSp) := []
theorem uX6_within (Γ : Cx) : TbOK Γ mX6_within (fT fX6, cT kX6, kT (jX6_within Γ)) := tb_ok fX6_ok kX6_ok (all_nil)
set_option maxRecDepth 20000 in
theorem ok_X6_within (Γ : Cx) : Ok Γ yX6_within mX6_within (sp_X6_within Γ) := by
  refine ok_intro (by decide +kernel) rfl rfl ?_
  intro av σ K h
  unfold sp_X6_within at h
  split at h
  · next v a b =>
    refine ⟨Nat.le_of_ble_eq_true rfl, yvc_ok (uX6_within Γ) (S := []) 40 _ _ _ _ ?_⟩
    simp only [lv_args, Value.category, yvc_s, s1i, s2i, s1l, s2l, sil, s1r, sir, siir, slir, srir, svr, sd1, sd2, lg, lput, ldel, isL_i, isL_r, isL_l, jmp, obj, obj1, fI, fR, arI, arL, arR, hput, f4_0, f4_1, f4_2, f4_3, lc_0, lc_1, rok_i, rok_b, fput_1, fput_2, csum_nil, csum_i, csum_l, csum_r, va_up_self, bx_uu, Int.reduceAdd, List.elem_nil, List.elem_cons, List.take_succ_cons, List.take_zero, List.drop_succ_cons, List.drop_zero, List.take_nil, List.drop_nil, List.reverse_cons, List.reverse_nil, List.nil_append, List.cons_append, List.append_nil, Option.toList_some, Option.toList_none, List.getElem?_cons_zero, List.getElem?_cons_succ, List.set_cons_zero, List.set_cons_succ, List.length_cons, List.length_nil, reduceIte, reduceCtorEq, and_true, true_and, and_self, or_true, true_or, false_and, and_false, not_true_eq_false, not_false_eq_true, true_implies, false_implies, implies_true, Nat.reduceAdd, Nat.reduceLT, Nat.reduceEqDiff, Nat.reduceLeDiff, Nat.reduceBEq, Nat.zero_add, Nat.lt_add_one, Bool.false_eq_true, Bool.or_false, Bool.or_true, Bool.or_self, Nat.zero_ne_one, Nat.one_ne_zero, ite_true, ite_false, ne_eq, Nat.reduceSub, Nat.succ_eq_add_one, Nat.zero_lt_succ, Nat.add_one_ne_zero, false_or, or_false, mX6_within_c, mX6_within_n, mX6_within_r, mX6_within_l, dX6_within_0, dX6_within_1, dX6_within_2, tg_2_12, cnd2_lt, dX6_within_5, dX6_within_6, dX6_within_7, tg_7_7, cnd2_gt, dX6_within_10, ic_1, dX6_within_11, tg_11_4, dX6_within_14, ic_0, dX6_within_15, st_goto, st_iconst, st_if_icmp, st_iload_n, st_ireturn]
    refine ⟨fun c => ?_, fun c => ⟨fun d => ?_, fun d => ?_⟩⟩
    · rw [inr_no.mpr (fun z => (i_nle.mpr c) z.1)] at h
      exact h
    · rw [inr_no.mpr (fun z => (i_nle.mpr d) z.2)] at h
      exact h
    · rw [inr_iff.mpr ⟨i_nlt.mp c, i_nlt.mp d⟩] at h
      exact h
  · exact h.elim
def sp_X6_isDoor (_ : Cx) : YSp := fun av σ K => match av with | [.int v] => K (some (.int (bI (inr v 0 3)))) σ | _ => False
theorem mono_X6_isDoor {Γ : Cx} : Mono (sp_X6_isDoor Γ) := by
  intro av σ K K' hk h
  unfold sp_X6_isDoor at h ⊢
  split at h
  · exact hk _ _ h
  · exact h.elim
theorem rv_X6_isDoor {Γ : Cx} : Args (sp_X6_isDoor Γ) 1 := by
  intro av σ K h
  unfold sp_X6_isDoor at h
  split at h
  · rfl
  · exact h.elim
theorem bw_241 : Cond.code yX6_within cX6_within 3 (some .boolean) ∈ BW := bw_i 241 (by decide +kernel) (by decide +kernel)
theorem bw_42 : Cond.initialized RX6 ∈ BW := bw_i 42 (by decide +kernel) (by decide +kernel)
theorem no_X6_within : NameOK yX6_within 3 := by unfold NameOK; decide +kernel
theorem bw_239 : Cond.methodLink RX6 57 yX6_within ∈ BW := bw_i 239 (by decide +kernel) (by decide +kernel)
theorem bw_240 : Cond.static yX6_within ∈ BW := bw_i 240 (by decide +kernel) (by decide +kernel)
theorem ic_3 : Int32.ofInt 3 = 3 := by decide
def mX6_isDoor : Mt := (⟨1, 0, 0, 22⟩, RX6, cX6_isDoor, 1, some .boolean, (0, 0), false)
theorem mX6_isDoor_c : mX6_isDoor.2.2.1 = cX6_isDoor := rfl
theorem mX6_isDoor_n : mX6_isDoor.2.2.2.1 = 1 := rfl
theorem mX6_isDoor_r : mX6_isDoor.2.2.2.2.1 = some .boolean := rfl
theorem mX6_isDoor_l : mX6_isDoor.2.2.2.2.2.2 = false := rfl
def jX6_isDoor (Γ : Cx) : List ((Nat × Nat) × Nat × Bool × YSp) := [((1, 57), 3, true, sp_X6_within Γ)]
theorem jX6_isDoor_1_57 (Γ : Cx) : kT (jX6_isDoor Γ) 1 57 = some (3, true, sp_X6_within Γ) := rfl
theorem uX6_isDoor (Γ : Cx) : TbOK Γ mX6_isDoor (fT fX6, cT kX6, kT (jX6_isDoor Γ)) := tb_ok fX6_ok kX6_ok (all_cons ⟨call_S (n := 3) (ok_X6_within Γ) (rv_X6_within (Γ := Γ)) bw_241 bw_239 bw_240 bw_42 no_X6_within ⟨⟨rfl, rfl⟩, ⟨by decide, by decide⟩, ⟨by decide, by decide⟩⟩, fun _ => mono_X6_within (Γ := Γ)⟩ (all_nil))
set_option maxRecDepth 20000 in
theorem ok_X6_isDoor (Γ : Cx) : Ok Γ yX6_isDoor mX6_isDoor (sp_X6_isDoor Γ) := by
  refine ok_intro (by decide +kernel) rfl rfl ?_
  intro av σ K h
  unfold sp_X6_isDoor at h
  split at h
  · next v =>
    refine ⟨Nat.le_of_ble_eq_true rfl, yvc_ok (uX6_isDoor Γ) (S := []) 40 _ _ _ _ ?_⟩
    simp only [lv_args, Value.category, sp_X6_within, yvc_s, s1i, s2i, s1l, s2l, sil, s1r, sir, siir, slir, srir, svr, sd1, sd2, lg, lput, ldel, isL_i, isL_r, isL_l, jmp, obj, obj1, fI, fR, arI, arL, arR, hput, f4_0, f4_1, f4_2, f4_3, lc_0, lc_1, rok_i, rok_b, fput_1, fput_2, csum_nil, csum_i, csum_l, csum_r, va_up_self, bx_uu, Int.reduceAdd, List.elem_nil, List.elem_cons, List.take_succ_cons, List.take_zero, List.drop_succ_cons, List.drop_zero, List.take_nil, List.drop_nil, List.reverse_cons, List.reverse_nil, List.nil_append, List.cons_append, List.append_nil, Option.toList_some, Option.toList_none, List.getElem?_cons_zero, List.getElem?_cons_succ, List.set_cons_zero, List.set_cons_succ, List.length_cons, List.length_nil, reduceIte, reduceCtorEq, and_true, true_and, and_self, or_true, true_or, false_and, and_false, not_true_eq_false, not_false_eq_true, true_implies, false_implies, implies_true, Nat.reduceAdd, Nat.reduceLT, Nat.reduceEqDiff, Nat.reduceLeDiff, Nat.reduceBEq, Nat.zero_add, Nat.lt_add_one, Bool.false_eq_true, Bool.or_false, Bool.or_true, Bool.or_self, Nat.zero_ne_one, Nat.one_ne_zero, ite_true, ite_false, ne_eq, Nat.reduceSub, Nat.succ_eq_add_one, Nat.zero_lt_succ, Nat.add_one_ne_zero, false_or, or_false, mX6_isDoor_c, mX6_isDoor_n, mX6_isDoor_r, mX6_isDoor_l, dX6_isDoor_0, dX6_isDoor_1, ic_0, dX6_isDoor_2, ic_3, dX6_isDoor_3, dX6_isDoor_6, jX6_isDoor_1_57, st_iconst, st_iload_n, st_invokestatic, st_ireturn]
    exact ⟨bI_01, h⟩
  · exact h.elim
def sp_X6_isSheet : Cx → YSp := sp_X6_isDoor
theorem mono_X6_isSheet {Γ : Cx} : Mono (sp_X6_isSheet Γ) := mono_X6_isDoor
theorem rv_X6_isSheet {Γ : Cx} : Args (sp_X6_isSheet Γ) 1 := rv_X6_isDoor
def mX6_isSheet : Mt := (⟨1, 0, 0, 22⟩, RX6, cX6_isSheet, 1, some .boolean, (0, 0), false)
theorem mX6_isSheet_c : mX6_isSheet.2.2.1 = cX6_isSheet := rfl
theorem mX6_isSheet_n : mX6_isSheet.2.2.2.1 = 1 := rfl
theorem mX6_isSheet_r : mX6_isSheet.2.2.2.2.1 = some .boolean := rfl
theorem mX6_isSheet_l : mX6_isSheet.2.2.2.2.2.2 = false := rfl
def jX6_isSheet (Γ : Cx) : List ((Nat × Nat) × Nat × Bool × YSp) := [((1, 57), 3, true, sp_X6_within Γ)]
theorem jX6_isSheet_1_57 (Γ : Cx) : kT (jX6_isSheet Γ) 1 57 = some (3, true, sp_X6_within Γ) := rfl
theorem uX6_isSheet (Γ : Cx) : TbOK Γ mX6_isSheet (fT fX6, cT kX6, kT (jX6_isSheet Γ)) := tb_ok fX6_ok kX6_ok (all_cons ⟨call_S (n := 3) (ok_X6_within Γ) (rv_X6_within (Γ := Γ)) bw_241 bw_239 bw_240 bw_42 no_X6_within ⟨⟨rfl, rfl⟩, ⟨by decide, by decide⟩, ⟨by decide, by decide⟩⟩, fun _ => mono_X6_within (Γ := Γ)⟩ (all_nil))
set_option maxRecDepth 20000 in
theorem ok_X6_isSheet (Γ : Cx) : Ok Γ yX6_isSheet mX6_isSheet (sp_X6_isSheet Γ) := by
  refine ok_intro (by decide +kernel) rfl rfl ?_
  intro av σ K h
  unfold sp_X6_isSheet sp_X6_isDoor at h
  split at h
  · next v =>
    refine ⟨Nat.le_of_ble_eq_true rfl, yvc_ok (uX6_isSheet Γ) (S := []) 40 _ _ _ _ ?_⟩
    simp only [lv_args, Value.category, sp_X6_within, yvc_s, s1i, s2i, s1l, s2l, sil, s1r, sir, siir, slir, srir, svr, sd1, sd2, lg, lput, ldel, isL_i, isL_r, isL_l, jmp, obj, obj1, fI, fR, arI, arL, arR, hput, f4_0, f4_1, f4_2, f4_3, lc_0, lc_1, rok_i, rok_b, fput_1, fput_2, csum_nil, csum_i, csum_l, csum_r, va_up_self, bx_uu, Int.reduceAdd, List.elem_nil, List.elem_cons, List.take_succ_cons, List.take_zero, List.drop_succ_cons, List.drop_zero, List.take_nil, List.drop_nil, List.reverse_cons, List.reverse_nil, List.nil_append, List.cons_append, List.append_nil, Option.toList_some, Option.toList_none, List.getElem?_cons_zero, List.getElem?_cons_succ, List.set_cons_zero, List.set_cons_succ, List.length_cons, List.length_nil, reduceIte, reduceCtorEq, and_true, true_and, and_self, or_true, true_or, false_and, and_false, not_true_eq_false, not_false_eq_true, true_implies, false_implies, implies_true, Nat.reduceAdd, Nat.reduceLT, Nat.reduceEqDiff, Nat.reduceLeDiff, Nat.reduceBEq, Nat.zero_add, Nat.lt_add_one, Bool.false_eq_true, Bool.or_false, Bool.or_true, Bool.or_self, Nat.zero_ne_one, Nat.one_ne_zero, ite_true, ite_false, ne_eq, Nat.reduceSub, Nat.succ_eq_add_one, Nat.zero_lt_succ, Nat.add_one_ne_zero, false_or, or_false, mX6_isSheet_c, mX6_isSheet_n, mX6_isSheet_r, mX6_isSheet_l, dX6_isSheet_0, dX6_isSheet_1, ic_0, dX6_isSheet_2, ic_3, dX6_isSheet_3, dX6_isSheet_6, jX6_isSheet_1_57, st_iconst, st_iload_n, st_invokestatic, st_ireturn]
    exact ⟨bI_01, h⟩
  · exact h.elim
def sp_X6_isLane : Cx → YSp := sp_X6_isDoor
theorem mono_X6_isLane {Γ : Cx} : Mono (sp_X6_isLane Γ) := mono_X6_isDoor
theorem rv_X6_isLane {Γ : Cx} : Args (sp_X6_isLane Γ) 1 := rv_X6_isDoor
def mX6_isLane : Mt := (⟨1, 0, 0, 22⟩, RX6, cX6_isLane, 1, some .boolean, (0, 0), false)
theorem mX6_isLane_c : mX6_isLane.2.2.1 = cX6_isLane := rfl
theorem mX6_isLane_n : mX6_isLane.2.2.2.1 = 1 := rfl
theorem mX6_isLane_r : mX6_isLane.2.2.2.2.1 = some .boolean := rfl
theorem mX6_isLane_l : mX6_isLane.2.2.2.2.2.2 = false := rfl
def jX6_isLane (Γ : Cx) : List ((Nat × Nat) × Nat × Bool × YSp) := [((1, 57), 3, true, sp_X6_within Γ)]
theorem jX6_isLane_1_57 (Γ : Cx) : kT (jX6_isLane Γ) 1 57 = some (3, true, sp_X6_within Γ) := rfl
theorem uX6_isLane (Γ : Cx) : TbOK Γ mX6_isLane (fT fX6, cT kX6, kT (jX6_isLane Γ)) := tb_ok fX6_ok kX6_ok (all_cons ⟨call_S (n := 3) (ok_X6_within Γ) (rv_X6_within (Γ := Γ)) bw_241 bw_239 bw_240 bw_42 no_X6_within ⟨⟨rfl, rfl⟩, ⟨by decide, by decide⟩, ⟨by decide, by decide⟩⟩, fun _ => mono_X6_within (Γ := Γ)⟩ (all_nil))
set_option maxRecDepth 20000 in
theorem ok_X6_isLane (Γ : Cx) : Ok Γ yX6_isLane mX6_isLane (sp_X6_isLane Γ) := by
  refine ok_intro (by decide +kernel) rfl rfl ?_
  intro av σ K h
  unfold sp_X6_isLane sp_X6_isDoor at h
  split at h
  · next v =>
    refine ⟨Nat.le_of_ble_eq_true rfl, yvc_ok (uX6_isLane Γ) (S := []) 40 _ _ _ _ ?_⟩
    simp only [lv_args, Value.category, sp_X6_within, yvc_s, s1i, s2i, s1l, s2l, sil, s1r, sir, siir, slir, srir, svr, sd1, sd2, lg, lput, ldel, isL_i, isL_r, isL_l, jmp, obj, obj1, fI, fR, arI, arL, arR, hput, f4_0, f4_1, f4_2, f4_3, lc_0, lc_1, rok_i, rok_b, fput_1, fput_2, csum_nil, csum_i, csum_l, csum_r, va_up_self, bx_uu, Int.reduceAdd, List.elem_nil, List.elem_cons, List.take_succ_cons, List.take_zero, List.drop_succ_cons, List.drop_zero, List.take_nil, List.drop_nil, List.reverse_cons, List.reverse_nil, List.nil_append, List.cons_append, List.append_nil, Option.toList_some, Option.toList_none, List.getElem?_cons_zero, List.getElem?_cons_succ, List.set_cons_zero, List.set_cons_succ, List.length_cons, List.length_nil, reduceIte, reduceCtorEq, and_true, true_and, and_self, or_true, true_or, false_and, and_false, not_true_eq_false, not_false_eq_true, true_implies, false_implies, implies_true, Nat.reduceAdd, Nat.reduceLT, Nat.reduceEqDiff, Nat.reduceLeDiff, Nat.reduceBEq, Nat.zero_add, Nat.lt_add_one, Bool.false_eq_true, Bool.or_false, Bool.or_true, Bool.or_self, Nat.zero_ne_one, Nat.one_ne_zero, ite_true, ite_false, ne_eq, Nat.reduceSub, Nat.succ_eq_add_one, Nat.zero_lt_succ, Nat.add_one_ne_zero, false_or, or_false, mX6_isLane_c, mX6_isLane_n, mX6_isLane_r, mX6_isLane_l, dX6_isLane_0, dX6_isLane_1, ic_0, dX6_isLane_2, ic_3, dX6_isLane_3, dX6_isLane_6, jX6_isLane_1_57, st_iconst, st_iload_n, st_invokestatic, st_ireturn]
    exact ⟨bI_01, h⟩
  · exact h.elim
/-! ===== Integer.bitCount: as its instructions compute ===== -/
def ush (x y : Int32) : Int32 := (x.toUInt32 >>> (y.toUInt32 &&& Int32.toUInt32 31)).toInt32
def bc1 (x : Int32) : Int32 := x - (ush x 1 &&& 1431655765)
def bc2 (x : Int32) : Int32 := (x &&& 858993459) + (ush x 2 &&& 858993459)
def bc3 (x : Int32) : Int32 := (x + ush x 4) &&& 252645135
def bc4 (x : Int32) : Int32 := x + ush x 8
def bc5 (x : Int32) : Int32 := (x + ush x 16) &&& 63
def bcE (x : Int32) : Int32 := bc5 (bc4 (bc3 (bc2 (bc1 x))))
def sp_J6_bitCount_0f7a4 (_ : Cx) : YSp := fun av σ K => match av with | [.int v] => K (some (.int (bcE v))) σ | _ => False
theorem mono_J6_bitCount_0f7a4 {Γ : Cx} : Mono (sp_J6_bitCount_0f7a4 Γ) := by
  intro av σ K K' hk h
  unfold sp_J6_bitCount_0f7a4 at h ⊢
  split at h
  · exact hk _ _ h
  · exact h.elim
theorem rv_J6_bitCount_0f7a4 {Γ : Cx} : Args (sp_J6_bitCount_0f7a4 Γ) 1 := by
  intro av σ K h
  unfold sp_J6_bitCount_0f7a4 at h
  split at h
  · rfl
  · exact h.elim
theorem bw_303 : Cond.constant RJ6 265 (1431655765 : Int32) ∈ BW := bw_i 303 (by decide +kernel) (by decide +kernel)
theorem bw_304 : Cond.constant RJ6 266 (858993459 : Int32) ∈ BW := bw_i 304 (by decide +kernel) (by decide +kernel)
theorem bw_305 : Cond.constant RJ6 267 (252645135 : Int32) ∈ BW := bw_i 305 (by decide +kernel) (by decide +kernel)
theorem ic_2 : Int32.ofInt 2 = 2 := by decide
theorem ic_4 : Int32.ofInt 4 = 4 := by decide
theorem bc_8 : (Int8.ofInt 8).toInt32 = 8 := by decide
theorem bc_16 : (Int8.ofInt 16).toInt32 = 16 := by decide
theorem bc_63 : (Int8.ofInt 63).toInt32 = 63 := by decide
def mJ6_bitCount_0f7a4 : Mt := (⟨0, 0, 0, 0⟩, RJ6, cJ6_bitCount_0f7a4, 1, some .int, (0, 0), false)
theorem mJ6_bitCount_0f7a4_c : mJ6_bitCount_0f7a4.2.2.1 = cJ6_bitCount_0f7a4 := rfl
theorem mJ6_bitCount_0f7a4_n : mJ6_bitCount_0f7a4.2.2.2.1 = 1 := rfl
theorem mJ6_bitCount_0f7a4_r : mJ6_bitCount_0f7a4.2.2.2.2.1 = some .int := rfl
theorem mJ6_bitCount_0f7a4_l : mJ6_bitCount_0f7a4.2.2.2.2.2.2 = false := rfl
def jJ6_bitCount_0f7a4 (Γ : Cx) : List ((Nat × Nat) × Nat × Bool × YSp) := []
def kkJ6_bitCount_0f7a4 : List (Nat × (Int32 ⊕ Int64)) := [(265, .inl (1431655765 : Int32)), (266, .inl (858993459 : Int32)), (267, .inl (252645135 : Int32))]
theorem kkJ6_bitCount_0f7a4_ok : ∀ q ∈ kkJ6_bitCount_0f7a4, conOK RJ6 q := all_cons bw_303 (all_cons bw_304 (all_cons bw_305 (all_nil)))
theorem kkJ6_bitCount_0f7a4_265 : cT kkJ6_bitCount_0f7a4 265 = some (.inl (1431655765 : Int32)) := by decide +kernel
theorem kkJ6_bitCount_0f7a4_266 : cT kkJ6_bitCount_0f7a4 266 = some (.inl (858993459 : Int32)) := by decide +kernel
theorem kkJ6_bitCount_0f7a4_267 : cT kkJ6_bitCount_0f7a4 267 = some (.inl (252645135 : Int32)) := by decide +kernel
theorem uJ6_bitCount_0f7a4 (Γ : Cx) : TbOK Γ mJ6_bitCount_0f7a4 (fT [], cT kkJ6_bitCount_0f7a4, kT (jJ6_bitCount_0f7a4 Γ)) := tb_ok all_nil kkJ6_bitCount_0f7a4_ok (all_nil)
set_option maxRecDepth 20000 in
theorem ok_J6_bitCount_0f7a4 (Γ : Cx) : Ok Γ yJ6_bitCount_0f7a4 mJ6_bitCount_0f7a4 (sp_J6_bitCount_0f7a4 Γ) := by
  refine ok_intro (by decide +kernel) rfl rfl ?_
  intro av σ K h
  unfold sp_J6_bitCount_0f7a4 at h
  split at h
  · next v =>
    refine ⟨Nat.le_of_ble_eq_true rfl, yvc_ok (uJ6_bitCount_0f7a4 Γ) (S := []) 60 _ _ _ _ ?_⟩
    simp only [lv_args, Value.category, yvc_s, s1i, s2i, s1l, s2l, sil, s1r, sir, siir, slir, srir, svr, sd1, sd2, lg, lput, ldel, isL_i, isL_r, isL_l, jmp, obj, obj1, fI, fR, arI, arL, arR, hput, f4_0, f4_1, f4_2, f4_3, lc_0, lc_1, rok_i, rok_b, fput_1, fput_2, csum_nil, csum_i, csum_l, csum_r, va_up_self, bx_uu, Int.reduceAdd, List.elem_nil, List.elem_cons, List.take_succ_cons, List.take_zero, List.drop_succ_cons, List.drop_zero, List.take_nil, List.drop_nil, List.reverse_cons, List.reverse_nil, List.nil_append, List.cons_append, List.append_nil, Option.toList_some, Option.toList_none, List.getElem?_cons_zero, List.getElem?_cons_succ, List.set_cons_zero, List.set_cons_succ, List.length_cons, List.length_nil, reduceIte, reduceCtorEq, and_true, true_and, and_self, or_true, true_or, false_and, and_false, not_true_eq_false, not_false_eq_true, true_implies, false_implies, implies_true, Nat.reduceAdd, Nat.reduceLT, Nat.reduceEqDiff, Nat.reduceLeDiff, Nat.reduceBEq, Nat.zero_add, Nat.lt_add_one, Bool.false_eq_true, Bool.or_false, Bool.or_true, Bool.or_self, Nat.zero_ne_one, Nat.one_ne_zero, ite_true, ite_false, ne_eq, Nat.reduceSub, Nat.succ_eq_add_one, Nat.zero_lt_succ, Nat.add_one_ne_zero, false_or, or_false, mJ6_bitCount_0f7a4_c, mJ6_bitCount_0f7a4_n, mJ6_bitCount_0f7a4_r, mJ6_bitCount_0f7a4_l, dJ6_bitCount_0f7a4_0, dJ6_bitCount_0f7a4_1, dJ6_bitCount_0f7a4_2, ic_1, dJ6_bitCount_0f7a4_3, dJ6_bitCount_0f7a4_4, kkJ6_bitCount_0f7a4_265, dJ6_bitCount_0f7a4_7, dJ6_bitCount_0f7a4_8, dJ6_bitCount_0f7a4_9, dJ6_bitCount_0f7a4_10, dJ6_bitCount_0f7a4_11, kkJ6_bitCount_0f7a4_266, dJ6_bitCount_0f7a4_14, dJ6_bitCount_0f7a4_15, dJ6_bitCount_0f7a4_16, ic_2, dJ6_bitCount_0f7a4_17, dJ6_bitCount_0f7a4_18, dJ6_bitCount_0f7a4_21, dJ6_bitCount_0f7a4_22, dJ6_bitCount_0f7a4_23, dJ6_bitCount_0f7a4_24, dJ6_bitCount_0f7a4_25, dJ6_bitCount_0f7a4_26, ic_4, dJ6_bitCount_0f7a4_27, dJ6_bitCount_0f7a4_28, dJ6_bitCount_0f7a4_29, kkJ6_bitCount_0f7a4_267, dJ6_bitCount_0f7a4_32, dJ6_bitCount_0f7a4_33, dJ6_bitCount_0f7a4_34, dJ6_bitCount_0f7a4_35, dJ6_bitCount_0f7a4_36, bc_8, dJ6_bitCount_0f7a4_38, dJ6_bitCount_0f7a4_39, dJ6_bitCount_0f7a4_40, dJ6_bitCount_0f7a4_41, dJ6_bitCount_0f7a4_42, dJ6_bitCount_0f7a4_43, bc_16, dJ6_bitCount_0f7a4_45, dJ6_bitCount_0f7a4_46, dJ6_bitCount_0f7a4_47, dJ6_bitCount_0f7a4_48, dJ6_bitCount_0f7a4_49, bc_63, dJ6_bitCount_0f7a4_51, dJ6_bitCount_0f7a4_52, st_bipush, st_iadd, st_iand, st_iconst, st_iload_n, st_ireturn, st_istore_n, st_isub, st_iushr, st_ldc_w]
    exact h
  · exact h.elim
end
section
/-! ===== College: its cells as one value ===== -/
/-- wants, keepers, kinds, day, gone, draw, how many people, rule, doors gone in -/
abbrev CS : Type := (Nat → Int32) × (Nat → Int32) × (Nat → Int32) × Int32 × Int32 × Int32 × Nat × Int32 × Int32
/-- object, wants, keepers, kinds -/
abbrev CA : Type := Nat × Nat × Nat × Nat
def ColE (A : CA) (s : CS) : va_E := .inr (0, [.ref A.2.1, .ref A.2.2.1, .int s.2.2.2.1, .int s.2.2.2.2.1, .int s.2.2.2.2.2.1, .ref A.2.2.2, .int (nI s.2.2.2.2.2.2.1), .int s.2.2.2.2.2.2.2.1, .int s.2.2.2.2.2.2.2.2])
def Col (Γ : Cx) (A : CA) (s : CS) (σ : Hp) : Prop := (A.1 ∈ σ.1 ∧ A.2.1 ∈ σ.1 ∧ A.2.2.1 ∈ σ.1 ∧ A.2.2.2 ∈ σ.1) ∧ σ.2 A.1 = ColE A s ∧ σ.2 A.2.1 = iA Γ 20 s.1 ∧ σ.2 A.2.2.1 = iA Γ 4 s.2.1 ∧ σ.2 A.2.2.2 = iA Γ 5 s.2.2.1
def cset (Γ : Cx) (A : CA) (s : CS) (σ : Hp) : Hp := (σ.1, va_up (va_up (va_up (va_up σ.2 A.1 (ColE A s)) A.2.1 (iA Γ 20 s.1)) A.2.2.1 (iA Γ 4 s.2.1)) A.2.2.2 (iA Γ 5 s.2.2.1))
theorem iA_ne {Γ : Cx} {n m : Nat} {f g : Nat → Int32} (h : n ≠ m) : iA Γ n f ≠ iA Γ m g := fun e => by
  unfold iA at e
  simp only [Sum.inl.injEq, Prod.mk.injEq] at e
  exact h e.2.1
theorem iA_neO {Γ : Cx} {n : Nat} {f : Nat → Int32} {A : CA} {s : CS} : iA Γ n f ≠ ColE A s := fun e => by
  unfold iA ColE at e
  cases e
theorem Col.ne {Γ : Cx} {A : CA} {s : CS} {σ : Hp} (h : Col Γ A s σ) : (A.2.1 ≠ A.1 ∧ A.2.2.1 ≠ A.1 ∧ A.2.2.2 ≠ A.1) ∧ (A.2.2.1 ≠ A.2.1 ∧ A.2.2.2 ≠ A.2.1) ∧ A.2.2.2 ≠ A.2.2.1 := by
  obtain ⟨-, e1, e2, e3, e4⟩ := h
  refine ⟨⟨fun e => ?_, fun e => ?_, fun e => ?_⟩, ⟨fun e => ?_, fun e => ?_⟩, fun e => ?_⟩
  · rw [e, e1] at e2; exact iA_neO e2.symm
  · rw [e, e1] at e3; exact iA_neO e3.symm
  · rw [e, e1] at e4; exact iA_neO e4.symm
  · rw [e, e2] at e3; exact iA_ne (by decide) e3
  · rw [e, e2] at e4; exact iA_ne (by decide) e4
  · rw [e, e3] at e4; exact iA_ne (by decide) e4
theorem Col.set {Γ : Cx} {A : CA} {s : CS} {σ : Hp} (h : Col Γ A s σ) (s' : CS) : Col Γ A s' (cset Γ A s' σ) := by
  obtain ⟨⟨n1, n2, n3⟩, ⟨n4, n5⟩, n6⟩ := h.ne
  refine ⟨h.1, ?_, ?_, ?_, ?_⟩
  · simp only [cset, va_up, if_neg n1.symm, if_neg n2.symm, if_neg n3.symm, ↓reduceIte]
  · simp only [cset, va_up, if_neg n4.symm, if_neg n5.symm, ↓reduceIte]
  · simp only [cset, va_up, if_neg n6.symm, ↓reduceIte]
  · simp only [cset, va_up, ↓reduceIte]
theorem cset_cset {Γ : Cx} {A : CA} {s s' : CS} {σ : Hp} : cset Γ A s' (cset Γ A s σ) = cset Γ A s' σ := by
  refine Prod.ext rfl (funext fun q => ?_)
  simp only [cset, va_up]
  by_cases c4 : q = A.2.2.2 <;> by_cases c3 : q = A.2.2.1 <;> by_cases c2 : q = A.2.1 <;> by_cases c1 : q = A.1 <;> simp only [c1, c2, c3, c4, ↓reduceIte]
theorem Col.self {Γ : Cx} {A : CA} {s : CS} {σ : Hp} (h : Col Γ A s σ) : cset Γ A s σ = σ := by
  refine Prod.ext rfl (funext fun q => ?_)
  simp only [cset, va_up]
  obtain ⟨-, e1, e2, e3, e4⟩ := h
  by_cases c4 : q = A.2.2.2
  · simp only [c4, ↓reduceIte]; exact e4.symm
  · by_cases c3 : q = A.2.2.1
    · rw [if_neg c4]; simp only [c3, ↓reduceIte]; exact e3.symm
    · by_cases c2 : q = A.2.1
      · rw [if_neg c4, if_neg c3]; simp only [c2, ↓reduceIte]; exact e2.symm
      · by_cases c1 : q = A.1
        · rw [if_neg c4, if_neg c3, if_neg c2]; simp only [c1, ↓reduceIte]; exact e1.symm
        · rw [if_neg c4, if_neg c3, if_neg c2, if_neg c1]
theorem cset_ne {Γ : Cx} {A : CA} {s : CS} {σ : Hp} {q : Nat} (h1 : q ≠ A.1) (h2 : q ≠ A.2.1) (h3 : q ≠ A.2.2.1) (h4 : q ≠ A.2.2.2) : (cset Γ A s σ).2 q = σ.2 q := by
  simp only [cset, va_up, if_neg h1, if_neg h2, if_neg h3, if_neg h4]
/-- one field of the object -/
theorem Col.put {Γ : Cx} {A : CA} {s : CS} {σ : Hp} (h : Col Γ A s σ) (s' : CS) (h1 : s'.1 = s.1) (h2 : s'.2.1 = s.2.1) (h3 : s'.2.2.1 = s.2.2.1) : hput σ A.1 (ColE A s') = cset Γ A s' σ := by
  refine Prod.ext rfl (funext fun q => ?_)
  obtain ⟨-, e1, e2, e3, e4⟩ := h
  simp only [cset, hput, va_up, h1, h2, h3]
  by_cases c4 : q = A.2.2.2
  · rw [if_pos c4]
    by_cases c1 : q = A.1
    · exact absurd (e4.symm.trans (by rw [← c4, c1]; exact e1)) (iA_neO (A := A) (s := s))
    · rw [if_neg c1, c4]; exact e4
  · rw [if_neg c4]
    by_cases c3 : q = A.2.2.1
    · rw [if_pos c3]
      by_cases c1 : q = A.1
      · exact absurd (e3.symm.trans (by rw [← c3, c1]; exact e1)) (iA_neO (A := A) (s := s))
      · rw [if_neg c1, c3]; exact e3
    · rw [if_neg c3]
      by_cases c2 : q = A.2.1
      · rw [if_pos c2]
        by_cases c1 : q = A.1
        · exact absurd (e2.symm.trans (by rw [← c2, c1]; exact e1)) (iA_neO (A := A) (s := s))
        · rw [if_neg c1, c2]; exact e2
      · rw [if_neg c2]
theorem Col.putW {Γ : Cx} {A : CA} {s : CS} {σ : Hp} (h : Col Γ A s σ) (w : Nat → Int32) : hput σ A.2.1 (iA Γ 20 w) = cset Γ A (w, s.2) σ := by
  obtain ⟨⟨n1, n2, n3⟩, ⟨n4, n5⟩, n6⟩ := h.ne
  refine Prod.ext rfl (funext fun q => ?_)
  obtain ⟨-, e1, e2, e3, e4⟩ := h
  simp only [cset, hput, va_up]
  by_cases c2 : q = A.2.1
  · rw [if_pos c2, if_neg (c2 ▸ n5.symm), if_neg (c2 ▸ n4.symm), if_pos c2]
  · rw [if_neg c2]
    by_cases c4 : q = A.2.2.2
    · rw [if_pos c4, c4]; exact e4
    · rw [if_neg c4]
      by_cases c3 : q = A.2.2.1
      · rw [if_pos c3, c3]; exact e3
      · rw [if_neg c3, if_neg c2]
        by_cases c1 : q = A.1
        · rw [if_pos c1, c1]; exact e1
        · rw [if_neg c1]
theorem Col.putK {Γ : Cx} {A : CA} {s : CS} {σ : Hp} (h : Col Γ A s σ) (k : Nat → Int32) : hput σ A.2.2.1 (iA Γ 4 k) = cset Γ A (s.1, k, s.2.2) σ := by
  obtain ⟨⟨n1, n2, n3⟩, ⟨n4, n5⟩, n6⟩ := h.ne
  refine Prod.ext rfl (funext fun q => ?_)
  obtain ⟨-, e1, e2, e3, e4⟩ := h
  simp only [cset, hput, va_up]
  by_cases c3 : q = A.2.2.1
  · rw [if_pos c3, if_neg (c3 ▸ n6.symm), if_pos c3]
  · rw [if_neg c3]
    by_cases c4 : q = A.2.2.2
    · rw [if_pos c4, c4]; exact e4
    · rw [if_neg c4, if_neg c3]
      by_cases c2 : q = A.2.1
      · rw [if_pos c2, c2]; exact e2
      · rw [if_neg c2]
        by_cases c1 : q = A.1
        · rw [if_pos c1, c1]; exact e1
        · rw [if_neg c1]
theorem Col.putD {Γ : Cx} {A : CA} {s : CS} {σ : Hp} (h : Col Γ A s σ) (k : Nat → Int32) : hput σ A.2.2.2 (iA Γ 5 k) = cset Γ A (s.1, s.2.1, k, s.2.2.2) σ := by
  obtain ⟨⟨n1, n2, n3⟩, ⟨n4, n5⟩, n6⟩ := h.ne
  refine Prod.ext rfl (funext fun q => ?_)
  obtain ⟨-, e1, e2, e3, e4⟩ := h
  simp only [cset, hput, va_up]
  by_cases c4 : q = A.2.2.2
  · rw [if_pos c4, if_pos c4]
  · rw [if_neg c4, if_neg c4]
    by_cases c3 : q = A.2.2.1
    · rw [if_pos c3, c3]; exact e3
    · rw [if_neg c3]
      by_cases c2 : q = A.2.1
      · rw [if_pos c2, c2]; exact e2
      · rw [if_neg c2]
        by_cases c1 : q = A.1
        · rw [if_pos c1, c1]; exact e1
        · rw [if_neg c1]
theorem col_rv {Γ : Cx} {A : CA} {s : CS} {σ : Hp} (h : Col Γ A s σ) : ∃ fs, A.1 ∈ σ.1 ∧ σ.2 A.1 = .inr (0, fs) := ⟨_, h.1.1, h.2.1⟩
/-! numbers -/
theorem lt4 {j : Nat} (h : j < 4) : (¬ (4 : Int32) ≤ nI j) ∧ vp_in (nI j) 4 ∧ (nI j).toNatClampNeg = j := ⟨nI_ge h (by decide), vp_in_nI h (by decide), nI_clamp (by omega)⟩
theorem ge4 : (4 : Int32) ≤ nI 4 := by decide
def ix (p d : Int32) : Nat := (p * 4 + d).toNatClampNeg
theorem ix_n {p d : Nat} (hp : p < 5) (hd : d < 4) : ix (nI p) (nI d) = 4 * p + d := by
  unfold ix
  rw [show (4 : Int32) = nI 4 from rfl, pk_mul, nI_add, nI_clamp (by omega)]
  omega
theorem ix_in {p d : Nat} (hp : p < 5) (hd : d < 4) : vp_in (nI p * 4 + nI d) 20 := by
  rw [show (4 : Int32) = nI 4 from rfl, pk_mul, nI_add]
  exact vp_in_nI (by omega) (by decide)
def cap20 (x : Int32) : Int32 := if x < 20 then x else 20
def wmore (w : Nat → Int32) (p d n : Int32) : Nat → Int32 := upd w (ix p d) (cap20 (w (ix p d) + n))
def wsum (w : Nat → Int32) (p : Int32) : Nat → Int32
  | 0 => 0
  | n + 1 => wsum w p n + w (ix p (nI n))
def wall (w : Nat → Int32) : Nat → Int32
  | 0 => 0
  | n + 1 => wall w n + wsum w (nI n) 4
def kset (kp : Nat → Int32) (p : Int32) : Nat → Int32
  | 0 => 0
  | n + 1 => if kp n = p then kset kp p n ||| (1 <<< (nI n &&& 31)) else kset kp p n
def kas (k : Int32) : Int32 := if k = -4 then 0 else 1 <<< (k &&& 31)
def kany (kp : Nat → Int32) : Nat → Int32
  | 0 => 0
  | n + 1 => kany kp n ||| kas (kp n)
def lst (w : Nat → Int32) (d : Int32) : Nat → Int32 × Int32
  | 0 => (-4, 21)
  | n + 1 => if w (ix (nI n) d) < (lst w d n).2 then (nI n, w (ix (nI n) d)) else lst w d n
def warm (day : Int32) : Int32 := if day - day / 2 * 2 = 0 then 1 else 0
def growth (s : CS) (d : Nat) : Int32 :=
  if s.2.1 d = -4 then 0
  else if s.2.2.1 (s.2.1 d).toNatClampNeg = 1 then bcE (kset s.2.1 (s.2.1 d) 4)
  else if s.2.2.1 (s.2.1 d).toNatClampNeg = 2 then warm s.2.2.2.1
  else if s.2.2.1 (s.2.1 d).toNatClampNeg = 3 then 2 * bcE (kset s.2.1 (s.2.1 d) 4)
  else if s.2.2.1 (s.2.1 d).toNatClampNeg = 4 then (if s.1 (ix (s.2.1 d) (nI d)) < 9 then warm s.2.2.2.1 else 0)
  else 1
def g1 (s : CS) (d : Nat) : CS := if s.2.1 d = -4 then s else (wmore s.1 (s.2.1 d) (nI d) (growth s d), s.2)
def gN (s : CS) : Nat → CS
  | 0 => s
  | n + 1 => g1 (gN s n) n
def tk (s : CS) (d : Nat) : CS :=
  if s.1 (ix (s.2.1 d) (nI d)) < s.2.2.2.2.2.2.2.1 + 4 then
    (if s.1 (ix (s.2.1 d) (nI d)) < s.2.2.2.2.2.2.2.1 then s else (s.1, upd s.2.1 d (lst s.1 (nI d) s.2.2.2.2.2.2.1).1, s.2.2))
  else (upd s.1 (ix (s.2.1 d) (nI d)) 0, s.2.1, s.2.2.1, s.2.2.2.1, s.2.2.2.2.1 + 1, s.2.2.2.2.2.1, s.2.2.2.2.2.2.1, s.2.2.2.2.2.2.2.1, s.2.2.2.2.2.2.2.2 ||| (1 <<< (nI d &&& 31)))
def t1 (s : CS) (d : Nat) : CS := if s.2.1 d = -4 then s else tk s d
def tN (s : CS) : Nat → CS
  | 0 => s
  | n + 1 => t1 (tN s n) n
def gd0 (s : CS) : CS := (s.1, s.2.1, s.2.2.1, s.2.2.2.1, s.2.2.2.2.1, s.2.2.2.2.2.1, s.2.2.2.2.2.2.1, s.2.2.2.2.2.2.2.1, 0)
def dayUp (s : CS) : CS := (s.1, s.2.1, s.2.2.1, s.2.2.2.1 + 1, s.2.2.2.2)
def dayC (s : CS) : CS := dayUp (tN (gd0 (gN s 4)) 4)
def daysC (s : CS) : Nat → CS
  | 0 => s
  | n + 1 => dayC (daysC s n)
/-- people at most five; each keeper nobody or one of them -/
def WfC (s : CS) : Prop := s.2.2.2.2.2.2.1 ≤ 5 ∧ ∀ d, d < 4 → s.2.1 d = -4 ∨ ∃ q, q < s.2.2.2.2.2.2.1 ∧ s.2.1 d = nI q
theorem lst_wf (w : Nat → Int32) (d : Int32) : ∀ n : Nat, (lst w d n).1 = -4 ∨ ∃ q, q < n ∧ (lst w d n).1 = nI q
  | 0 => Or.inl rfl
  | n + 1 => by
    unfold lst
    split
    · exact Or.inr ⟨n, Nat.lt_succ_self n, rfl⟩
    · rcases lst_wf w d n with h | ⟨q, h1, h2⟩
      · exact Or.inl h
      · exact Or.inr ⟨q, by omega, h2⟩
theorem g1_eq (s : CS) (d : Nat) : (g1 s d).2 = s.2 := by unfold g1; split <;> rfl
theorem gN_eq (s : CS) : ∀ n : Nat, (gN s n).2 = s.2
  | 0 => rfl
  | n + 1 => (g1_eq _ n).trans (gN_eq s n)
theorem WfC.same {s s' : CS} (h : WfC s) (e1 : s'.2.1 = s.2.1) (e2 : s'.2.2.2.2.2.2.1 = s.2.2.2.2.2.2.1) : WfC s' := by
  unfold WfC
  rw [e1, e2]
  exact h
theorem gN_wf {s : CS} (h : WfC s) (n : Nat) : WfC (gN s n) := h.same (by rw [gN_eq]) (by rw [gN_eq])
theorem t1_wf {s : CS} (h : WfC s) (d : Nat) : WfC (t1 s d) ∧ (t1 s d).2.2.2.2.2.2.1 = s.2.2.2.2.2.2.1 := by
  unfold t1
  split
  · exact ⟨h, rfl⟩
  · unfold tk
    split
    · split
      · exact ⟨h, rfl⟩
      · refine ⟨⟨h.1, fun q hq => ?_⟩, rfl⟩
        by_cases e : q = d
        · subst e
          show upd s.2.1 q (lst s.1 (nI q) s.2.2.2.2.2.2.1).1 q = -4 ∨ ∃ p, p < s.2.2.2.2.2.2.1 ∧ upd s.2.1 q (lst s.1 (nI q) s.2.2.2.2.2.2.1).1 q = nI p
          rw [pk_us]
          exact lst_wf _ _ _
        · show upd s.2.1 d (lst s.1 (nI d) s.2.2.2.2.2.2.1).1 q = -4 ∨ ∃ p, p < s.2.2.2.2.2.2.1 ∧ upd s.2.1 d (lst s.1 (nI d) s.2.2.2.2.2.2.1).1 q = nI p
          rw [pk_un e]
          exact h.2 q hq
    · exact ⟨h.same rfl rfl, rfl⟩
theorem tN_wf {s : CS} (h : WfC s) : ∀ n : Nat, WfC (tN s n) ∧ (tN s n).2.2.2.2.2.2.1 = s.2.2.2.2.2.2.1
  | 0 => ⟨h, rfl⟩
  | n + 1 => ⟨(t1_wf (tN_wf h n).1 n).1, (t1_wf (tN_wf h n).1 n).2.trans (tN_wf h n).2⟩
theorem gd0_wf {s : CS} (h : WfC s) : WfC (gd0 s) := h.same rfl rfl
theorem gd0_p (s : CS) : (gd0 s).2.2.2.2.2.2.1 = s.2.2.2.2.2.2.1 := rfl
theorem dayUp_wf {s : CS} (h : WfC s) : WfC (dayUp s) := h.same rfl rfl
theorem dayUp_p (s : CS) : (dayUp s).2.2.2.2.2.2.1 = s.2.2.2.2.2.2.1 := rfl
theorem dayC_wf {s : CS} (h : WfC s) : WfC (dayC s) ∧ (dayC s).2.2.2.2.2.2.1 = s.2.2.2.2.2.2.1 := by
  unfold dayC
  have h1 := tN_wf (gd0_wf (gN_wf h 4)) 4
  refine ⟨dayUp_wf h1.1, ?_⟩
  rw [dayUp_p, h1.2, gd0_p, gN_eq]
theorem daysC_wf {s : CS} (h : WfC s) : ∀ n : Nat, WfC (daysC s n) ∧ (daysC s n).2.2.2.2.2.2.1 = s.2.2.2.2.2.2.1
  | 0 => ⟨h, rfl⟩
  | n + 1 => by
    have h1 := daysC_wf h n
    have h2 := dayC_wf h1.1
    rw [daysC]
    exact ⟨h2.1, h2.2.trans h1.2⟩
end
section
/-! ===== College: small methods ===== -/
def sp_X0_has (_ : Cx) : YSp := fun av σ K => match av with | [.ref a, .int p] => obj1 σ a 0 fun fs => fI fs 6 fun n => K (some (.int (bI (inr p 0 (n - 1))))) σ | _ => False
theorem mono_X0_has {Γ : Cx} : Mono (sp_X0_has Γ) := by
  intro av σ K K' hk h
  unfold sp_X0_has at h ⊢
  split at h
  · exact obj1_mono (fun _ h => fI_mono (fun _ h => hk _ _ h) h) h
  · exact h.elim
theorem rv_X0_has {Γ : Cx} : Recv (sp_X0_has Γ) 1 0 := by
  intro av σ K h
  unfold sp_X0_has at h
  split at h
  · obtain ⟨fs, h1, h2, -⟩ := obj1_recv h
    exact ⟨_, _, fs, rfl, rfl, h1, h2⟩
  · exact h.elim
theorem nw_266 : Cond.methodLinkNest RX0 35 yX6_within "YawnKeys" ∈ nestW := List.mem_filter.mpr ⟨List.mem_of_getElem? (i := 266) (by decide +kernel), rfl⟩
def mX0_has : Mt := (⟨1, 0, 0, 22⟩, RX0, cX0_has, 2, some .boolean, (0, 0), false)
theorem mX0_has_c : mX0_has.2.2.1 = cX0_has := rfl
theorem mX0_has_n : mX0_has.2.2.2.1 = 2 := rfl
theorem mX0_has_r : mX0_has.2.2.2.2.1 = some .boolean := rfl
theorem mX0_has_l : mX0_has.2.2.2.2.2.2 = false := rfl
def jX0_has (Γ : Cx) : List ((Nat × Nat) × Nat × Bool × YSp) := [((1, 35), 3, true, sp_X6_within Γ)]
theorem jX0_has_1_35 (Γ : Cx) : kT (jX0_has Γ) 1 35 = some (3, true, sp_X6_within Γ) := rfl
theorem uX0_has (Γ : Cx) : TbOK Γ mX0_has (fT fX0, cT kX0, kT (jX0_has Γ)) := tb_ok fX0_ok kX0_ok (all_cons ⟨call_SN (n := 3) (ok_X6_within Γ) (rv_X6_within (Γ := Γ)) bw_241 nw_266 bw_240 bw_42 no_X6_within ⟨⟨rfl, rfl⟩, ⟨by decide, by decide⟩, ⟨by decide, by decide⟩⟩, fun _ => mono_X6_within (Γ := Γ)⟩ (all_nil))
set_option maxRecDepth 20000 in
theorem ok_X0_has (Γ : Cx) : Ok Γ yX0_has mX0_has (sp_X0_has Γ) := by
  refine ok_intro (by decide +kernel) rfl rfl ?_
  intro av σ K h
  unfold sp_X0_has at h
  split at h
  · next a p =>
    obtain ⟨fs, h1, h2, h⟩ := obj1_recv h
    obtain ⟨n, h3, h⟩ := fI_recv h
    refine ⟨Nat.le_of_ble_eq_true rfl, yvc_ok (uX0_has Γ) (S := []) 40 _ _ _ _ ?_⟩
    simp only [lv_args, Value.category, h1, h2, h3, sp_X6_within, yvc_s, s1i, s2i, s1l, s2l, sil, s1r, sir, siir, slir, srir, svr, sd1, sd2, lg, lput, ldel, isL_i, isL_r, isL_l, jmp, obj, obj1, fI, fR, arI, arL, arR, hput, f4_0, f4_1, f4_2, f4_3, lc_0, lc_1, rok_i, rok_b, fput_1, fput_2, csum_nil, csum_i, csum_l, csum_r, va_up_self, bx_uu, Int.reduceAdd, List.elem_nil, List.elem_cons, List.take_succ_cons, List.take_zero, List.drop_succ_cons, List.drop_zero, List.take_nil, List.drop_nil, List.reverse_cons, List.reverse_nil, List.nil_append, List.cons_append, List.append_nil, Option.toList_some, Option.toList_none, List.getElem?_cons_zero, List.getElem?_cons_succ, List.set_cons_zero, List.set_cons_succ, List.length_cons, List.length_nil, reduceIte, reduceCtorEq, and_true, true_and, and_self, or_true, true_or, false_and, and_false, not_true_eq_false, not_false_eq_true, true_implies, false_implies, implies_true, Nat.reduceAdd, Nat.reduceLT, Nat.reduceEqDiff, Nat.reduceLeDiff, Nat.reduceBEq, Nat.zero_add, Nat.lt_add_one, Bool.false_eq_true, Bool.or_false, Bool.or_true, Bool.or_self, Nat.zero_ne_one, Nat.one_ne_zero, ite_true, ite_false, ne_eq, Nat.reduceSub, Nat.succ_eq_add_one, Nat.zero_lt_succ, Nat.add_one_ne_zero, false_or, or_false, mX0_has_c, mX0_has_n, mX0_has_r, mX0_has_l, dX0_has_0, dX0_has_1, ic_0, dX0_has_2, dX0_has_3, fl_0_15_0, dX0_has_6, ic_1, dX0_has_7, dX0_has_8, dX0_has_11, jX0_has_1_35, st_aload_n, st_getfield, st_iconst, st_iload_n, st_invokestatic, st_ireturn, st_isub]
    exact ⟨bI_01, h⟩
  · exact h.elim
def sp_X0_wantOf (Γ : Cx) : YSp := fun av σ K => match av with | [.ref a, .int p, .int d] => obj1 σ a 0 fun fs => fR fs 0 fun aw => arI Γ σ aw fun n w => vp_in (p * 4 + d) n ∧ K (some (.int (w (ix p d)))) σ | _ => False
theorem mono_X0_wantOf {Γ : Cx} : Mono (sp_X0_wantOf Γ) := by
  intro av σ K K' hk h
  unfold sp_X0_wantOf at h ⊢
  split at h
  · exact obj1_mono (fun _ h => fR_mono (fun _ h => arI_mono (fun _ _ h => ⟨h.1, hk _ _ h.2⟩) h) h) h
  · exact h.elim
theorem rv_X0_wantOf {Γ : Cx} : Recv (sp_X0_wantOf Γ) 2 0 := by
  intro av σ K h
  unfold sp_X0_wantOf at h
  split at h
  · obtain ⟨fs, h1, h2, -⟩ := obj1_recv h
    exact ⟨_, _, fs, rfl, rfl, h1, h2⟩
  · exact h.elim
def mX0_wantOf : Mt := (⟨0, 0, 0, 0⟩, RX0, cX0_wantOf, 3, some .int, (0, 0), false)
theorem mX0_wantOf_c : mX0_wantOf.2.2.1 = cX0_wantOf := rfl
theorem mX0_wantOf_n : mX0_wantOf.2.2.2.1 = 3 := rfl
theorem mX0_wantOf_r : mX0_wantOf.2.2.2.2.1 = some .int := rfl
theorem mX0_wantOf_l : mX0_wantOf.2.2.2.2.2.2 = false := rfl
def jX0_wantOf (Γ : Cx) : List ((Nat × Nat) × Nat × Bool × YSp) := []
theorem uX0_wantOf (Γ : Cx) : TbOK Γ mX0_wantOf (fT fX0, cT kX0, kT (jX0_wantOf Γ)) := tb_ok fX0_ok kX0_ok (all_nil)
set_option maxRecDepth 20000 in
theorem ok_X0_wantOf (Γ : Cx) : Ok Γ yX0_wantOf mX0_wantOf (sp_X0_wantOf Γ) := by
  refine ok_intro (by decide +kernel) rfl rfl ?_
  intro av σ K h
  unfold sp_X0_wantOf at h
  split at h
  · next a p d =>
    obtain ⟨fs, h1, h2, h⟩ := obj1_recv h
    obtain ⟨aw, h3, h⟩ := fR_recv h
    obtain ⟨n, w, h4, h5, h⟩ := arI_recv h
    refine ⟨Nat.le_of_ble_eq_true rfl, yvc_ok (uX0_wantOf Γ) (S := []) 40 _ _ _ _ ?_⟩
    simp only [lv_args, Value.category, h1, h2, h3, h4, h5, yvc_s, s1i, s2i, s1l, s2l, sil, s1r, sir, siir, slir, srir, svr, sd1, sd2, lg, lput, ldel, isL_i, isL_r, isL_l, jmp, obj, obj1, fI, fR, arI, arL, arR, hput, f4_0, f4_1, f4_2, f4_3, lc_0, lc_1, rok_i, rok_b, fput_1, fput_2, csum_nil, csum_i, csum_l, csum_r, va_up_self, bx_uu, Int.reduceAdd, List.elem_nil, List.elem_cons, List.take_succ_cons, List.take_zero, List.drop_succ_cons, List.drop_zero, List.take_nil, List.drop_nil, List.reverse_cons, List.reverse_nil, List.nil_append, List.cons_append, List.append_nil, Option.toList_some, Option.toList_none, List.getElem?_cons_zero, List.getElem?_cons_succ, List.set_cons_zero, List.set_cons_succ, List.length_cons, List.length_nil, reduceIte, reduceCtorEq, and_true, true_and, and_self, or_true, true_or, false_and, and_false, not_true_eq_false, not_false_eq_true, true_implies, false_implies, implies_true, Nat.reduceAdd, Nat.reduceLT, Nat.reduceEqDiff, Nat.reduceLeDiff, Nat.reduceBEq, Nat.zero_add, Nat.lt_add_one, Bool.false_eq_true, Bool.or_false, Bool.or_true, Bool.or_self, Nat.zero_ne_one, Nat.one_ne_zero, ite_true, ite_false, ne_eq, Nat.reduceSub, Nat.succ_eq_add_one, Nat.zero_lt_succ, Nat.add_one_ne_zero, false_or, or_false, mX0_wantOf_c, mX0_wantOf_n, mX0_wantOf_r, mX0_wantOf_l, dX0_wantOf_0, dX0_wantOf_1, fl_0_43_0, dX0_wantOf_4, dX0_wantOf_5, ic_4, dX0_wantOf_6, dX0_wantOf_7, dX0_wantOf_8, dX0_wantOf_9, dX0_wantOf_10, st_aload_n, st_getfield, st_iadd, st_iaload, st_iconst, st_iload_n, st_imul, st_ireturn]
    exact h
  · exact h.elim
def sp_X0_setWant (Γ : Cx) : YSp := fun av σ K => ∃ (A : CA) (s : CS) (p d v : Int32), av = [.ref A.1, .int p, .int d, .int v] ∧ Col Γ A s σ ∧ vp_in (p * 4 + d) 20 ∧ K none (cset Γ A (upd s.1 (ix p d) v, s.2) σ)
theorem rv_X0_setWant {Γ : Cx} : Recv (sp_X0_setWant Γ) 3 0 := by
  intro av σ K h
  obtain ⟨A, s, p, d, v, rfl, hc, -⟩ := h
  obtain ⟨fs, h1, h2⟩ := col_rv hc
  exact ⟨_, _, fs, rfl, rfl, h1, h2⟩
def mX0_setWant : Mt := (⟨0, 0, 0, 0⟩, RX0, cX0_setWant, 4, none, (0, 0), false)
theorem mX0_setWant_c : mX0_setWant.2.2.1 = cX0_setWant := rfl
theorem mX0_setWant_n : mX0_setWant.2.2.2.1 = 4 := rfl
theorem mX0_setWant_r : mX0_setWant.2.2.2.2.1 = none := rfl
theorem mX0_setWant_l : mX0_setWant.2.2.2.2.2.2 = false := rfl
def jX0_setWant (Γ : Cx) : List ((Nat × Nat) × Nat × Bool × YSp) := []
theorem uX0_setWant (Γ : Cx) : TbOK Γ mX0_setWant (fT fX0, cT kX0, kT (jX0_setWant Γ)) := tb_ok fX0_ok kX0_ok (all_nil)
set_option maxRecDepth 20000 in
theorem ok_X0_setWant (Γ : Cx) : Ok Γ yX0_setWant mX0_setWant (sp_X0_setWant Γ) := by
  refine ok_intro (by decide +kernel) rfl rfl ?_
  intro av σ K h
  obtain ⟨⟨a, aw, ak, ad⟩, ⟨w, kp, kd, day, gone, draw, P, rule, gd⟩, p, d, v, rfl, hc, hin, h⟩ := h
  have hp := hc.putW (upd w (ix p d) v)
  obtain ⟨⟨m1, m2, m3, m4⟩, e1, e2, e3, e4⟩ := hc
  rw [← hp] at h
  simp only [ColE, iA] at e1 e2 e3 e4 m1 m2 m3 m4 h
  refine ⟨Nat.le_of_ble_eq_true rfl, yvc_ok (uX0_setWant Γ) (S := []) 40 _ _ _ _ ?_⟩
  simp only [lv_args, Value.category, m1, m2, m3, m4, e1, e2, e3, e4, yvc_s, s1i, s2i, s1l, s2l, sil, s1r, sir, siir, slir, srir, svr, sd1, sd2, lg, lput, ldel, isL_i, isL_r, isL_l, jmp, obj, obj1, fI, fR, arI, arL, arR, hput, f4_0, f4_1, f4_2, f4_3, lc_0, lc_1, rok_i, rok_b, fput_1, fput_2, csum_nil, csum_i, csum_l, csum_r, va_up_self, bx_uu, Int.reduceAdd, List.elem_nil, List.elem_cons, List.take_succ_cons, List.take_zero, List.drop_succ_cons, List.drop_zero, List.take_nil, List.drop_nil, List.reverse_cons, List.reverse_nil, List.nil_append, List.cons_append, List.append_nil, Option.toList_some, Option.toList_none, List.getElem?_cons_zero, List.getElem?_cons_succ, List.set_cons_zero, List.set_cons_succ, List.length_cons, List.length_nil, reduceIte, reduceCtorEq, and_true, true_and, and_self, or_true, true_or, false_and, and_false, not_true_eq_false, not_false_eq_true, true_implies, false_implies, implies_true, Nat.reduceAdd, Nat.reduceLT, Nat.reduceEqDiff, Nat.reduceLeDiff, Nat.reduceBEq, Nat.zero_add, Nat.lt_add_one, Bool.false_eq_true, Bool.or_false, Bool.or_true, Bool.or_self, Nat.zero_ne_one, Nat.one_ne_zero, ite_true, ite_false, ne_eq, Nat.reduceSub, Nat.succ_eq_add_one, Nat.zero_lt_succ, Nat.add_one_ne_zero, false_or, or_false, mX0_setWant_c, mX0_setWant_n, mX0_setWant_r, mX0_setWant_l, dX0_setWant_0, dX0_setWant_1, fl_0_43_0, dX0_setWant_4, dX0_setWant_5, ic_4, dX0_setWant_6, dX0_setWant_7, dX0_setWant_8, dX0_setWant_9, dX0_setWant_10, dX0_setWant_11, st_aload_n, st_getfield, st_iadd, st_iastore, st_iconst, st_iload_n, st_imul, st_return]
  exact ⟨hin, h⟩
def sp_X0_wantMore (Γ : Cx) : YSp := fun av σ K => ∃ (A : CA) (s : CS) (p d v : Int32), av = [.ref A.1, .int p, .int d, .int v] ∧ Col Γ A s σ ∧ vp_in (p * 4 + d) 20 ∧ K none (cset Γ A (wmore s.1 p d v, s.2) σ)
theorem rv_X0_wantMore {Γ : Cx} : Recv (sp_X0_wantMore Γ) 3 0 := by
  intro av σ K h
  obtain ⟨A, s, p, d, v, rfl, hc, -⟩ := h
  obtain ⟨fs, h1, h2⟩ := col_rv hc
  exact ⟨_, _, fs, rfl, rfl, h1, h2⟩
theorem bw_273 : Cond.code yX0_wantOf cX0_wantOf 3 (some .int) ∈ BW := bw_i 273 (by decide +kernel) (by decide +kernel)
theorem bw_44 : Cond.initialized RX0 ∈ BW := bw_i 44 (by decide +kernel) (by decide +kernel)
theorem no_X0_wantOf : NameOK yX0_wantOf 2 := by unfold NameOK; decide +kernel
theorem bw_286 : Cond.methodLink RX0 46 yX0_wantOf ∈ BW := bw_i 286 (by decide +kernel) (by decide +kernel)
theorem bw_271 : Cond.instanceMethod yX0_wantOf ∈ BW := bw_i 271 (by decide +kernel) (by decide +kernel)
theorem bw_272 : Cond.selects RX0 yX0_wantOf yX0_wantOf ∈ BW := bw_i 272 (by decide +kernel) (by decide +kernel)
theorem bw_513 : Cond.methodLink RX0 50 Lib.Math.min.name ∈ BW := bw_i 513 (by decide +kernel) (by decide +kernel)
theorem bw_387 : Cond.static Lib.Math.min.name ∈ BW := bw_i 387 (by decide +kernel) (by decide +kernel)
theorem bw_53 : Cond.initialized "java/lang/Math" ∈ BW := bw_i 53 (by decide +kernel) (by decide +kernel)
theorem bw_388 : Cond.code Lib.Math.min.name Lib.Math.min.code 2 (some .int) ∈ BW := bw_i 388 (by decide +kernel) (by decide +kernel)
theorem bw_253 : Cond.code yX0_setWant cX0_setWant 4 none ∈ BW := bw_i 253 (by decide +kernel) (by decide +kernel)
theorem no_X0_setWant : NameOK yX0_setWant 3 := by unfold NameOK; decide +kernel
theorem bw_250 : Cond.methodLink RX0 39 yX0_setWant ∈ BW := bw_i 250 (by decide +kernel) (by decide +kernel)
theorem bw_251 : Cond.instanceMethod yX0_setWant ∈ BW := bw_i 251 (by decide +kernel) (by decide +kernel)
theorem bw_252 : Cond.selects RX0 yX0_setWant yX0_setWant ∈ BW := bw_i 252 (by decide +kernel) (by decide +kernel)
theorem bc_20 : (Int8.ofInt 20).toInt32 = 20 := by decide
def mX0_wantMore : Mt := (⟨1, 0, 0, 23⟩, RX0, cX0_wantMore, 4, none, (0, 0), false)
theorem mX0_wantMore_c : mX0_wantMore.2.2.1 = cX0_wantMore := rfl
theorem mX0_wantMore_n : mX0_wantMore.2.2.2.1 = 4 := rfl
theorem mX0_wantMore_r : mX0_wantMore.2.2.2.2.1 = none := rfl
theorem mX0_wantMore_l : mX0_wantMore.2.2.2.2.2.2 = false := rfl
def jX0_wantMore (Γ : Cx) : List ((Nat × Nat) × Nat × Bool × YSp) := [((0, 46), 3, true, sp_X0_wantOf Γ), ((1, 50), 2, true, sp_min), ((0, 39), 4, false, sp_X0_setWant Γ)]
theorem jX0_wantMore_0_46 (Γ : Cx) : kT (jX0_wantMore Γ) 0 46 = some (3, true, sp_X0_wantOf Γ) := rfl
theorem jX0_wantMore_1_50 (Γ : Cx) : kT (jX0_wantMore Γ) 1 50 = some (2, true, sp_min) := rfl
theorem jX0_wantMore_0_39 (Γ : Cx) : kT (jX0_wantMore Γ) 0 39 = some (4, false, sp_X0_setWant Γ) := rfl
theorem uX0_wantMore (Γ : Cx) : TbOK Γ mX0_wantMore (fT fX0, cT kX0, kT (jX0_wantMore Γ)) := tb_ok fX0_ok kX0_ok (all_cons ⟨call_V (n := 2) (T := TX0) (N := 9) (ok_X0_wantOf Γ) (rv_X0_wantOf (Γ := Γ)) rfl bw_273 bw_286 bw_271 bw_272 bw_44 no_X0_wantOf ⟨⟨rfl, rfl⟩, ⟨by decide, by decide⟩, ⟨by decide, by decide⟩⟩, fun _ => mono_X0_wantOf (Γ := Γ)⟩ (all_cons ⟨call_min bw_513 bw_387 bw_53 bw_388 (by decide +kernel), fun _ => mono_min⟩ (all_cons ⟨call_V (n := 3) (T := TX0) (N := 9) (ok_X0_setWant Γ) (rv_X0_setWant (Γ := Γ)) rfl bw_253 bw_250 bw_251 bw_252 bw_44 no_X0_setWant ⟨⟨rfl, rfl⟩, ⟨by decide, by decide⟩, ⟨by decide, by decide⟩⟩, fun z => by cases z⟩ (all_nil))))
set_option maxRecDepth 20000 in
theorem ok_X0_wantMore (Γ : Cx) : Ok Γ yX0_wantMore mX0_wantMore (sp_X0_wantMore Γ) := by
  refine ok_intro (by decide +kernel) rfl rfl ?_
  intro av σ K h
  obtain ⟨⟨a, aw, ak, ad⟩, ⟨w, kp, kd, day, gone, draw, P, rule, gd⟩, p, d, v, rfl, hc, hin, h⟩ := h
  have hc0 := hc
  obtain ⟨⟨m1, m2, m3, m4⟩, e1, e2, e3, e4⟩ := hc
  simp only [ColE, iA] at e1 e2 e3 e4 m1 m2 m3 m4
  refine ⟨Nat.le_of_ble_eq_true rfl, yvc_ok (uX0_wantMore Γ) (S := []) 40 _ _ _ _ ?_⟩
  simp only [lv_args, Value.category, m1, m2, m3, m4, e1, e2, e3, e4, sp_X0_wantOf, sp_min, yvc_s, s1i, s2i, s1l, s2l, sil, s1r, sir, siir, slir, srir, svr, sd1, sd2, lg, lput, ldel, isL_i, isL_r, isL_l, jmp, obj, obj1, fI, fR, arI, arL, arR, hput, f4_0, f4_1, f4_2, f4_3, lc_0, lc_1, rok_i, rok_b, fput_1, fput_2, csum_nil, csum_i, csum_l, csum_r, va_up_self, bx_uu, Int.reduceAdd, List.elem_nil, List.elem_cons, List.take_succ_cons, List.take_zero, List.drop_succ_cons, List.drop_zero, List.take_nil, List.drop_nil, List.reverse_cons, List.reverse_nil, List.nil_append, List.cons_append, List.append_nil, Option.toList_some, Option.toList_none, List.getElem?_cons_zero, List.getElem?_cons_succ, List.set_cons_zero, List.set_cons_succ, List.length_cons, List.length_nil, reduceIte, reduceCtorEq, and_true, true_and, and_self, or_true, true_or, false_and, and_false, not_true_eq_false, not_false_eq_true, true_implies, false_implies, implies_true, Nat.reduceAdd, Nat.reduceLT, Nat.reduceEqDiff, Nat.reduceLeDiff, Nat.reduceBEq, Nat.zero_add, Nat.lt_add_one, Bool.false_eq_true, Bool.or_false, Bool.or_true, Bool.or_self, Nat.zero_ne_one, Nat.one_ne_zero, ite_true, ite_false, ne_eq, Nat.reduceSub, Nat.succ_eq_add_one, Nat.zero_lt_succ, Nat.add_one_ne_zero, false_or, or_false, mX0_wantMore_c, mX0_wantMore_n, mX0_wantMore_r, mX0_wantMore_l, dX0_wantMore_0, dX0_wantMore_1, dX0_wantMore_2, dX0_wantMore_3, bc_20, dX0_wantMore_5, dX0_wantMore_6, dX0_wantMore_7, dX0_wantMore_8, dX0_wantMore_11, dX0_wantMore_12, dX0_wantMore_13, dX0_wantMore_16, dX0_wantMore_19, jX0_wantMore_0_46, jX0_wantMore_1_50, jX0_wantMore_0_39, st_aload_n, st_bipush, st_iadd, st_iload_n, st_invokestatic, st_invokevirtual, st_return]
  refine ⟨hin, (a, aw, ak, ad), _, p, d, _, rfl, hc0, hin, ?_⟩
  refine yvc_ok (uX0_wantMore Γ) (S := []) 40 _ _ _ _ ?_
  simp only [yvc_s, s1i, s2i, s1l, s2l, sil, s1r, sir, siir, slir, srir, svr, sd1, sd2, lg, lput, ldel, isL_i, isL_r, isL_l, jmp, obj, obj1, fI, fR, arI, arL, arR, hput, f4_0, f4_1, f4_2, f4_3, lc_0, lc_1, rok_i, rok_b, fput_1, fput_2, csum_nil, csum_i, csum_l, csum_r, va_up_self, bx_uu, Int.reduceAdd, List.elem_nil, List.elem_cons, List.take_succ_cons, List.take_zero, List.drop_succ_cons, List.drop_zero, List.take_nil, List.drop_nil, List.reverse_cons, List.reverse_nil, List.nil_append, List.cons_append, List.append_nil, Option.toList_some, Option.toList_none, List.getElem?_cons_zero, List.getElem?_cons_succ, List.set_cons_zero, List.set_cons_succ, List.length_cons, List.length_nil, reduceIte, reduceCtorEq, and_true, true_and, and_self, or_true, true_or, false_and, and_false, not_true_eq_false, not_false_eq_true, true_implies, false_implies, implies_true, Nat.reduceAdd, Nat.reduceLT, Nat.reduceEqDiff, Nat.reduceLeDiff, Nat.reduceBEq, Nat.zero_add, Nat.lt_add_one, Bool.false_eq_true, Bool.or_false, Bool.or_true, Bool.or_self, Nat.zero_ne_one, Nat.one_ne_zero, ite_true, ite_false, ne_eq, Nat.reduceSub, Nat.succ_eq_add_one, Nat.zero_lt_succ, Nat.add_one_ne_zero, false_or, or_false, mX0_wantMore_c, mX0_wantMore_n, mX0_wantMore_r, mX0_wantMore_l, dX0_wantMore_0, dX0_wantMore_1, dX0_wantMore_2, dX0_wantMore_3, bc_20, dX0_wantMore_5, dX0_wantMore_6, dX0_wantMore_7, dX0_wantMore_8, dX0_wantMore_11, dX0_wantMore_12, dX0_wantMore_13, dX0_wantMore_16, dX0_wantMore_19, jX0_wantMore_0_46, jX0_wantMore_1_50, jX0_wantMore_0_39, st_aload_n, st_bipush, st_iadd, st_iload_n, st_invokestatic, st_invokevirtual, st_return]
  exact h
def sp_X0_wantsOf (Γ : Cx) : YSp := fun av σ K => ∃ (A : CA) (s : CS) (i : Nat), av = [.ref A.1, .int (nI i)] ∧ i < 5 ∧ Col Γ A s σ ∧ K (some (.int (wsum s.1 (nI i) 4))) σ
theorem rv_X0_wantsOf {Γ : Cx} : Recv (sp_X0_wantsOf Γ) 1 0 := by
  intro av σ K h
  obtain ⟨A, s, i, rfl, -, hc, -⟩ := h
  obtain ⟨fs, h1, h2⟩ := col_rv hc
  exact ⟨_, _, fs, rfl, rfl, h1, h2⟩
theorem tg_6_18 : tgo 6 18 = some 24 := by decide
theorem tg_21_m17 : tgo 21 (-17) = some 4 := by decide
def mX0_wantsOf : Mt := (⟨1, 0, 0, 22⟩, RX0, cX0_wantsOf, 4, some .int, (0, 0), false)
theorem mX0_wantsOf_c : mX0_wantsOf.2.2.1 = cX0_wantsOf := rfl
theorem mX0_wantsOf_n : mX0_wantsOf.2.2.2.1 = 4 := rfl
theorem mX0_wantsOf_r : mX0_wantsOf.2.2.2.2.1 = some .int := rfl
theorem mX0_wantsOf_l : mX0_wantsOf.2.2.2.2.2.2 = false := rfl
def jX0_wantsOf (Γ : Cx) : List ((Nat × Nat) × Nat × Bool × YSp) := [((0, 46), 3, true, sp_X0_wantOf Γ)]
theorem jX0_wantsOf_0_46 (Γ : Cx) : kT (jX0_wantsOf Γ) 0 46 = some (3, true, sp_X0_wantOf Γ) := rfl
theorem uX0_wantsOf (Γ : Cx) : TbOK Γ mX0_wantsOf (fT fX0, cT kX0, kT (jX0_wantsOf Γ)) := tb_ok fX0_ok kX0_ok (all_cons ⟨call_V (n := 2) (T := TX0) (N := 9) (ok_X0_wantOf Γ) (rv_X0_wantOf (Γ := Γ)) rfl bw_273 bw_286 bw_271 bw_272 bw_44 no_X0_wantOf ⟨⟨rfl, rfl⟩, ⟨by decide, by decide⟩, ⟨by decide, by decide⟩⟩, fun _ => mono_X0_wantOf (Γ := Γ)⟩ (all_nil))
set_option maxRecDepth 20000 in
theorem ok_X0_wantsOf (Γ : Cx) : Ok Γ yX0_wantsOf mX0_wantsOf (sp_X0_wantsOf Γ) := by
  refine ok_intro (by decide +kernel) rfl rfl ?_
  intro av σ K h
  obtain ⟨⟨a, aw, ak, ad⟩, ⟨w, kp, kd, day, gone, draw, P, rule, gd⟩, i, rfl, hi, hc, h⟩ := h
  obtain ⟨⟨m1, m2, m3, m4⟩, e1, e2, e3, e4⟩ := hc
  simp only [ColE, iA] at e1 e2 e3 e4 m1 m2 m3 m4
  have loop : ∀ n j : Nat, j + n = 4 → YG Γ mX0_wantsOf K 4 [(0, .ref a), (1, .int (nI i)), (2, .int (wsum w (nI i) j)), (3, .int (nI j))] [] σ := by
    intro n
    induction n with
    | zero =>
      intro j hj
      obtain rfl : j = 4 := by omega
      refine yvc1_ok (uX0_wantsOf Γ) (S := [4]) 40 ?_
      simp only [yvc1, ge4, yvc_s, s1i, s2i, s1l, s2l, sil, s1r, sir, siir, slir, srir, svr, sd1, sd2, lg, lput, ldel, isL_i, isL_r, isL_l, jmp, obj, obj1, fI, fR, arI, arL, arR, hput, f4_0, f4_1, f4_2, f4_3, lc_0, lc_1, rok_i, rok_b, fput_1, fput_2, csum_nil, csum_i, csum_l, csum_r, va_up_self, bx_uu, Int.reduceAdd, List.elem_nil, List.elem_cons, List.take_succ_cons, List.take_zero, List.drop_succ_cons, List.drop_zero, List.take_nil, List.drop_nil, List.reverse_cons, List.reverse_nil, List.nil_append, List.cons_append, List.append_nil, Option.toList_some, Option.toList_none, List.getElem?_cons_zero, List.getElem?_cons_succ, List.set_cons_zero, List.set_cons_succ, List.length_cons, List.length_nil, reduceIte, reduceCtorEq, and_true, true_and, and_self, or_true, true_or, false_and, and_false, not_true_eq_false, not_false_eq_true, true_implies, false_implies, implies_true, Nat.reduceAdd, Nat.reduceLT, Nat.reduceEqDiff, Nat.reduceLeDiff, Nat.reduceBEq, Nat.zero_add, Nat.lt_add_one, Bool.false_eq_true, Bool.or_false, Bool.or_true, Bool.or_self, Nat.zero_ne_one, Nat.one_ne_zero, ite_true, ite_false, ne_eq, Nat.reduceSub, Nat.succ_eq_add_one, Nat.zero_lt_succ, Nat.add_one_ne_zero, false_or, or_false, mX0_wantsOf_c, mX0_wantsOf_n, mX0_wantsOf_r, mX0_wantsOf_l, dX0_wantsOf_0, ic_0, dX0_wantsOf_1, dX0_wantsOf_2, dX0_wantsOf_3, dX0_wantsOf_4, dX0_wantsOf_5, ic_4, dX0_wantsOf_6, tg_6_18, cnd2_ge, dX0_wantsOf_9, dX0_wantsOf_10, dX0_wantsOf_11, dX0_wantsOf_12, dX0_wantsOf_13, dX0_wantsOf_16, dX0_wantsOf_17, dX0_wantsOf_18, ic_1, dX0_wantsOf_21, tg_21_m17, dX0_wantsOf_24, dX0_wantsOf_25, jX0_wantsOf_0_46, st_aload_n, st_goto, st_iadd, st_iconst, st_if_icmp, st_iinc, st_iload_n, st_invokevirtual, st_ireturn, st_istore_n]
      exact h
    | succ n ih =>
      intro j hj
      obtain ⟨c1, c2, c3⟩ := lt4 (show j < 4 by omega)
      refine yvc1_ok (uX0_wantsOf Γ) (S := [4]) 40 ?_
      simp only [yvc1, c1, m1, m2, e1, e2, sp_X0_wantOf, nI_1, yvc_s, s1i, s2i, s1l, s2l, sil, s1r, sir, siir, slir, srir, svr, sd1, sd2, lg, lput, ldel, isL_i, isL_r, isL_l, jmp, obj, obj1, fI, fR, arI, arL, arR, hput, f4_0, f4_1, f4_2, f4_3, lc_0, lc_1, rok_i, rok_b, fput_1, fput_2, csum_nil, csum_i, csum_l, csum_r, va_up_self, bx_uu, Int.reduceAdd, List.elem_nil, List.elem_cons, List.take_succ_cons, List.take_zero, List.drop_succ_cons, List.drop_zero, List.take_nil, List.drop_nil, List.reverse_cons, List.reverse_nil, List.nil_append, List.cons_append, List.append_nil, Option.toList_some, Option.toList_none, List.getElem?_cons_zero, List.getElem?_cons_succ, List.set_cons_zero, List.set_cons_succ, List.length_cons, List.length_nil, reduceIte, reduceCtorEq, and_true, true_and, and_self, or_true, true_or, false_and, and_false, not_true_eq_false, not_false_eq_true, true_implies, false_implies, implies_true, Nat.reduceAdd, Nat.reduceLT, Nat.reduceEqDiff, Nat.reduceLeDiff, Nat.reduceBEq, Nat.zero_add, Nat.lt_add_one, Bool.false_eq_true, Bool.or_false, Bool.or_true, Bool.or_self, Nat.zero_ne_one, Nat.one_ne_zero, ite_true, ite_false, ne_eq, Nat.reduceSub, Nat.succ_eq_add_one, Nat.zero_lt_succ, Nat.add_one_ne_zero, false_or, or_false, mX0_wantsOf_c, mX0_wantsOf_n, mX0_wantsOf_r, mX0_wantsOf_l, dX0_wantsOf_0, ic_0, dX0_wantsOf_1, dX0_wantsOf_2, dX0_wantsOf_3, dX0_wantsOf_4, dX0_wantsOf_5, ic_4, dX0_wantsOf_6, tg_6_18, cnd2_ge, dX0_wantsOf_9, dX0_wantsOf_10, dX0_wantsOf_11, dX0_wantsOf_12, dX0_wantsOf_13, dX0_wantsOf_16, dX0_wantsOf_17, dX0_wantsOf_18, ic_1, dX0_wantsOf_21, tg_21_m17, dX0_wantsOf_24, dX0_wantsOf_25, jX0_wantsOf_0_46, st_aload_n, st_goto, st_iadd, st_iconst, st_if_icmp, st_iinc, st_iload_n, st_invokevirtual, st_ireturn, st_istore_n]
      exact ⟨ix_in hi (by omega), ih (j + 1) (by omega)⟩
  refine ⟨Nat.le_of_ble_eq_true rfl, yvc_ok (uX0_wantsOf Γ) (S := [4]) 40 _ _ _ _ ?_⟩
  simp only [lv_args, Value.category, yvc_s, s1i, s2i, s1l, s2l, sil, s1r, sir, siir, slir, srir, svr, sd1, sd2, lg, lput, ldel, isL_i, isL_r, isL_l, jmp, obj, obj1, fI, fR, arI, arL, arR, hput, f4_0, f4_1, f4_2, f4_3, lc_0, lc_1, rok_i, rok_b, fput_1, fput_2, csum_nil, csum_i, csum_l, csum_r, va_up_self, bx_uu, Int.reduceAdd, List.elem_nil, List.elem_cons, List.take_succ_cons, List.take_zero, List.drop_succ_cons, List.drop_zero, List.take_nil, List.drop_nil, List.reverse_cons, List.reverse_nil, List.nil_append, List.cons_append, List.append_nil, Option.toList_some, Option.toList_none, List.getElem?_cons_zero, List.getElem?_cons_succ, List.set_cons_zero, List.set_cons_succ, List.length_cons, List.length_nil, reduceIte, reduceCtorEq, and_true, true_and, and_self, or_true, true_or, false_and, and_false, not_true_eq_false, not_false_eq_true, true_implies, false_implies, implies_true, Nat.reduceAdd, Nat.reduceLT, Nat.reduceEqDiff, Nat.reduceLeDiff, Nat.reduceBEq, Nat.zero_add, Nat.lt_add_one, Bool.false_eq_true, Bool.or_false, Bool.or_true, Bool.or_self, Nat.zero_ne_one, Nat.one_ne_zero, ite_true, ite_false, ne_eq, Nat.reduceSub, Nat.succ_eq_add_one, Nat.zero_lt_succ, Nat.add_one_ne_zero, false_or, or_false, mX0_wantsOf_c, mX0_wantsOf_n, mX0_wantsOf_r, mX0_wantsOf_l, dX0_wantsOf_0, ic_0, dX0_wantsOf_1, dX0_wantsOf_2, dX0_wantsOf_3, dX0_wantsOf_4, dX0_wantsOf_5, ic_4, dX0_wantsOf_6, tg_6_18, cnd2_ge, dX0_wantsOf_9, dX0_wantsOf_10, dX0_wantsOf_11, dX0_wantsOf_12, dX0_wantsOf_13, dX0_wantsOf_16, dX0_wantsOf_17, dX0_wantsOf_18, ic_1, dX0_wantsOf_21, tg_21_m17, dX0_wantsOf_24, dX0_wantsOf_25, jX0_wantsOf_0_46, st_aload_n, st_goto, st_iadd, st_iconst, st_if_icmp, st_iinc, st_iload_n, st_invokevirtual, st_ireturn, st_istore_n]
  exact loop 4 0 rfl
end
section
/-! ===== College: methods with loops, a day ===== -/
theorem ltP {j P : Nat} (h : j < P) (hP : P ≤ 5) : ¬ nI P ≤ nI j := nI_ge h (by omega)
theorem geP {P : Nat} : nI P ≤ nI P := Int32.le_refl _
def sp_X0_wantsOfAll (Γ : Cx) : YSp := fun av σ K => ∃ (A : CA) (s : CS), av = [.ref A.1] ∧ s.2.2.2.2.2.2.1 ≤ 5 ∧ Col Γ A s σ ∧ K (some (.int (wall s.1 s.2.2.2.2.2.2.1))) σ
theorem rv_X0_wantsOfAll {Γ : Cx} : Recv (sp_X0_wantsOfAll Γ) 0 0 := by
  intro av σ K h
  obtain ⟨A, s, rfl, -, hc, -⟩ := h
  obtain ⟨fs, h1, h2⟩ := col_rv hc
  exact ⟨_, _, fs, rfl, rfl, h1, h2⟩
theorem bw_285 : Cond.code yX0_wantsOf cX0_wantsOf 4 (some .int) ∈ BW := bw_i 285 (by decide +kernel) (by decide +kernel)
theorem no_X0_wantsOf : NameOK yX0_wantsOf 1 := by unfold NameOK; decide +kernel
theorem bw_475 : Cond.methodLink RX0 55 yX0_wantsOf ∈ BW := bw_i 475 (by decide +kernel) (by decide +kernel)
theorem bw_283 : Cond.instanceMethod yX0_wantsOf ∈ BW := bw_i 283 (by decide +kernel) (by decide +kernel)
theorem bw_284 : Cond.selects RX0 yX0_wantsOf yX0_wantsOf ∈ BW := bw_i 284 (by decide +kernel) (by decide +kernel)
theorem tg_9_17 : tgo 9 17 = some 26 := by decide
theorem tg_23_m19 : tgo 23 (-19) = some 4 := by decide
def mX0_wantsOfAll : Mt := (⟨2, 0, 0, 45⟩, RX0, cX0_wantsOfAll, 3, some .int, (0, 0), false)
theorem mX0_wantsOfAll_c : mX0_wantsOfAll.2.2.1 = cX0_wantsOfAll := rfl
theorem mX0_wantsOfAll_n : mX0_wantsOfAll.2.2.2.1 = 3 := rfl
theorem mX0_wantsOfAll_r : mX0_wantsOfAll.2.2.2.2.1 = some .int := rfl
theorem mX0_wantsOfAll_l : mX0_wantsOfAll.2.2.2.2.2.2 = false := rfl
def jX0_wantsOfAll (Γ : Cx) : List ((Nat × Nat) × Nat × Bool × YSp) := [((0, 55), 2, false, sp_X0_wantsOf Γ)]
theorem jX0_wantsOfAll_0_55 (Γ : Cx) : kT (jX0_wantsOfAll Γ) 0 55 = some (2, false, sp_X0_wantsOf Γ) := rfl
theorem uX0_wantsOfAll (Γ : Cx) : TbOK Γ mX0_wantsOfAll (fT fX0, cT kX0, kT (jX0_wantsOfAll Γ)) := tb_ok fX0_ok kX0_ok (all_cons ⟨call_V (n := 1) (T := TX0) (N := 9) (ok_X0_wantsOf Γ) (rv_X0_wantsOf (Γ := Γ)) rfl bw_285 bw_475 bw_283 bw_284 bw_44 no_X0_wantsOf ⟨⟨rfl, rfl⟩, ⟨by decide, by decide⟩, ⟨by decide, by decide⟩⟩, fun z => by cases z⟩ (all_nil))
set_option maxRecDepth 20000 in
theorem ok_X0_wantsOfAll (Γ : Cx) : Ok Γ yX0_wantsOfAll mX0_wantsOfAll (sp_X0_wantsOfAll Γ) := by
  refine ok_intro (by decide +kernel) rfl rfl ?_
  intro av σ K h
  obtain ⟨⟨a, aw, ak, ad⟩, ⟨w, kp, kd, day, gone, draw, P, rule, gd⟩, rfl, hP, hc, h⟩ := h
  have hc0 := hc
  obtain ⟨⟨m1, m2, m3, m4⟩, e1, e2, e3, e4⟩ := hc
  simp only [ColE, iA] at e1 e2 e3 e4 m1 m2 m3 m4 hP h
  have loop : ∀ n j : Nat, j + n = P → YG Γ mX0_wantsOfAll K 4 [(0, .ref a), (1, .int (wall w j)), (2, .int (nI j))] [] σ := by
    intro n
    induction n with
    | zero =>
      intro j hj
      obtain rfl : j = P := by omega
      refine yvc1_ok (uX0_wantsOfAll Γ) (S := [4]) 40 ?_
      simp only [yvc1, geP, m1, e1, yvc_s, s1i, s2i, s1l, s2l, sil, s1r, sir, siir, slir, srir, svr, sd1, sd2, lg, lput, ldel, isL_i, isL_r, isL_l, jmp, obj, obj1, fI, fR, arI, arL, arR, hput, f4_0, f4_1, f4_2, f4_3, lc_0, lc_1, rok_i, rok_b, fput_1, fput_2, csum_nil, csum_i, csum_l, csum_r, va_up_self, bx_uu, Int.reduceAdd, List.elem_nil, List.elem_cons, List.take_succ_cons, List.take_zero, List.drop_succ_cons, List.drop_zero, List.take_nil, List.drop_nil, List.reverse_cons, List.reverse_nil, List.nil_append, List.cons_append, List.append_nil, Option.toList_some, Option.toList_none, List.getElem?_cons_zero, List.getElem?_cons_succ, List.set_cons_zero, List.set_cons_succ, List.length_cons, List.length_nil, reduceIte, reduceCtorEq, and_true, true_and, and_self, or_true, true_or, false_and, and_false, not_true_eq_false, not_false_eq_true, true_implies, false_implies, implies_true, Nat.reduceAdd, Nat.reduceLT, Nat.reduceEqDiff, Nat.reduceLeDiff, Nat.reduceBEq, Nat.zero_add, Nat.lt_add_one, Bool.false_eq_true, Bool.or_false, Bool.or_true, Bool.or_self, Nat.zero_ne_one, Nat.one_ne_zero, ite_true, ite_false, ne_eq, Nat.reduceSub, Nat.succ_eq_add_one, Nat.zero_lt_succ, Nat.add_one_ne_zero, false_or, or_false, mX0_wantsOfAll_c, mX0_wantsOfAll_n, mX0_wantsOfAll_r, mX0_wantsOfAll_l, dX0_wantsOfAll_0, ic_0, dX0_wantsOfAll_1, dX0_wantsOfAll_2, dX0_wantsOfAll_3, dX0_wantsOfAll_4, dX0_wantsOfAll_5, dX0_wantsOfAll_6, fl_0_15_0, dX0_wantsOfAll_9, tg_9_17, cnd2_ge, dX0_wantsOfAll_12, dX0_wantsOfAll_13, dX0_wantsOfAll_14, dX0_wantsOfAll_15, dX0_wantsOfAll_18, dX0_wantsOfAll_19, dX0_wantsOfAll_20, ic_1, dX0_wantsOfAll_23, tg_23_m19, dX0_wantsOfAll_26, dX0_wantsOfAll_27, jX0_wantsOfAll_0_55, st_aload_n, st_getfield, st_goto, st_iadd, st_iconst, st_if_icmp, st_iinc, st_iload_n, st_invokevirtual, st_ireturn, st_istore_n]
      exact h
    | succ n ih =>
      intro j hj
      have c1 := ltP (show j < P by omega) hP
      refine yvc1_ok (uX0_wantsOfAll Γ) (S := [4]) 40 ?_
      simp only [yvc1, c1, m1, e1, yvc_s, s1i, s2i, s1l, s2l, sil, s1r, sir, siir, slir, srir, svr, sd1, sd2, lg, lput, ldel, isL_i, isL_r, isL_l, jmp, obj, obj1, fI, fR, arI, arL, arR, hput, f4_0, f4_1, f4_2, f4_3, lc_0, lc_1, rok_i, rok_b, fput_1, fput_2, csum_nil, csum_i, csum_l, csum_r, va_up_self, bx_uu, Int.reduceAdd, List.elem_nil, List.elem_cons, List.take_succ_cons, List.take_zero, List.drop_succ_cons, List.drop_zero, List.take_nil, List.drop_nil, List.reverse_cons, List.reverse_nil, List.nil_append, List.cons_append, List.append_nil, Option.toList_some, Option.toList_none, List.getElem?_cons_zero, List.getElem?_cons_succ, List.set_cons_zero, List.set_cons_succ, List.length_cons, List.length_nil, reduceIte, reduceCtorEq, and_true, true_and, and_self, or_true, true_or, false_and, and_false, not_true_eq_false, not_false_eq_true, true_implies, false_implies, implies_true, Nat.reduceAdd, Nat.reduceLT, Nat.reduceEqDiff, Nat.reduceLeDiff, Nat.reduceBEq, Nat.zero_add, Nat.lt_add_one, Bool.false_eq_true, Bool.or_false, Bool.or_true, Bool.or_self, Nat.zero_ne_one, Nat.one_ne_zero, ite_true, ite_false, ne_eq, Nat.reduceSub, Nat.succ_eq_add_one, Nat.zero_lt_succ, Nat.add_one_ne_zero, false_or, or_false, mX0_wantsOfAll_c, mX0_wantsOfAll_n, mX0_wantsOfAll_r, mX0_wantsOfAll_l, dX0_wantsOfAll_0, ic_0, dX0_wantsOfAll_1, dX0_wantsOfAll_2, dX0_wantsOfAll_3, dX0_wantsOfAll_4, dX0_wantsOfAll_5, dX0_wantsOfAll_6, fl_0_15_0, dX0_wantsOfAll_9, tg_9_17, cnd2_ge, dX0_wantsOfAll_12, dX0_wantsOfAll_13, dX0_wantsOfAll_14, dX0_wantsOfAll_15, dX0_wantsOfAll_18, dX0_wantsOfAll_19, dX0_wantsOfAll_20, ic_1, dX0_wantsOfAll_23, tg_23_m19, dX0_wantsOfAll_26, dX0_wantsOfAll_27, jX0_wantsOfAll_0_55, st_aload_n, st_getfield, st_goto, st_iadd, st_iconst, st_if_icmp, st_iinc, st_iload_n, st_invokevirtual, st_ireturn, st_istore_n]
      refine ⟨(a, aw, ak, ad), _, j, rfl, by omega, hc0, ?_⟩
      refine yvc_ok (uX0_wantsOfAll Γ) (S := [4]) 40 _ _ _ _ ?_
      simp only [nI_1, yvc_s, s1i, s2i, s1l, s2l, sil, s1r, sir, siir, slir, srir, svr, sd1, sd2, lg, lput, ldel, isL_i, isL_r, isL_l, jmp, obj, obj1, fI, fR, arI, arL, arR, hput, f4_0, f4_1, f4_2, f4_3, lc_0, lc_1, rok_i, rok_b, fput_1, fput_2, csum_nil, csum_i, csum_l, csum_r, va_up_self, bx_uu, Int.reduceAdd, List.elem_nil, List.elem_cons, List.take_succ_cons, List.take_zero, List.drop_succ_cons, List.drop_zero, List.take_nil, List.drop_nil, List.reverse_cons, List.reverse_nil, List.nil_append, List.cons_append, List.append_nil, Option.toList_some, Option.toList_none, List.getElem?_cons_zero, List.getElem?_cons_succ, List.set_cons_zero, List.set_cons_succ, List.length_cons, List.length_nil, reduceIte, reduceCtorEq, and_true, true_and, and_self, or_true, true_or, false_and, and_false, not_true_eq_false, not_false_eq_true, true_implies, false_implies, implies_true, Nat.reduceAdd, Nat.reduceLT, Nat.reduceEqDiff, Nat.reduceLeDiff, Nat.reduceBEq, Nat.zero_add, Nat.lt_add_one, Bool.false_eq_true, Bool.or_false, Bool.or_true, Bool.or_self, Nat.zero_ne_one, Nat.one_ne_zero, ite_true, ite_false, ne_eq, Nat.reduceSub, Nat.succ_eq_add_one, Nat.zero_lt_succ, Nat.add_one_ne_zero, false_or, or_false, mX0_wantsOfAll_c, mX0_wantsOfAll_n, mX0_wantsOfAll_r, mX0_wantsOfAll_l, dX0_wantsOfAll_0, ic_0, dX0_wantsOfAll_1, dX0_wantsOfAll_2, dX0_wantsOfAll_3, dX0_wantsOfAll_4, dX0_wantsOfAll_5, dX0_wantsOfAll_6, fl_0_15_0, dX0_wantsOfAll_9, tg_9_17, cnd2_ge, dX0_wantsOfAll_12, dX0_wantsOfAll_13, dX0_wantsOfAll_14, dX0_wantsOfAll_15, dX0_wantsOfAll_18, dX0_wantsOfAll_19, dX0_wantsOfAll_20, ic_1, dX0_wantsOfAll_23, tg_23_m19, dX0_wantsOfAll_26, dX0_wantsOfAll_27, jX0_wantsOfAll_0_55, st_aload_n, st_getfield, st_goto, st_iadd, st_iconst, st_if_icmp, st_iinc, st_iload_n, st_invokevirtual, st_ireturn, st_istore_n]
      exact ih (j + 1) (by omega)
  refine ⟨Nat.le_of_ble_eq_true rfl, yvc_ok (uX0_wantsOfAll Γ) (S := [4]) 40 _ _ _ _ ?_⟩
  simp only [lv_args, Value.category, yvc_s, s1i, s2i, s1l, s2l, sil, s1r, sir, siir, slir, srir, svr, sd1, sd2, lg, lput, ldel, isL_i, isL_r, isL_l, jmp, obj, obj1, fI, fR, arI, arL, arR, hput, f4_0, f4_1, f4_2, f4_3, lc_0, lc_1, rok_i, rok_b, fput_1, fput_2, csum_nil, csum_i, csum_l, csum_r, va_up_self, bx_uu, Int.reduceAdd, List.elem_nil, List.elem_cons, List.take_succ_cons, List.take_zero, List.drop_succ_cons, List.drop_zero, List.take_nil, List.drop_nil, List.reverse_cons, List.reverse_nil, List.nil_append, List.cons_append, List.append_nil, Option.toList_some, Option.toList_none, List.getElem?_cons_zero, List.getElem?_cons_succ, List.set_cons_zero, List.set_cons_succ, List.length_cons, List.length_nil, reduceIte, reduceCtorEq, and_true, true_and, and_self, or_true, true_or, false_and, and_false, not_true_eq_false, not_false_eq_true, true_implies, false_implies, implies_true, Nat.reduceAdd, Nat.reduceLT, Nat.reduceEqDiff, Nat.reduceLeDiff, Nat.reduceBEq, Nat.zero_add, Nat.lt_add_one, Bool.false_eq_true, Bool.or_false, Bool.or_true, Bool.or_self, Nat.zero_ne_one, Nat.one_ne_zero, ite_true, ite_false, ne_eq, Nat.reduceSub, Nat.succ_eq_add_one, Nat.zero_lt_succ, Nat.add_one_ne_zero, false_or, or_false, mX0_wantsOfAll_c, mX0_wantsOfAll_n, mX0_wantsOfAll_r, mX0_wantsOfAll_l, dX0_wantsOfAll_0, ic_0, dX0_wantsOfAll_1, dX0_wantsOfAll_2, dX0_wantsOfAll_3, dX0_wantsOfAll_4, dX0_wantsOfAll_5, dX0_wantsOfAll_6, fl_0_15_0, dX0_wantsOfAll_9, tg_9_17, cnd2_ge, dX0_wantsOfAll_12, dX0_wantsOfAll_13, dX0_wantsOfAll_14, dX0_wantsOfAll_15, dX0_wantsOfAll_18, dX0_wantsOfAll_19, dX0_wantsOfAll_20, ic_1, dX0_wantsOfAll_23, tg_23_m19, dX0_wantsOfAll_26, dX0_wantsOfAll_27, jX0_wantsOfAll_0_55, st_aload_n, st_getfield, st_goto, st_iadd, st_iconst, st_if_icmp, st_iinc, st_iload_n, st_invokevirtual, st_ireturn, st_istore_n]
  exact loop P 0 (by omega)
def sp_X0_keysOf (Γ : Cx) : YSp := fun av σ K => ∃ (A : CA) (s : CS) (p : Int32), av = [.ref A.1, .int p] ∧ Col Γ A s σ ∧ K (some (.int (kset s.2.1 p 4))) σ
theorem rv_X0_keysOf {Γ : Cx} : Recv (sp_X0_keysOf Γ) 1 0 := by
  intro av σ K h
  obtain ⟨A, s, p, rfl, hc, -⟩ := h
  obtain ⟨fs, h1, h2⟩ := col_rv hc
  exact ⟨_, _, fs, rfl, rfl, h1, h2⟩
theorem tg_6_25 : tgo 6 25 = some 31 := by decide
theorem tg_16_9 : tgo 16 9 = some 25 := by decide
theorem tg_28_m24 : tgo 28 (-24) = some 4 := by decide
def mX0_keysOf : Mt := (⟨0, 0, 0, 0⟩, RX0, cX0_keysOf, 4, some .int, (0, 0), false)
theorem mX0_keysOf_c : mX0_keysOf.2.2.1 = cX0_keysOf := rfl
theorem mX0_keysOf_n : mX0_keysOf.2.2.2.1 = 4 := rfl
theorem mX0_keysOf_r : mX0_keysOf.2.2.2.2.1 = some .int := rfl
theorem mX0_keysOf_l : mX0_keysOf.2.2.2.2.2.2 = false := rfl
def jX0_keysOf (Γ : Cx) : List ((Nat × Nat) × Nat × Bool × YSp) := []
theorem uX0_keysOf (Γ : Cx) : TbOK Γ mX0_keysOf (fT fX0, cT kX0, kT (jX0_keysOf Γ)) := tb_ok fX0_ok kX0_ok (all_nil)
set_option maxRecDepth 20000 in
theorem ok_X0_keysOf (Γ : Cx) : Ok Γ yX0_keysOf mX0_keysOf (sp_X0_keysOf Γ) := by
  refine ok_intro (by decide +kernel) rfl rfl ?_
  intro av σ K h
  obtain ⟨⟨a, aw, ak, ad⟩, ⟨w, kp, kd, day, gone, draw, P, rule, gd⟩, p, rfl, hc, h⟩ := h
  obtain ⟨⟨m1, m2, m3, m4⟩, e1, e2, e3, e4⟩ := hc
  simp only [ColE, iA] at e1 e2 e3 e4 m1 m2 m3 m4 h
  have loop : ∀ n j : Nat, j + n = 4 → YG Γ mX0_keysOf K 4 [(0, .ref a), (1, .int p), (2, .int (kset kp p j)), (3, .int (nI j))] [] σ := by
    intro n
    induction n with
    | zero =>
      intro j hj
      obtain rfl : j = 4 := by omega
      refine yvc1_ok (uX0_keysOf Γ) (S := [4]) 40 ?_
      simp only [yvc1, ge4, yvc_s, s1i, s2i, s1l, s2l, sil, s1r, sir, siir, slir, srir, svr, sd1, sd2, lg, lput, ldel, isL_i, isL_r, isL_l, jmp, obj, obj1, fI, fR, arI, arL, arR, hput, f4_0, f4_1, f4_2, f4_3, lc_0, lc_1, rok_i, rok_b, fput_1, fput_2, csum_nil, csum_i, csum_l, csum_r, va_up_self, bx_uu, Int.reduceAdd, List.elem_nil, List.elem_cons, List.take_succ_cons, List.take_zero, List.drop_succ_cons, List.drop_zero, List.take_nil, List.drop_nil, List.reverse_cons, List.reverse_nil, List.nil_append, List.cons_append, List.append_nil, Option.toList_some, Option.toList_none, List.getElem?_cons_zero, List.getElem?_cons_succ, List.set_cons_zero, List.set_cons_succ, List.length_cons, List.length_nil, reduceIte, reduceCtorEq, and_true, true_and, and_self, or_true, true_or, false_and, and_false, not_true_eq_false, not_false_eq_true, true_implies, false_implies, implies_true, Nat.reduceAdd, Nat.reduceLT, Nat.reduceEqDiff, Nat.reduceLeDiff, Nat.reduceBEq, Nat.zero_add, Nat.lt_add_one, Bool.false_eq_true, Bool.or_false, Bool.or_true, Bool.or_self, Nat.zero_ne_one, Nat.one_ne_zero, ite_true, ite_false, ne_eq, Nat.reduceSub, Nat.succ_eq_add_one, Nat.zero_lt_succ, Nat.add_one_ne_zero, false_or, or_false, mX0_keysOf_c, mX0_keysOf_n, mX0_keysOf_r, mX0_keysOf_l, dX0_keysOf_0, ic_0, dX0_keysOf_1, dX0_keysOf_2, dX0_keysOf_3, dX0_keysOf_4, dX0_keysOf_5, ic_4, dX0_keysOf_6, tg_6_25, cnd2_ge, dX0_keysOf_9, dX0_keysOf_10, fl_0_59_0, dX0_keysOf_13, dX0_keysOf_14, dX0_keysOf_15, dX0_keysOf_16, tg_16_9, cnd2_ne, dX0_keysOf_19, dX0_keysOf_20, ic_1, dX0_keysOf_21, dX0_keysOf_22, dX0_keysOf_23, dX0_keysOf_24, dX0_keysOf_25, dX0_keysOf_28, tg_28_m24, dX0_keysOf_31, dX0_keysOf_32, st_aload_n, st_getfield, st_goto, st_iaload, st_iconst, st_if_icmp, st_iinc, st_iload_n, st_ior, st_ireturn, st_ishl, st_istore_n]
      exact h
    | succ n ih =>
      intro j hj
      obtain ⟨c1, c2, c3⟩ := lt4 (show j < 4 by omega)
      have hj1 := ih (j + 1) (by omega)
      refine yvc1_ok (uX0_keysOf Γ) (S := [4]) 40 ?_
      simp only [yvc1, c1, c2, c3, m1, m3, e1, e3, nI_1, yvc_s, s1i, s2i, s1l, s2l, sil, s1r, sir, siir, slir, srir, svr, sd1, sd2, lg, lput, ldel, isL_i, isL_r, isL_l, jmp, obj, obj1, fI, fR, arI, arL, arR, hput, f4_0, f4_1, f4_2, f4_3, lc_0, lc_1, rok_i, rok_b, fput_1, fput_2, csum_nil, csum_i, csum_l, csum_r, va_up_self, bx_uu, Int.reduceAdd, List.elem_nil, List.elem_cons, List.take_succ_cons, List.take_zero, List.drop_succ_cons, List.drop_zero, List.take_nil, List.drop_nil, List.reverse_cons, List.reverse_nil, List.nil_append, List.cons_append, List.append_nil, Option.toList_some, Option.toList_none, List.getElem?_cons_zero, List.getElem?_cons_succ, List.set_cons_zero, List.set_cons_succ, List.length_cons, List.length_nil, reduceIte, reduceCtorEq, and_true, true_and, and_self, or_true, true_or, false_and, and_false, not_true_eq_false, not_false_eq_true, true_implies, false_implies, implies_true, Nat.reduceAdd, Nat.reduceLT, Nat.reduceEqDiff, Nat.reduceLeDiff, Nat.reduceBEq, Nat.zero_add, Nat.lt_add_one, Bool.false_eq_true, Bool.or_false, Bool.or_true, Bool.or_self, Nat.zero_ne_one, Nat.one_ne_zero, ite_true, ite_false, ne_eq, Nat.reduceSub, Nat.succ_eq_add_one, Nat.zero_lt_succ, Nat.add_one_ne_zero, false_or, or_false, mX0_keysOf_c, mX0_keysOf_n, mX0_keysOf_r, mX0_keysOf_l, dX0_keysOf_0, ic_0, dX0_keysOf_1, dX0_keysOf_2, dX0_keysOf_3, dX0_keysOf_4, dX0_keysOf_5, ic_4, dX0_keysOf_6, tg_6_25, cnd2_ge, dX0_keysOf_9, dX0_keysOf_10, fl_0_59_0, dX0_keysOf_13, dX0_keysOf_14, dX0_keysOf_15, dX0_keysOf_16, tg_16_9, cnd2_ne, dX0_keysOf_19, dX0_keysOf_20, ic_1, dX0_keysOf_21, dX0_keysOf_22, dX0_keysOf_23, dX0_keysOf_24, dX0_keysOf_25, dX0_keysOf_28, tg_28_m24, dX0_keysOf_31, dX0_keysOf_32, st_aload_n, st_getfield, st_goto, st_iaload, st_iconst, st_if_icmp, st_iinc, st_iload_n, st_ior, st_ireturn, st_ishl, st_istore_n]
      refine ⟨fun c => ?_, fun c => ?_⟩
      · rw [kset, if_neg c] at hj1
        exact hj1
      · rw [kset, if_pos (Classical.not_not.mp c)] at hj1
        exact hj1
  refine ⟨Nat.le_of_ble_eq_true rfl, yvc_ok (uX0_keysOf Γ) (S := [4]) 40 _ _ _ _ ?_⟩
  simp only [lv_args, Value.category, yvc_s, s1i, s2i, s1l, s2l, sil, s1r, sir, siir, slir, srir, svr, sd1, sd2, lg, lput, ldel, isL_i, isL_r, isL_l, jmp, obj, obj1, fI, fR, arI, arL, arR, hput, f4_0, f4_1, f4_2, f4_3, lc_0, lc_1, rok_i, rok_b, fput_1, fput_2, csum_nil, csum_i, csum_l, csum_r, va_up_self, bx_uu, Int.reduceAdd, List.elem_nil, List.elem_cons, List.take_succ_cons, List.take_zero, List.drop_succ_cons, List.drop_zero, List.take_nil, List.drop_nil, List.reverse_cons, List.reverse_nil, List.nil_append, List.cons_append, List.append_nil, Option.toList_some, Option.toList_none, List.getElem?_cons_zero, List.getElem?_cons_succ, List.set_cons_zero, List.set_cons_succ, List.length_cons, List.length_nil, reduceIte, reduceCtorEq, and_true, true_and, and_self, or_true, true_or, false_and, and_false, not_true_eq_false, not_false_eq_true, true_implies, false_implies, implies_true, Nat.reduceAdd, Nat.reduceLT, Nat.reduceEqDiff, Nat.reduceLeDiff, Nat.reduceBEq, Nat.zero_add, Nat.lt_add_one, Bool.false_eq_true, Bool.or_false, Bool.or_true, Bool.or_self, Nat.zero_ne_one, Nat.one_ne_zero, ite_true, ite_false, ne_eq, Nat.reduceSub, Nat.succ_eq_add_one, Nat.zero_lt_succ, Nat.add_one_ne_zero, false_or, or_false, mX0_keysOf_c, mX0_keysOf_n, mX0_keysOf_r, mX0_keysOf_l, dX0_keysOf_0, ic_0, dX0_keysOf_1, dX0_keysOf_2, dX0_keysOf_3, dX0_keysOf_4, dX0_keysOf_5, ic_4, dX0_keysOf_6, tg_6_25, cnd2_ge, dX0_keysOf_9, dX0_keysOf_10, fl_0_59_0, dX0_keysOf_13, dX0_keysOf_14, dX0_keysOf_15, dX0_keysOf_16, tg_16_9, cnd2_ne, dX0_keysOf_19, dX0_keysOf_20, ic_1, dX0_keysOf_21, dX0_keysOf_22, dX0_keysOf_23, dX0_keysOf_24, dX0_keysOf_25, dX0_keysOf_28, tg_28_m24, dX0_keysOf_31, dX0_keysOf_32, st_aload_n, st_getfield, st_goto, st_iaload, st_iconst, st_if_icmp, st_iinc, st_iload_n, st_ior, st_ireturn, st_ishl, st_istore_n]
  exact loop 4 0 rfl
def sp_X0_nails (Γ : Cx) : YSp := fun av σ K => ∃ (A : CA) (s : CS), av = [.ref A.1] ∧ Col Γ A s σ ∧ K (some (.int (kset s.2.1 (-4) 4))) σ
theorem rv_X0_nails {Γ : Cx} : Recv (sp_X0_nails Γ) 0 0 := by
  intro av σ K h
  obtain ⟨A, s, rfl, hc, -⟩ := h
  obtain ⟨fs, h1, h2⟩ := col_rv hc
  exact ⟨_, _, fs, rfl, rfl, h1, h2⟩
theorem bw_281 : Cond.code yX0_keysOf cX0_keysOf 4 (some .int) ∈ BW := bw_i 281 (by decide +kernel) (by decide +kernel)
theorem no_X0_keysOf : NameOK yX0_keysOf 1 := by unfold NameOK; decide +kernel
theorem bw_299 : Cond.methodLink RX0 62 yX0_keysOf ∈ BW := bw_i 299 (by decide +kernel) (by decide +kernel)
theorem bw_279 : Cond.instanceMethod yX0_keysOf ∈ BW := bw_i 279 (by decide +kernel) (by decide +kernel)
theorem bw_280 : Cond.selects RX0 yX0_keysOf yX0_keysOf ∈ BW := bw_i 280 (by decide +kernel) (by decide +kernel)
theorem bc_m4 : (Int8.ofInt (-4)).toInt32 = (-4) := by decide
def mX0_nails : Mt := (⟨1, 0, 0, 23⟩, RX0, cX0_nails, 1, some .int, (0, 0), false)
theorem mX0_nails_c : mX0_nails.2.2.1 = cX0_nails := rfl
theorem mX0_nails_n : mX0_nails.2.2.2.1 = 1 := rfl
theorem mX0_nails_r : mX0_nails.2.2.2.2.1 = some .int := rfl
theorem mX0_nails_l : mX0_nails.2.2.2.2.2.2 = false := rfl
def jX0_nails (Γ : Cx) : List ((Nat × Nat) × Nat × Bool × YSp) := [((0, 62), 2, false, sp_X0_keysOf Γ)]
theorem jX0_nails_0_62 (Γ : Cx) : kT (jX0_nails Γ) 0 62 = some (2, false, sp_X0_keysOf Γ) := rfl
theorem uX0_nails (Γ : Cx) : TbOK Γ mX0_nails (fT fX0, cT kX0, kT (jX0_nails Γ)) := tb_ok fX0_ok kX0_ok (all_cons ⟨call_V (n := 1) (T := TX0) (N := 9) (ok_X0_keysOf Γ) (rv_X0_keysOf (Γ := Γ)) rfl bw_281 bw_299 bw_279 bw_280 bw_44 no_X0_keysOf ⟨⟨rfl, rfl⟩, ⟨by decide, by decide⟩, ⟨by decide, by decide⟩⟩, fun z => by cases z⟩ (all_nil))
set_option maxRecDepth 20000 in
theorem ok_X0_nails (Γ : Cx) : Ok Γ yX0_nails mX0_nails (sp_X0_nails Γ) := by
  refine ok_intro (by decide +kernel) rfl rfl ?_
  intro av σ K h
  obtain ⟨A, s, rfl, hc, h⟩ := h
  refine ⟨Nat.le_of_ble_eq_true rfl, yvc_ok (uX0_nails Γ) (S := []) 40 _ _ _ _ ?_⟩
  simp only [lv_args, Value.category, yvc_s, s1i, s2i, s1l, s2l, sil, s1r, sir, siir, slir, srir, svr, sd1, sd2, lg, lput, ldel, isL_i, isL_r, isL_l, jmp, obj, obj1, fI, fR, arI, arL, arR, hput, f4_0, f4_1, f4_2, f4_3, lc_0, lc_1, rok_i, rok_b, fput_1, fput_2, csum_nil, csum_i, csum_l, csum_r, va_up_self, bx_uu, Int.reduceAdd, List.elem_nil, List.elem_cons, List.take_succ_cons, List.take_zero, List.drop_succ_cons, List.drop_zero, List.take_nil, List.drop_nil, List.reverse_cons, List.reverse_nil, List.nil_append, List.cons_append, List.append_nil, Option.toList_some, Option.toList_none, List.getElem?_cons_zero, List.getElem?_cons_succ, List.set_cons_zero, List.set_cons_succ, List.length_cons, List.length_nil, reduceIte, reduceCtorEq, and_true, true_and, and_self, or_true, true_or, false_and, and_false, not_true_eq_false, not_false_eq_true, true_implies, false_implies, implies_true, Nat.reduceAdd, Nat.reduceLT, Nat.reduceEqDiff, Nat.reduceLeDiff, Nat.reduceBEq, Nat.zero_add, Nat.lt_add_one, Bool.false_eq_true, Bool.or_false, Bool.or_true, Bool.or_self, Nat.zero_ne_one, Nat.one_ne_zero, ite_true, ite_false, ne_eq, Nat.reduceSub, Nat.succ_eq_add_one, Nat.zero_lt_succ, Nat.add_one_ne_zero, false_or, or_false, mX0_nails_c, mX0_nails_n, mX0_nails_r, mX0_nails_l, dX0_nails_0, dX0_nails_1, bc_m4, dX0_nails_3, dX0_nails_6, jX0_nails_0_62, st_aload_n, st_bipush, st_invokevirtual, st_ireturn]
  refine ⟨A, s, _, rfl, hc, ?_⟩
  refine yvc_ok (uX0_nails Γ) (S := []) 40 _ _ _ _ ?_
  simp only [yvc_s, s1i, s2i, s1l, s2l, sil, s1r, sir, siir, slir, srir, svr, sd1, sd2, lg, lput, ldel, isL_i, isL_r, isL_l, jmp, obj, obj1, fI, fR, arI, arL, arR, hput, f4_0, f4_1, f4_2, f4_3, lc_0, lc_1, rok_i, rok_b, fput_1, fput_2, csum_nil, csum_i, csum_l, csum_r, va_up_self, bx_uu, Int.reduceAdd, List.elem_nil, List.elem_cons, List.take_succ_cons, List.take_zero, List.drop_succ_cons, List.drop_zero, List.take_nil, List.drop_nil, List.reverse_cons, List.reverse_nil, List.nil_append, List.cons_append, List.append_nil, Option.toList_some, Option.toList_none, List.getElem?_cons_zero, List.getElem?_cons_succ, List.set_cons_zero, List.set_cons_succ, List.length_cons, List.length_nil, reduceIte, reduceCtorEq, and_true, true_and, and_self, or_true, true_or, false_and, and_false, not_true_eq_false, not_false_eq_true, true_implies, false_implies, implies_true, Nat.reduceAdd, Nat.reduceLT, Nat.reduceEqDiff, Nat.reduceLeDiff, Nat.reduceBEq, Nat.zero_add, Nat.lt_add_one, Bool.false_eq_true, Bool.or_false, Bool.or_true, Bool.or_self, Nat.zero_ne_one, Nat.one_ne_zero, ite_true, ite_false, ne_eq, Nat.reduceSub, Nat.succ_eq_add_one, Nat.zero_lt_succ, Nat.add_one_ne_zero, false_or, or_false, mX0_nails_c, mX0_nails_n, mX0_nails_r, mX0_nails_l, dX0_nails_0, dX0_nails_1, bc_m4, dX0_nails_3, dX0_nails_6, jX0_nails_0_62, st_aload_n, st_bipush, st_invokevirtual, st_ireturn]
  exact h
def sp_X0_keeperAsSet (Γ : Cx) : YSp := fun av σ K => match av with | [.ref a, .int d] => obj1 σ a 0 fun fs => fR fs 1 fun ak => arI Γ σ ak fun n kp => vp_in d n ∧ K (some (.int (kas (kp d.toNatClampNeg)))) σ | _ => False
theorem mono_X0_keeperAsSet {Γ : Cx} : Mono (sp_X0_keeperAsSet Γ) := by
  intro av σ K K' hk h
  unfold sp_X0_keeperAsSet at h ⊢
  split at h
  · exact obj1_mono (fun _ h => fR_mono (fun _ h => arI_mono (fun _ _ h => ⟨h.1, hk _ _ h.2⟩) h) h) h
  · exact h.elim
theorem rv_X0_keeperAsSet {Γ : Cx} : Recv (sp_X0_keeperAsSet Γ) 1 0 := by
  intro av σ K h
  unfold sp_X0_keeperAsSet at h
  split at h
  · obtain ⟨fs, h1, h2, -⟩ := obj1_recv h
    exact ⟨_, _, fs, rfl, rfl, h1, h2⟩
  · exact h.elim
theorem tg_8_7 : tgo 8 7 = some 15 := by decide
theorem tg_12_11 : tgo 12 11 = some 23 := by decide
def mX0_keeperAsSet : Mt := (⟨0, 0, 0, 0⟩, RX0, cX0_keeperAsSet, 2, some .int, (0, 0), false)
theorem mX0_keeperAsSet_c : mX0_keeperAsSet.2.2.1 = cX0_keeperAsSet := rfl
theorem mX0_keeperAsSet_n : mX0_keeperAsSet.2.2.2.1 = 2 := rfl
theorem mX0_keeperAsSet_r : mX0_keeperAsSet.2.2.2.2.1 = some .int := rfl
theorem mX0_keeperAsSet_l : mX0_keeperAsSet.2.2.2.2.2.2 = false := rfl
def jX0_keeperAsSet (Γ : Cx) : List ((Nat × Nat) × Nat × Bool × YSp) := []
theorem uX0_keeperAsSet (Γ : Cx) : TbOK Γ mX0_keeperAsSet (fT fX0, cT kX0, kT (jX0_keeperAsSet Γ)) := tb_ok fX0_ok kX0_ok (all_nil)
set_option maxRecDepth 20000 in
theorem ok_X0_keeperAsSet (Γ : Cx) : Ok Γ yX0_keeperAsSet mX0_keeperAsSet (sp_X0_keeperAsSet Γ) := by
  refine ok_intro (by decide +kernel) rfl rfl ?_
  intro av σ K h
  unfold sp_X0_keeperAsSet at h
  split at h
  · next a d =>
    obtain ⟨fs, h1, h2, h⟩ := obj1_recv h
    obtain ⟨ak, h3, h⟩ := fR_recv h
    obtain ⟨n, kp, h4, h5, h6, h⟩ := arI_recv h
    refine ⟨Nat.le_of_ble_eq_true rfl, yvc_ok (uX0_keeperAsSet Γ) (S := []) 40 _ _ _ _ ?_⟩
    simp only [lv_args, Value.category, h1, h2, h3, h4, h5, h6, yvc_s, s1i, s2i, s1l, s2l, sil, s1r, sir, siir, slir, srir, svr, sd1, sd2, lg, lput, ldel, isL_i, isL_r, isL_l, jmp, obj, obj1, fI, fR, arI, arL, arR, hput, f4_0, f4_1, f4_2, f4_3, lc_0, lc_1, rok_i, rok_b, fput_1, fput_2, csum_nil, csum_i, csum_l, csum_r, va_up_self, bx_uu, Int.reduceAdd, List.elem_nil, List.elem_cons, List.take_succ_cons, List.take_zero, List.drop_succ_cons, List.drop_zero, List.take_nil, List.drop_nil, List.reverse_cons, List.reverse_nil, List.nil_append, List.cons_append, List.append_nil, Option.toList_some, Option.toList_none, List.getElem?_cons_zero, List.getElem?_cons_succ, List.set_cons_zero, List.set_cons_succ, List.length_cons, List.length_nil, reduceIte, reduceCtorEq, and_true, true_and, and_self, or_true, true_or, false_and, and_false, not_true_eq_false, not_false_eq_true, true_implies, false_implies, implies_true, Nat.reduceAdd, Nat.reduceLT, Nat.reduceEqDiff, Nat.reduceLeDiff, Nat.reduceBEq, Nat.zero_add, Nat.lt_add_one, Bool.false_eq_true, Bool.or_false, Bool.or_true, Bool.or_self, Nat.zero_ne_one, Nat.one_ne_zero, ite_true, ite_false, ne_eq, Nat.reduceSub, Nat.succ_eq_add_one, Nat.zero_lt_succ, Nat.add_one_ne_zero, false_or, or_false, mX0_keeperAsSet_c, mX0_keeperAsSet_n, mX0_keeperAsSet_r, mX0_keeperAsSet_l, dX0_keeperAsSet_0, dX0_keeperAsSet_1, fl_0_59_0, dX0_keeperAsSet_4, dX0_keeperAsSet_5, dX0_keeperAsSet_6, bc_m4, dX0_keeperAsSet_8, tg_8_7, cnd2_ne, dX0_keeperAsSet_11, ic_0, dX0_keeperAsSet_12, tg_12_11, dX0_keeperAsSet_15, ic_1, dX0_keeperAsSet_16, dX0_keeperAsSet_17, dX0_keeperAsSet_20, dX0_keeperAsSet_21, dX0_keeperAsSet_22, dX0_keeperAsSet_23, st_aload_n, st_bipush, st_getfield, st_goto, st_iaload, st_iconst, st_if_icmp, st_iload_n, st_ireturn, st_ishl]
    refine ⟨fun c => ?_, fun c => ?_⟩
    · rw [kas, if_neg c] at h
      exact h
    · rw [kas, if_pos (Classical.not_not.mp c)] at h
      exact h
  · exact h.elim
def sp_X0_keepersOfAny (Γ : Cx) : YSp := fun av σ K => ∃ (A : CA) (s : CS), av = [.ref A.1] ∧ Col Γ A s σ ∧ K (some (.int (kany s.2.1 4))) σ
theorem rv_X0_keepersOfAny {Γ : Cx} : Recv (sp_X0_keepersOfAny Γ) 0 0 := by
  intro av σ K h
  obtain ⟨A, s, rfl, hc, -⟩ := h
  obtain ⟨fs, h1, h2⟩ := col_rv hc
  exact ⟨_, _, fs, rfl, rfl, h1, h2⟩
theorem bw_483 : Cond.code yX0_keeperAsSet cX0_keeperAsSet 2 (some .int) ∈ BW := bw_i 483 (by decide +kernel) (by decide +kernel)
theorem no_X0_keeperAsSet : NameOK yX0_keeperAsSet 1 := by unfold NameOK; decide +kernel
theorem bw_480 : Cond.methodLink RX0 65 yX0_keeperAsSet ∈ BW := bw_i 480 (by decide +kernel) (by decide +kernel)
theorem bw_481 : Cond.instanceMethod yX0_keeperAsSet ∈ BW := bw_i 481 (by decide +kernel) (by decide +kernel)
theorem bw_482 : Cond.selects RX0 yX0_keeperAsSet yX0_keeperAsSet ∈ BW := bw_i 482 (by decide +kernel) (by decide +kernel)
theorem tg_6_17 : tgo 6 17 = some 23 := by decide
theorem tg_20_m16 : tgo 20 (-16) = some 4 := by decide
def mX0_keepersOfAny : Mt := (⟨1, 0, 0, 21⟩, RX0, cX0_keepersOfAny, 3, some .int, (0, 0), false)
theorem mX0_keepersOfAny_c : mX0_keepersOfAny.2.2.1 = cX0_keepersOfAny := rfl
theorem mX0_keepersOfAny_n : mX0_keepersOfAny.2.2.2.1 = 3 := rfl
theorem mX0_keepersOfAny_r : mX0_keepersOfAny.2.2.2.2.1 = some .int := rfl
theorem mX0_keepersOfAny_l : mX0_keepersOfAny.2.2.2.2.2.2 = false := rfl
def jX0_keepersOfAny (Γ : Cx) : List ((Nat × Nat) × Nat × Bool × YSp) := [((0, 65), 2, true, sp_X0_keeperAsSet Γ)]
theorem jX0_keepersOfAny_0_65 (Γ : Cx) : kT (jX0_keepersOfAny Γ) 0 65 = some (2, true, sp_X0_keeperAsSet Γ) := rfl
theorem uX0_keepersOfAny (Γ : Cx) : TbOK Γ mX0_keepersOfAny (fT fX0, cT kX0, kT (jX0_keepersOfAny Γ)) := tb_ok fX0_ok kX0_ok (all_cons ⟨call_V (n := 1) (T := TX0) (N := 9) (ok_X0_keeperAsSet Γ) (rv_X0_keeperAsSet (Γ := Γ)) rfl bw_483 bw_480 bw_481 bw_482 bw_44 no_X0_keeperAsSet ⟨⟨rfl, rfl⟩, ⟨by decide, by decide⟩, ⟨by decide, by decide⟩⟩, fun _ => mono_X0_keeperAsSet (Γ := Γ)⟩ (all_nil))
set_option maxRecDepth 20000 in
theorem ok_X0_keepersOfAny (Γ : Cx) : Ok Γ yX0_keepersOfAny mX0_keepersOfAny (sp_X0_keepersOfAny Γ) := by
  refine ok_intro (by decide +kernel) rfl rfl ?_
  intro av σ K h
  obtain ⟨⟨a, aw, ak, ad⟩, ⟨w, kp, kd, day, gone, draw, P, rule, gd⟩, rfl, hc, h⟩ := h
  obtain ⟨⟨m1, m2, m3, m4⟩, e1, e2, e3, e4⟩ := hc
  simp only [ColE, iA] at e1 e2 e3 e4 m1 m2 m3 m4 h
  have loop : ∀ n j : Nat, j + n = 4 → YG Γ mX0_keepersOfAny K 4 [(0, .ref a), (1, .int (kany kp j)), (2, .int (nI j))] [] σ := by
    intro n
    induction n with
    | zero =>
      intro j hj
      obtain rfl : j = 4 := by omega
      refine yvc1_ok (uX0_keepersOfAny Γ) (S := [4]) 40 ?_
      simp only [yvc1, ge4, yvc_s, s1i, s2i, s1l, s2l, sil, s1r, sir, siir, slir, srir, svr, sd1, sd2, lg, lput, ldel, isL_i, isL_r, isL_l, jmp, obj, obj1, fI, fR, arI, arL, arR, hput, f4_0, f4_1, f4_2, f4_3, lc_0, lc_1, rok_i, rok_b, fput_1, fput_2, csum_nil, csum_i, csum_l, csum_r, va_up_self, bx_uu, Int.reduceAdd, List.elem_nil, List.elem_cons, List.take_succ_cons, List.take_zero, List.drop_succ_cons, List.drop_zero, List.take_nil, List.drop_nil, List.reverse_cons, List.reverse_nil, List.nil_append, List.cons_append, List.append_nil, Option.toList_some, Option.toList_none, List.getElem?_cons_zero, List.getElem?_cons_succ, List.set_cons_zero, List.set_cons_succ, List.length_cons, List.length_nil, reduceIte, reduceCtorEq, and_true, true_and, and_self, or_true, true_or, false_and, and_false, not_true_eq_false, not_false_eq_true, true_implies, false_implies, implies_true, Nat.reduceAdd, Nat.reduceLT, Nat.reduceEqDiff, Nat.reduceLeDiff, Nat.reduceBEq, Nat.zero_add, Nat.lt_add_one, Bool.false_eq_true, Bool.or_false, Bool.or_true, Bool.or_self, Nat.zero_ne_one, Nat.one_ne_zero, ite_true, ite_false, ne_eq, Nat.reduceSub, Nat.succ_eq_add_one, Nat.zero_lt_succ, Nat.add_one_ne_zero, false_or, or_false, mX0_keepersOfAny_c, mX0_keepersOfAny_n, mX0_keepersOfAny_r, mX0_keepersOfAny_l, dX0_keepersOfAny_0, ic_0, dX0_keepersOfAny_1, dX0_keepersOfAny_2, dX0_keepersOfAny_3, dX0_keepersOfAny_4, dX0_keepersOfAny_5, ic_4, dX0_keepersOfAny_6, tg_6_17, cnd2_ge, dX0_keepersOfAny_9, dX0_keepersOfAny_10, dX0_keepersOfAny_11, dX0_keepersOfAny_12, dX0_keepersOfAny_15, dX0_keepersOfAny_16, dX0_keepersOfAny_17, ic_1, dX0_keepersOfAny_20, tg_20_m16, dX0_keepersOfAny_23, dX0_keepersOfAny_24, jX0_keepersOfAny_0_65, st_aload_n, st_goto, st_iconst, st_if_icmp, st_iinc, st_iload_n, st_invokevirtual, st_ior, st_ireturn, st_istore_n]
      exact h
    | succ n ih =>
      intro j hj
      obtain ⟨c1, c2, c3⟩ := lt4 (show j < 4 by omega)
      have hj1 := ih (j + 1) (by omega)
      refine yvc1_ok (uX0_keepersOfAny Γ) (S := [4]) 40 ?_
      simp only [yvc1, c1, c2, c3, m1, m3, e1, e3, sp_X0_keeperAsSet, nI_1, yvc_s, s1i, s2i, s1l, s2l, sil, s1r, sir, siir, slir, srir, svr, sd1, sd2, lg, lput, ldel, isL_i, isL_r, isL_l, jmp, obj, obj1, fI, fR, arI, arL, arR, hput, f4_0, f4_1, f4_2, f4_3, lc_0, lc_1, rok_i, rok_b, fput_1, fput_2, csum_nil, csum_i, csum_l, csum_r, va_up_self, bx_uu, Int.reduceAdd, List.elem_nil, List.elem_cons, List.take_succ_cons, List.take_zero, List.drop_succ_cons, List.drop_zero, List.take_nil, List.drop_nil, List.reverse_cons, List.reverse_nil, List.nil_append, List.cons_append, List.append_nil, Option.toList_some, Option.toList_none, List.getElem?_cons_zero, List.getElem?_cons_succ, List.set_cons_zero, List.set_cons_succ, List.length_cons, List.length_nil, reduceIte, reduceCtorEq, and_true, true_and, and_self, or_true, true_or, false_and, and_false, not_true_eq_false, not_false_eq_true, true_implies, false_implies, implies_true, Nat.reduceAdd, Nat.reduceLT, Nat.reduceEqDiff, Nat.reduceLeDiff, Nat.reduceBEq, Nat.zero_add, Nat.lt_add_one, Bool.false_eq_true, Bool.or_false, Bool.or_true, Bool.or_self, Nat.zero_ne_one, Nat.one_ne_zero, ite_true, ite_false, ne_eq, Nat.reduceSub, Nat.succ_eq_add_one, Nat.zero_lt_succ, Nat.add_one_ne_zero, false_or, or_false, mX0_keepersOfAny_c, mX0_keepersOfAny_n, mX0_keepersOfAny_r, mX0_keepersOfAny_l, dX0_keepersOfAny_0, ic_0, dX0_keepersOfAny_1, dX0_keepersOfAny_2, dX0_keepersOfAny_3, dX0_keepersOfAny_4, dX0_keepersOfAny_5, ic_4, dX0_keepersOfAny_6, tg_6_17, cnd2_ge, dX0_keepersOfAny_9, dX0_keepersOfAny_10, dX0_keepersOfAny_11, dX0_keepersOfAny_12, dX0_keepersOfAny_15, dX0_keepersOfAny_16, dX0_keepersOfAny_17, ic_1, dX0_keepersOfAny_20, tg_20_m16, dX0_keepersOfAny_23, dX0_keepersOfAny_24, jX0_keepersOfAny_0_65, st_aload_n, st_goto, st_iconst, st_if_icmp, st_iinc, st_iload_n, st_invokevirtual, st_ior, st_ireturn, st_istore_n]
      exact hj1
  refine ⟨Nat.le_of_ble_eq_true rfl, yvc_ok (uX0_keepersOfAny Γ) (S := [4]) 40 _ _ _ _ ?_⟩
  simp only [lv_args, Value.category, yvc_s, s1i, s2i, s1l, s2l, sil, s1r, sir, siir, slir, srir, svr, sd1, sd2, lg, lput, ldel, isL_i, isL_r, isL_l, jmp, obj, obj1, fI, fR, arI, arL, arR, hput, f4_0, f4_1, f4_2, f4_3, lc_0, lc_1, rok_i, rok_b, fput_1, fput_2, csum_nil, csum_i, csum_l, csum_r, va_up_self, bx_uu, Int.reduceAdd, List.elem_nil, List.elem_cons, List.take_succ_cons, List.take_zero, List.drop_succ_cons, List.drop_zero, List.take_nil, List.drop_nil, List.reverse_cons, List.reverse_nil, List.nil_append, List.cons_append, List.append_nil, Option.toList_some, Option.toList_none, List.getElem?_cons_zero, List.getElem?_cons_succ, List.set_cons_zero, List.set_cons_succ, List.length_cons, List.length_nil, reduceIte, reduceCtorEq, and_true, true_and, and_self, or_true, true_or, false_and, and_false, not_true_eq_false, not_false_eq_true, true_implies, false_implies, implies_true, Nat.reduceAdd, Nat.reduceLT, Nat.reduceEqDiff, Nat.reduceLeDiff, Nat.reduceBEq, Nat.zero_add, Nat.lt_add_one, Bool.false_eq_true, Bool.or_false, Bool.or_true, Bool.or_self, Nat.zero_ne_one, Nat.one_ne_zero, ite_true, ite_false, ne_eq, Nat.reduceSub, Nat.succ_eq_add_one, Nat.zero_lt_succ, Nat.add_one_ne_zero, false_or, or_false, mX0_keepersOfAny_c, mX0_keepersOfAny_n, mX0_keepersOfAny_r, mX0_keepersOfAny_l, dX0_keepersOfAny_0, ic_0, dX0_keepersOfAny_1, dX0_keepersOfAny_2, dX0_keepersOfAny_3, dX0_keepersOfAny_4, dX0_keepersOfAny_5, ic_4, dX0_keepersOfAny_6, tg_6_17, cnd2_ge, dX0_keepersOfAny_9, dX0_keepersOfAny_10, dX0_keepersOfAny_11, dX0_keepersOfAny_12, dX0_keepersOfAny_15, dX0_keepersOfAny_16, dX0_keepersOfAny_17, ic_1, dX0_keepersOfAny_20, tg_20_m16, dX0_keepersOfAny_23, dX0_keepersOfAny_24, jX0_keepersOfAny_0_65, st_aload_n, st_goto, st_iconst, st_if_icmp, st_iinc, st_iload_n, st_invokevirtual, st_ior, st_ireturn, st_istore_n]
  exact loop 4 0 rfl
def sp_X0_least (Γ : Cx) : YSp := fun av σ K => ∃ (A : CA) (s : CS) (d : Nat), av = [.ref A.1, .int (nI d)] ∧ d < 4 ∧ s.2.2.2.2.2.2.1 ≤ 5 ∧ Col Γ A s σ ∧ K (some (.int (lst s.1 (nI d) s.2.2.2.2.2.2.1).1)) σ
theorem rv_X0_least {Γ : Cx} : Recv (sp_X0_least Γ) 1 0 := by
  intro av σ K h
  obtain ⟨A, s, d, rfl, -, -, hc, -⟩ := h
  obtain ⟨fs, h1, h2⟩ := col_rv hc
  exact ⟨_, _, fs, rfl, rfl, h1, h2⟩
theorem bc_21 : (Int8.ofInt 21).toInt32 = 21 := by decide
theorem tg_15_31 : tgo 15 31 = some 46 := by decide
theorem tg_26_14 : tgo 26 14 = some 40 := by decide
theorem tg_43_m34 : tgo 43 (-34) = some 9 := by decide
def mX0_least : Mt := (⟨1, 0, 0, 22⟩, RX0, cX0_least, 5, some .int, (0, 0), false)
theorem mX0_least_c : mX0_least.2.2.1 = cX0_least := rfl
theorem mX0_least_n : mX0_least.2.2.2.1 = 5 := rfl
theorem mX0_least_r : mX0_least.2.2.2.2.1 = some .int := rfl
theorem mX0_least_l : mX0_least.2.2.2.2.2.2 = false := rfl
def jX0_least (Γ : Cx) : List ((Nat × Nat) × Nat × Bool × YSp) := [((0, 46), 3, true, sp_X0_wantOf Γ)]
theorem jX0_least_0_46 (Γ : Cx) : kT (jX0_least Γ) 0 46 = some (3, true, sp_X0_wantOf Γ) := rfl
theorem uX0_least (Γ : Cx) : TbOK Γ mX0_least (fT fX0, cT kX0, kT (jX0_least Γ)) := tb_ok fX0_ok kX0_ok (all_cons ⟨call_V (n := 2) (T := TX0) (N := 9) (ok_X0_wantOf Γ) (rv_X0_wantOf (Γ := Γ)) rfl bw_273 bw_286 bw_271 bw_272 bw_44 no_X0_wantOf ⟨⟨rfl, rfl⟩, ⟨by decide, by decide⟩, ⟨by decide, by decide⟩⟩, fun _ => mono_X0_wantOf (Γ := Γ)⟩ (all_nil))
set_option maxRecDepth 20000 in
theorem ok_X0_least (Γ : Cx) : Ok Γ yX0_least mX0_least (sp_X0_least Γ) := by
  refine ok_intro (by decide +kernel) rfl rfl ?_
  intro av σ K h
  obtain ⟨⟨a, aw, ak, ad⟩, ⟨w, kp, kd, day, gone, draw, P, rule, gd⟩, d, rfl, hd, hP, hc, h⟩ := h
  obtain ⟨⟨m1, m2, m3, m4⟩, e1, e2, e3, e4⟩ := hc
  simp only [ColE, iA] at e1 e2 e3 e4 m1 m2 m3 m4 h hP
  have loop : ∀ n j : Nat, j + n = P → YG Γ mX0_least K 9 [(0, .ref a), (1, .int (nI d)), (2, .int (lst w (nI d) j).1), (3, .int (lst w (nI d) j).2), (4, .int (nI j))] [] σ := by
    intro n
    induction n with
    | zero =>
      intro j hj
      obtain rfl : j = P := by omega
      refine yvc1_ok (uX0_least Γ) (S := [9]) 40 ?_
      simp only [yvc1, geP, m1, e1, yvc_s, s1i, s2i, s1l, s2l, sil, s1r, sir, siir, slir, srir, svr, sd1, sd2, lg, lput, ldel, isL_i, isL_r, isL_l, jmp, obj, obj1, fI, fR, arI, arL, arR, hput, f4_0, f4_1, f4_2, f4_3, lc_0, lc_1, rok_i, rok_b, fput_1, fput_2, csum_nil, csum_i, csum_l, csum_r, va_up_self, bx_uu, Int.reduceAdd, List.elem_nil, List.elem_cons, List.take_succ_cons, List.take_zero, List.drop_succ_cons, List.drop_zero, List.take_nil, List.drop_nil, List.reverse_cons, List.reverse_nil, List.nil_append, List.cons_append, List.append_nil, Option.toList_some, Option.toList_none, List.getElem?_cons_zero, List.getElem?_cons_succ, List.set_cons_zero, List.set_cons_succ, List.length_cons, List.length_nil, reduceIte, reduceCtorEq, and_true, true_and, and_self, or_true, true_or, false_and, and_false, not_true_eq_false, not_false_eq_true, true_implies, false_implies, implies_true, Nat.reduceAdd, Nat.reduceLT, Nat.reduceEqDiff, Nat.reduceLeDiff, Nat.reduceBEq, Nat.zero_add, Nat.lt_add_one, Bool.false_eq_true, Bool.or_false, Bool.or_true, Bool.or_self, Nat.zero_ne_one, Nat.one_ne_zero, ite_true, ite_false, ne_eq, Nat.reduceSub, Nat.succ_eq_add_one, Nat.zero_lt_succ, Nat.add_one_ne_zero, false_or, or_false, mX0_least_c, mX0_least_n, mX0_least_r, mX0_least_l, dX0_least_0, bc_m4, dX0_least_2, dX0_least_3, bc_21, dX0_least_5, dX0_least_6, ic_0, dX0_least_7, dX0_least_9, dX0_least_11, dX0_least_12, fl_0_15_0, dX0_least_15, tg_15_31, cnd2_ge, dX0_least_18, dX0_least_19, dX0_least_21, dX0_least_22, dX0_least_25, dX0_least_26, tg_26_14, dX0_least_29, dX0_least_30, dX0_least_32, dX0_least_33, dX0_least_36, dX0_least_37, dX0_least_39, dX0_least_40, ic_1, dX0_least_43, tg_43_m34, dX0_least_46, dX0_least_47, jX0_least_0_46, st_aload_n, st_bipush, st_getfield, st_goto, st_iconst, st_if_icmp, st_iinc, st_iload, st_iload_n, st_invokevirtual, st_ireturn, st_istore, st_istore_n]
      exact h
    | succ n ih =>
      intro j hj
      have c1 := ltP (show j < P by omega) hP
      have c2 := ix_in (show j < 5 by omega) hd
      have hj1 := ih (j + 1) (by omega)
      refine yvc1_ok (uX0_least Γ) (S := [9]) 60 ?_
      simp only [yvc1, c1, c2, m1, m2, e1, e2, sp_X0_wantOf, nI_1, yvc_s, s1i, s2i, s1l, s2l, sil, s1r, sir, siir, slir, srir, svr, sd1, sd2, lg, lput, ldel, isL_i, isL_r, isL_l, jmp, obj, obj1, fI, fR, arI, arL, arR, hput, f4_0, f4_1, f4_2, f4_3, lc_0, lc_1, rok_i, rok_b, fput_1, fput_2, csum_nil, csum_i, csum_l, csum_r, va_up_self, bx_uu, Int.reduceAdd, List.elem_nil, List.elem_cons, List.take_succ_cons, List.take_zero, List.drop_succ_cons, List.drop_zero, List.take_nil, List.drop_nil, List.reverse_cons, List.reverse_nil, List.nil_append, List.cons_append, List.append_nil, Option.toList_some, Option.toList_none, List.getElem?_cons_zero, List.getElem?_cons_succ, List.set_cons_zero, List.set_cons_succ, List.length_cons, List.length_nil, reduceIte, reduceCtorEq, and_true, true_and, and_self, or_true, true_or, false_and, and_false, not_true_eq_false, not_false_eq_true, true_implies, false_implies, implies_true, Nat.reduceAdd, Nat.reduceLT, Nat.reduceEqDiff, Nat.reduceLeDiff, Nat.reduceBEq, Nat.zero_add, Nat.lt_add_one, Bool.false_eq_true, Bool.or_false, Bool.or_true, Bool.or_self, Nat.zero_ne_one, Nat.one_ne_zero, ite_true, ite_false, ne_eq, Nat.reduceSub, Nat.succ_eq_add_one, Nat.zero_lt_succ, Nat.add_one_ne_zero, false_or, or_false, mX0_least_c, mX0_least_n, mX0_least_r, mX0_least_l, dX0_least_0, bc_m4, dX0_least_2, dX0_least_3, bc_21, dX0_least_5, dX0_least_6, ic_0, dX0_least_7, dX0_least_9, dX0_least_11, dX0_least_12, fl_0_15_0, dX0_least_15, tg_15_31, cnd2_ge, dX0_least_18, dX0_least_19, dX0_least_21, dX0_least_22, dX0_least_25, dX0_least_26, tg_26_14, dX0_least_29, dX0_least_30, dX0_least_32, dX0_least_33, dX0_least_36, dX0_least_37, dX0_least_39, dX0_least_40, ic_1, dX0_least_43, tg_43_m34, dX0_least_46, dX0_least_47, jX0_least_0_46, st_aload_n, st_bipush, st_getfield, st_goto, st_iconst, st_if_icmp, st_iinc, st_iload, st_iload_n, st_invokevirtual, st_ireturn, st_istore, st_istore_n]
      refine ⟨fun c => ?_, fun c => ?_⟩
      · rw [lst, if_neg (i_nlt.mpr c)] at hj1
        exact hj1
      · rw [lst, if_pos (i_nle.mp c)] at hj1
        exact hj1
  refine ⟨Nat.le_of_ble_eq_true rfl, yvc_ok (uX0_least Γ) (S := [9]) 40 _ _ _ _ ?_⟩
  simp only [lv_args, Value.category, yvc_s, s1i, s2i, s1l, s2l, sil, s1r, sir, siir, slir, srir, svr, sd1, sd2, lg, lput, ldel, isL_i, isL_r, isL_l, jmp, obj, obj1, fI, fR, arI, arL, arR, hput, f4_0, f4_1, f4_2, f4_3, lc_0, lc_1, rok_i, rok_b, fput_1, fput_2, csum_nil, csum_i, csum_l, csum_r, va_up_self, bx_uu, Int.reduceAdd, List.elem_nil, List.elem_cons, List.take_succ_cons, List.take_zero, List.drop_succ_cons, List.drop_zero, List.take_nil, List.drop_nil, List.reverse_cons, List.reverse_nil, List.nil_append, List.cons_append, List.append_nil, Option.toList_some, Option.toList_none, List.getElem?_cons_zero, List.getElem?_cons_succ, List.set_cons_zero, List.set_cons_succ, List.length_cons, List.length_nil, reduceIte, reduceCtorEq, and_true, true_and, and_self, or_true, true_or, false_and, and_false, not_true_eq_false, not_false_eq_true, true_implies, false_implies, implies_true, Nat.reduceAdd, Nat.reduceLT, Nat.reduceEqDiff, Nat.reduceLeDiff, Nat.reduceBEq, Nat.zero_add, Nat.lt_add_one, Bool.false_eq_true, Bool.or_false, Bool.or_true, Bool.or_self, Nat.zero_ne_one, Nat.one_ne_zero, ite_true, ite_false, ne_eq, Nat.reduceSub, Nat.succ_eq_add_one, Nat.zero_lt_succ, Nat.add_one_ne_zero, false_or, or_false, mX0_least_c, mX0_least_n, mX0_least_r, mX0_least_l, dX0_least_0, bc_m4, dX0_least_2, dX0_least_3, bc_21, dX0_least_5, dX0_least_6, ic_0, dX0_least_7, dX0_least_9, dX0_least_11, dX0_least_12, fl_0_15_0, dX0_least_15, tg_15_31, cnd2_ge, dX0_least_18, dX0_least_19, dX0_least_21, dX0_least_22, dX0_least_25, dX0_least_26, tg_26_14, dX0_least_29, dX0_least_30, dX0_least_32, dX0_least_33, dX0_least_36, dX0_least_37, dX0_least_39, dX0_least_40, ic_1, dX0_least_43, tg_43_m34, dX0_least_46, dX0_least_47, jX0_least_0_46, st_aload_n, st_bipush, st_getfield, st_goto, st_iconst, st_if_icmp, st_iinc, st_iload, st_iload_n, st_invokevirtual, st_ireturn, st_istore, st_istore_n]
  exact loop P 0 (by omega)
def sp_X0_curiosity (Γ : Cx) : YSp := fun av σ K => ∃ (A : CA) (s : CS) (p : Int32), av = [.ref A.1, .int p] ∧ Col Γ A s σ ∧ K (some (.int (bcE (kset s.2.1 p 4)))) σ
theorem rv_X0_curiosity {Γ : Cx} : Recv (sp_X0_curiosity Γ) 1 0 := by
  intro av σ K h
  obtain ⟨A, s, p, rfl, hc, -⟩ := h
  obtain ⟨fs, h1, h2⟩ := col_rv hc
  exact ⟨_, _, fs, rfl, rfl, h1, h2⟩
theorem bw_302 : Cond.code yJ6_bitCount_0f7a4 cJ6_bitCount_0f7a4 1 (some .int) ∈ BW := bw_i 302 (by decide +kernel) (by decide +kernel)
theorem bw_50 : Cond.initialized RJ6 ∈ BW := bw_i 50 (by decide +kernel) (by decide +kernel)
theorem no_J6_bitCount_0f7a4 : NameOK yJ6_bitCount_0f7a4 1 := by unfold NameOK; decide +kernel
theorem bw_300 : Cond.methodLink RX0 75 yJ6_bitCount_0f7a4 ∈ BW := bw_i 300 (by decide +kernel) (by decide +kernel)
theorem bw_301 : Cond.static yJ6_bitCount_0f7a4 ∈ BW := bw_i 301 (by decide +kernel) (by decide +kernel)
def mX0_curiosity : Mt := (⟨1, 0, 0, 23⟩, RX0, cX0_curiosity, 2, some .int, (0, 0), false)
theorem mX0_curiosity_c : mX0_curiosity.2.2.1 = cX0_curiosity := rfl
theorem mX0_curiosity_n : mX0_curiosity.2.2.2.1 = 2 := rfl
theorem mX0_curiosity_r : mX0_curiosity.2.2.2.2.1 = some .int := rfl
theorem mX0_curiosity_l : mX0_curiosity.2.2.2.2.2.2 = false := rfl
def jX0_curiosity (Γ : Cx) : List ((Nat × Nat) × Nat × Bool × YSp) := [((0, 62), 2, false, sp_X0_keysOf Γ), ((1, 75), 1, true, sp_J6_bitCount_0f7a4 Γ)]
theorem jX0_curiosity_0_62 (Γ : Cx) : kT (jX0_curiosity Γ) 0 62 = some (2, false, sp_X0_keysOf Γ) := rfl
theorem jX0_curiosity_1_75 (Γ : Cx) : kT (jX0_curiosity Γ) 1 75 = some (1, true, sp_J6_bitCount_0f7a4 Γ) := rfl
theorem uX0_curiosity (Γ : Cx) : TbOK Γ mX0_curiosity (fT fX0, cT kX0, kT (jX0_curiosity Γ)) := tb_ok fX0_ok kX0_ok (all_cons ⟨call_V (n := 1) (T := TX0) (N := 9) (ok_X0_keysOf Γ) (rv_X0_keysOf (Γ := Γ)) rfl bw_281 bw_299 bw_279 bw_280 bw_44 no_X0_keysOf ⟨⟨rfl, rfl⟩, ⟨by decide, by decide⟩, ⟨by decide, by decide⟩⟩, fun z => by cases z⟩ (all_cons ⟨call_S (n := 1) (ok_J6_bitCount_0f7a4 Γ) (rv_J6_bitCount_0f7a4 (Γ := Γ)) bw_302 bw_300 bw_301 bw_50 no_J6_bitCount_0f7a4 ⟨⟨rfl, rfl⟩, ⟨by decide, by decide⟩, ⟨by decide, by decide⟩⟩, fun _ => mono_J6_bitCount_0f7a4 (Γ := Γ)⟩ (all_nil)))
set_option maxRecDepth 20000 in
theorem ok_X0_curiosity (Γ : Cx) : Ok Γ yX0_curiosity mX0_curiosity (sp_X0_curiosity Γ) := by
  refine ok_intro (by decide +kernel) rfl rfl ?_
  intro av σ K h
  obtain ⟨A, s, p, rfl, hc, h⟩ := h
  refine ⟨Nat.le_of_ble_eq_true rfl, yvc_ok (uX0_curiosity Γ) (S := []) 40 _ _ _ _ ?_⟩
  simp only [lv_args, Value.category, yvc_s, s1i, s2i, s1l, s2l, sil, s1r, sir, siir, slir, srir, svr, sd1, sd2, lg, lput, ldel, isL_i, isL_r, isL_l, jmp, obj, obj1, fI, fR, arI, arL, arR, hput, f4_0, f4_1, f4_2, f4_3, lc_0, lc_1, rok_i, rok_b, fput_1, fput_2, csum_nil, csum_i, csum_l, csum_r, va_up_self, bx_uu, Int.reduceAdd, List.elem_nil, List.elem_cons, List.take_succ_cons, List.take_zero, List.drop_succ_cons, List.drop_zero, List.take_nil, List.drop_nil, List.reverse_cons, List.reverse_nil, List.nil_append, List.cons_append, List.append_nil, Option.toList_some, Option.toList_none, List.getElem?_cons_zero, List.getElem?_cons_succ, List.set_cons_zero, List.set_cons_succ, List.length_cons, List.length_nil, reduceIte, reduceCtorEq, and_true, true_and, and_self, or_true, true_or, false_and, and_false, not_true_eq_false, not_false_eq_true, true_implies, false_implies, implies_true, Nat.reduceAdd, Nat.reduceLT, Nat.reduceEqDiff, Nat.reduceLeDiff, Nat.reduceBEq, Nat.zero_add, Nat.lt_add_one, Bool.false_eq_true, Bool.or_false, Bool.or_true, Bool.or_self, Nat.zero_ne_one, Nat.one_ne_zero, ite_true, ite_false, ne_eq, Nat.reduceSub, Nat.succ_eq_add_one, Nat.zero_lt_succ, Nat.add_one_ne_zero, false_or, or_false, mX0_curiosity_c, mX0_curiosity_n, mX0_curiosity_r, mX0_curiosity_l, dX0_curiosity_0, dX0_curiosity_1, dX0_curiosity_2, dX0_curiosity_5, dX0_curiosity_8, jX0_curiosity_0_62, jX0_curiosity_1_75, st_aload_n, st_iload_n, st_invokestatic, st_invokevirtual, st_ireturn]
  refine ⟨A, s, _, rfl, hc, ?_⟩
  refine yvc_ok (uX0_curiosity Γ) (S := []) 40 _ _ _ _ ?_
  simp only [sp_J6_bitCount_0f7a4, yvc_s, s1i, s2i, s1l, s2l, sil, s1r, sir, siir, slir, srir, svr, sd1, sd2, lg, lput, ldel, isL_i, isL_r, isL_l, jmp, obj, obj1, fI, fR, arI, arL, arR, hput, f4_0, f4_1, f4_2, f4_3, lc_0, lc_1, rok_i, rok_b, fput_1, fput_2, csum_nil, csum_i, csum_l, csum_r, va_up_self, bx_uu, Int.reduceAdd, List.elem_nil, List.elem_cons, List.take_succ_cons, List.take_zero, List.drop_succ_cons, List.drop_zero, List.take_nil, List.drop_nil, List.reverse_cons, List.reverse_nil, List.nil_append, List.cons_append, List.append_nil, Option.toList_some, Option.toList_none, List.getElem?_cons_zero, List.getElem?_cons_succ, List.set_cons_zero, List.set_cons_succ, List.length_cons, List.length_nil, reduceIte, reduceCtorEq, and_true, true_and, and_self, or_true, true_or, false_and, and_false, not_true_eq_false, not_false_eq_true, true_implies, false_implies, implies_true, Nat.reduceAdd, Nat.reduceLT, Nat.reduceEqDiff, Nat.reduceLeDiff, Nat.reduceBEq, Nat.zero_add, Nat.lt_add_one, Bool.false_eq_true, Bool.or_false, Bool.or_true, Bool.or_self, Nat.zero_ne_one, Nat.one_ne_zero, ite_true, ite_false, ne_eq, Nat.reduceSub, Nat.succ_eq_add_one, Nat.zero_lt_succ, Nat.add_one_ne_zero, false_or, or_false, mX0_curiosity_c, mX0_curiosity_n, mX0_curiosity_r, mX0_curiosity_l, dX0_curiosity_0, dX0_curiosity_1, dX0_curiosity_2, dX0_curiosity_5, dX0_curiosity_8, jX0_curiosity_0_62, jX0_curiosity_1_75, st_aload_n, st_iload_n, st_invokestatic, st_invokevirtual, st_ireturn]
  exact h
def sp_X0_warmth (_ : Cx) : YSp := fun av σ K => match av with | [.ref a] => obj1 σ a 0 fun fs => fI fs 2 fun day => K (some (.int (warm day))) σ | _ => False
theorem mono_X0_warmth {Γ : Cx} : Mono (sp_X0_warmth Γ) := by
  intro av σ K K' hk h
  unfold sp_X0_warmth at h ⊢
  split at h
  · exact obj1_mono (fun _ h => fI_mono (fun _ h => hk _ _ h) h) h
  · exact h.elim
theorem rv_X0_warmth {Γ : Cx} : Recv (sp_X0_warmth Γ) 0 0 := by
  intro av σ K h
  unfold sp_X0_warmth at h
  split at h
  · obtain ⟨fs, h1, h2, -⟩ := obj1_recv h
    exact ⟨_, _, fs, rfl, rfl, h1, h2⟩
  · exact h.elim
theorem tg_6_7 : tgo 6 7 = some 13 := by decide
theorem tg_10_4 : tgo 10 4 = some 14 := by decide
def mX0_warmth : Mt := (⟨0, 0, 0, 0⟩, RX0, cX0_warmth, 1, some .int, (0, 0), false)
theorem mX0_warmth_c : mX0_warmth.2.2.1 = cX0_warmth := rfl
theorem mX0_warmth_n : mX0_warmth.2.2.2.1 = 1 := rfl
theorem mX0_warmth_r : mX0_warmth.2.2.2.2.1 = some .int := rfl
theorem mX0_warmth_l : mX0_warmth.2.2.2.2.2.2 = false := rfl
def jX0_warmth (Γ : Cx) : List ((Nat × Nat) × Nat × Bool × YSp) := []
theorem uX0_warmth (Γ : Cx) : TbOK Γ mX0_warmth (fT fX0, cT kX0, kT (jX0_warmth Γ)) := tb_ok fX0_ok kX0_ok (all_nil)
theorem i2ne0 : ¬ (2 : Int32) = 0 := by decide
theorem i4ne0 : ¬ (4 : Int32) = 0 := by decide
set_option maxRecDepth 20000 in
theorem ok_X0_warmth (Γ : Cx) : Ok Γ yX0_warmth mX0_warmth (sp_X0_warmth Γ) := by
  refine ok_intro (by decide +kernel) rfl rfl ?_
  intro av σ K h
  unfold sp_X0_warmth at h
  split at h
  · next a =>
    obtain ⟨fs, h1, h2, h⟩ := obj1_recv h
    obtain ⟨day, h3, h⟩ := fI_recv h
    refine ⟨Nat.le_of_ble_eq_true rfl, yvc_ok (uX0_warmth Γ) (S := []) 40 _ _ _ _ ?_⟩
    simp only [lv_args, Value.category, h1, h2, h3, i2ne0, yvc_s, s1i, s2i, s1l, s2l, sil, s1r, sir, siir, slir, srir, svr, sd1, sd2, lg, lput, ldel, isL_i, isL_r, isL_l, jmp, obj, obj1, fI, fR, arI, arL, arR, hput, f4_0, f4_1, f4_2, f4_3, lc_0, lc_1, rok_i, rok_b, fput_1, fput_2, csum_nil, csum_i, csum_l, csum_r, va_up_self, bx_uu, Int.reduceAdd, List.elem_nil, List.elem_cons, List.take_succ_cons, List.take_zero, List.drop_succ_cons, List.drop_zero, List.take_nil, List.drop_nil, List.reverse_cons, List.reverse_nil, List.nil_append, List.cons_append, List.append_nil, Option.toList_some, Option.toList_none, List.getElem?_cons_zero, List.getElem?_cons_succ, List.set_cons_zero, List.set_cons_succ, List.length_cons, List.length_nil, reduceIte, reduceCtorEq, and_true, true_and, and_self, or_true, true_or, false_and, and_false, not_true_eq_false, not_false_eq_true, true_implies, false_implies, implies_true, Nat.reduceAdd, Nat.reduceLT, Nat.reduceEqDiff, Nat.reduceLeDiff, Nat.reduceBEq, Nat.zero_add, Nat.lt_add_one, Bool.false_eq_true, Bool.or_false, Bool.or_true, Bool.or_self, Nat.zero_ne_one, Nat.one_ne_zero, ite_true, ite_false, ne_eq, Nat.reduceSub, Nat.succ_eq_add_one, Nat.zero_lt_succ, Nat.add_one_ne_zero, false_or, or_false, mX0_warmth_c, mX0_warmth_n, mX0_warmth_r, mX0_warmth_l, dX0_warmth_0, dX0_warmth_1, fl_0_80_0, dX0_warmth_4, ic_2, dX0_warmth_5, dX0_warmth_6, tg_6_7, cnd1_ne, dX0_warmth_9, ic_1, dX0_warmth_10, tg_10_4, dX0_warmth_13, ic_0, dX0_warmth_14, st_aload_n, st_getfield, st_goto, st_iconst, st_ifCond, st_irem, st_ireturn]
    refine ⟨fun c => ?_, fun c => ?_⟩
    · rw [warm, if_neg c] at h
      exact h
    · rw [warm, if_pos (Classical.not_not.mp c)] at h
      exact h
  · exact h.elim
end
section
/-! ===== College: growth, a day ===== -/
theorem ix_in' {p d : Nat} {k : Int32} (hp : p < 5) (hd : d < 4) (hk : k = nI p) : vp_in (k * 4 + nI d) 20 := by
  rw [hk]; exact ix_in hp hd
theorem toInt_lo {x : Int32} {n : Int} (h : x.toInt < n) {y : Int32} (hy : ¬ y.toInt < n) : ¬ x = y := fun e => hy (e ▸ h)
theorem toInt_hi {x : Int32} {n : Int} (h : n < x.toInt) {y : Int32} (hy : ¬ n < y.toInt) : ¬ x = y := fun e => hy (e ▸ h)
def sp_X0_growth (Γ : Cx) : YSp := fun av σ K => ∃ (A : CA) (s : CS) (d : Nat), av = [.ref A.1, .int (nI d)] ∧ d < 4 ∧ WfC s ∧ Col Γ A s σ ∧ K (some (.int (growth s d))) σ
theorem rv_X0_growth {Γ : Cx} : Recv (sp_X0_growth Γ) 1 0 := by
  intro av σ K h
  obtain ⟨A, s, d, rfl, -, -, hc, -⟩ := h
  obtain ⟨fs, h1, h2⟩ := col_rv hc
  exact ⟨_, _, fs, rfl, rfl, h1, h2⟩
theorem bw_298 : Cond.code yX0_curiosity cX0_curiosity 2 (some .int) ∈ BW := bw_i 298 (by decide +kernel) (by decide +kernel)
theorem no_X0_curiosity : NameOK yX0_curiosity 1 := by unfold NameOK; decide +kernel
theorem bw_295 : Cond.methodLink RX0 68 yX0_curiosity ∈ BW := bw_i 295 (by decide +kernel) (by decide +kernel)
theorem bw_297 : Cond.instanceMethod yX0_curiosity ∈ BW := bw_i 297 (by decide +kernel) (by decide +kernel)
theorem bw_0 : Cond.selects RX0 yX0_curiosity yX0_curiosity ∈ BW := bw_i 0 (by decide +kernel) (by decide +kernel)
theorem bw_309 : Cond.code yX0_warmth cX0_warmth 1 (some .int) ∈ BW := bw_i 309 (by decide +kernel) (by decide +kernel)
theorem no_X0_warmth : NameOK yX0_warmth 0 := by unfold NameOK; decide +kernel
theorem bw_306 : Cond.methodLink RX0 71 yX0_warmth ∈ BW := bw_i 306 (by decide +kernel) (by decide +kernel)
theorem bw_308 : Cond.instanceMethod yX0_warmth ∈ BW := bw_i 308 (by decide +kernel) (by decide +kernel)
theorem bw_1 : Cond.selects RX0 yX0_warmth yX0_warmth ∈ BW := bw_i 1 (by decide +kernel) (by decide +kernel)
theorem tg_10_5 : tgo 10 5 = some 15 := by decide
theorem tg_21_70 : tgo 21 70 = some 91 := by decide
theorem tg_21_31 : tgo 21 31 = some 52 := by decide
theorem tg_21_37 : tgo 21 37 = some 58 := by decide
theorem tg_21_42 : tgo 21 42 = some 63 := by decide
theorem tg_21_50 : tgo 21 50 = some 71 := by decide
theorem bc_9 : (Int8.ofInt 9).toInt32 = 9 := by decide
theorem tg_79_7 : tgo 79 7 = some 86 := by decide
theorem tg_83_7 : tgo 83 7 = some 90 := by decide
def mX0_growth : Mt := (⟨2, 0, 0, 44⟩, RX0, cX0_growth, 3, some .int, (0, 0), false)
theorem mX0_growth_c : mX0_growth.2.2.1 = cX0_growth := rfl
theorem mX0_growth_n : mX0_growth.2.2.2.1 = 3 := rfl
theorem mX0_growth_r : mX0_growth.2.2.2.2.1 = some .int := rfl
theorem mX0_growth_l : mX0_growth.2.2.2.2.2.2 = false := rfl
def jX0_growth (Γ : Cx) : List ((Nat × Nat) × Nat × Bool × YSp) := [((0, 68), 2, false, sp_X0_curiosity Γ), ((0, 71), 1, true, sp_X0_warmth Γ), ((0, 46), 3, true, sp_X0_wantOf Γ)]
theorem jX0_growth_0_68 (Γ : Cx) : kT (jX0_growth Γ) 0 68 = some (2, false, sp_X0_curiosity Γ) := rfl
theorem jX0_growth_0_71 (Γ : Cx) : kT (jX0_growth Γ) 0 71 = some (1, true, sp_X0_warmth Γ) := rfl
theorem jX0_growth_0_46 (Γ : Cx) : kT (jX0_growth Γ) 0 46 = some (3, true, sp_X0_wantOf Γ) := rfl
theorem uX0_growth (Γ : Cx) : TbOK Γ mX0_growth (fT fX0, cT kX0, kT (jX0_growth Γ)) := tb_ok fX0_ok kX0_ok (all_cons ⟨call_V (n := 1) (T := TX0) (N := 9) (ok_X0_curiosity Γ) (rv_X0_curiosity (Γ := Γ)) rfl bw_298 bw_295 bw_297 bw_0 bw_44 no_X0_curiosity ⟨⟨rfl, rfl⟩, ⟨by decide, by decide⟩, ⟨by decide, by decide⟩⟩, fun z => by cases z⟩ (all_cons ⟨call_V (n := 0) (T := TX0) (N := 9) (ok_X0_warmth Γ) (rv_X0_warmth (Γ := Γ)) rfl bw_309 bw_306 bw_308 bw_1 bw_44 no_X0_warmth ⟨⟨rfl, rfl⟩, ⟨by decide, by decide⟩, ⟨by decide, by decide⟩⟩, fun _ => mono_X0_warmth (Γ := Γ)⟩ (all_cons ⟨call_V (n := 2) (T := TX0) (N := 9) (ok_X0_wantOf Γ) (rv_X0_wantOf (Γ := Γ)) rfl bw_273 bw_286 bw_271 bw_272 bw_44 no_X0_wantOf ⟨⟨rfl, rfl⟩, ⟨by decide, by decide⟩, ⟨by decide, by decide⟩⟩, fun _ => mono_X0_wantOf (Γ := Γ)⟩ (all_nil))))
set_option maxRecDepth 20000 in
theorem ok_X0_growth (Γ : Cx) : Ok Γ yX0_growth mX0_growth (sp_X0_growth Γ) := by
  refine ok_intro (by decide +kernel) rfl rfl ?_
  intro av σ K h
  obtain ⟨⟨a, aw, ak, ad⟩, ⟨w, kp, kd, day, gone, draw, P, rule, gd⟩, d, rfl, hd, hw, hc, h⟩ := h
  have hc0 := hc
  obtain ⟨⟨m1, m2, m3, m4⟩, e1, e2, e3, e4⟩ := hc
  simp only [ColE, iA] at e1 e2 e3 e4 m1 m2 m3 m4
  obtain ⟨c1, c2, c3⟩ := lt4 hd
  simp only [growth] at h
  refine ⟨Nat.le_of_ble_eq_true rfl, yvc_ok (uX0_growth Γ) (S := []) 40 _ _ _ _ ?_⟩
  simp only [lv_args, Value.category, m1, m2, m3, m4, e1, e2, e3, e4, c1, c2, c3, sp_X0_wantOf, sp_X0_warmth, yvc_s, s1i, s2i, s1l, s2l, sil, s1r, sir, siir, slir, srir, svr, sd1, sd2, lg, lput, ldel, isL_i, isL_r, isL_l, jmp, obj, obj1, fI, fR, arI, arL, arR, hput, f4_0, f4_1, f4_2, f4_3, lc_0, lc_1, rok_i, rok_b, fput_1, fput_2, csum_nil, csum_i, csum_l, csum_r, va_up_self, bx_uu, Int.reduceAdd, List.elem_nil, List.elem_cons, List.take_succ_cons, List.take_zero, List.drop_succ_cons, List.drop_zero, List.take_nil, List.drop_nil, List.reverse_cons, List.reverse_nil, List.nil_append, List.cons_append, List.append_nil, Option.toList_some, Option.toList_none, List.getElem?_cons_zero, List.getElem?_cons_succ, List.set_cons_zero, List.set_cons_succ, List.length_cons, List.length_nil, reduceIte, reduceCtorEq, and_true, true_and, and_self, or_true, true_or, false_and, and_false, not_true_eq_false, not_false_eq_true, true_implies, false_implies, implies_true, Nat.reduceAdd, Nat.reduceLT, Nat.reduceEqDiff, Nat.reduceLeDiff, Nat.reduceBEq, Nat.zero_add, Nat.lt_add_one, Bool.false_eq_true, Bool.or_false, Bool.or_true, Bool.or_self, Nat.zero_ne_one, Nat.one_ne_zero, ite_true, ite_false, ne_eq, Nat.reduceSub, Nat.succ_eq_add_one, Nat.zero_lt_succ, Nat.add_one_ne_zero, false_or, or_false, mX0_growth_c, mX0_growth_n, mX0_growth_r, mX0_growth_l, dX0_growth_0, dX0_growth_1, fl_0_59_0, dX0_growth_4, dX0_growth_5, dX0_growth_6, dX0_growth_7, dX0_growth_8, bc_m4, dX0_growth_10, tg_10_5, cnd2_ne, dX0_growth_13, ic_0, dX0_growth_14, dX0_growth_15, dX0_growth_16, fl_0_9_0, dX0_growth_19, dX0_growth_20, dX0_growth_21, tg_21_70, tg_21_31, tg_21_37, tg_21_42, tg_21_50, swl, ic_1, ic_2, ic_3, ic_4, dX0_growth_52, dX0_growth_53, dX0_growth_54, dX0_growth_57, dX0_growth_58, dX0_growth_59, dX0_growth_62, dX0_growth_63, dX0_growth_64, dX0_growth_65, dX0_growth_66, dX0_growth_69, dX0_growth_70, dX0_growth_71, dX0_growth_72, dX0_growth_73, dX0_growth_74, dX0_growth_77, bc_9, dX0_growth_79, tg_79_7, cnd2_lt, dX0_growth_82, dX0_growth_83, tg_83_7, dX0_growth_86, dX0_growth_87, dX0_growth_90, dX0_growth_91, dX0_growth_92, jX0_growth_0_68, jX0_growth_0_71, jX0_growth_0_46, st_aload_n, st_bipush, st_getfield, st_goto, st_iaload, st_iconst, st_if_icmp, st_iload_n, st_imul, st_invokevirtual, st_ireturn, st_istore_n, st_tableswitch]
  refine ⟨fun c => ?_, fun c => ?_⟩
  · rcases hw.2 d hd with h0 | ⟨q, hq, h0⟩
    · exact absurd h0 c
    · simp only at h0 hq
      have hP := hw.1
      simp only at hP
      rw [if_neg c] at h
      have hin : vp_in (kp d) 5 := by rw [h0]; exact vp_in_nI (by omega) (by decide)
      refine ⟨hin, rfl, ⟨?_, ?_, ?_, ?_⟩, ?_⟩
      · intro e0
        rw [if_pos e0] at h
        refine ⟨(a, aw, ak, ad), _, _, rfl, hc0, ?_⟩
        refine yvc_ok (uX0_growth Γ) (S := []) 40 _ _ _ _ ?_
        simp only [yvc_s, s1i, s2i, s1l, s2l, sil, s1r, sir, siir, slir, srir, svr, sd1, sd2, lg, lput, ldel, isL_i, isL_r, isL_l, jmp, obj, obj1, fI, fR, arI, arL, arR, hput, f4_0, f4_1, f4_2, f4_3, lc_0, lc_1, rok_i, rok_b, fput_1, fput_2, csum_nil, csum_i, csum_l, csum_r, va_up_self, bx_uu, Int.reduceAdd, List.elem_nil, List.elem_cons, List.take_succ_cons, List.take_zero, List.drop_succ_cons, List.drop_zero, List.take_nil, List.drop_nil, List.reverse_cons, List.reverse_nil, List.nil_append, List.cons_append, List.append_nil, Option.toList_some, Option.toList_none, List.getElem?_cons_zero, List.getElem?_cons_succ, List.set_cons_zero, List.set_cons_succ, List.length_cons, List.length_nil, reduceIte, reduceCtorEq, and_true, true_and, and_self, or_true, true_or, false_and, and_false, not_true_eq_false, not_false_eq_true, true_implies, false_implies, implies_true, Nat.reduceAdd, Nat.reduceLT, Nat.reduceEqDiff, Nat.reduceLeDiff, Nat.reduceBEq, Nat.zero_add, Nat.lt_add_one, Bool.false_eq_true, Bool.or_false, Bool.or_true, Bool.or_self, Nat.zero_ne_one, Nat.one_ne_zero, ite_true, ite_false, ne_eq, Nat.reduceSub, Nat.succ_eq_add_one, Nat.zero_lt_succ, Nat.add_one_ne_zero, false_or, or_false, mX0_growth_c, mX0_growth_n, mX0_growth_r, mX0_growth_l, dX0_growth_0, dX0_growth_1, fl_0_59_0, dX0_growth_4, dX0_growth_5, dX0_growth_6, dX0_growth_7, dX0_growth_8, bc_m4, dX0_growth_10, tg_10_5, cnd2_ne, dX0_growth_13, ic_0, dX0_growth_14, dX0_growth_15, dX0_growth_16, fl_0_9_0, dX0_growth_19, dX0_growth_20, dX0_growth_21, tg_21_70, tg_21_31, tg_21_37, tg_21_42, tg_21_50, swl, ic_1, ic_2, ic_3, ic_4, dX0_growth_52, dX0_growth_53, dX0_growth_54, dX0_growth_57, dX0_growth_58, dX0_growth_59, dX0_growth_62, dX0_growth_63, dX0_growth_64, dX0_growth_65, dX0_growth_66, dX0_growth_69, dX0_growth_70, dX0_growth_71, dX0_growth_72, dX0_growth_73, dX0_growth_74, dX0_growth_77, bc_9, dX0_growth_79, tg_79_7, cnd2_lt, dX0_growth_82, dX0_growth_83, tg_83_7, dX0_growth_86, dX0_growth_87, dX0_growth_90, dX0_growth_91, dX0_growth_92, jX0_growth_0_68, jX0_growth_0_71, jX0_growth_0_46, st_aload_n, st_bipush, st_getfield, st_goto, st_iaload, st_iconst, st_if_icmp, st_iload_n, st_imul, st_invokevirtual, st_ireturn, st_istore_n, st_tableswitch]
        exact h
      · intro e0
        rw [if_neg (by rw [e0]; decide), if_pos e0] at h
        exact h
      · intro e0
        rw [if_neg (by rw [e0]; decide), if_neg (by rw [e0]; decide), if_pos e0] at h
        refine ⟨(a, aw, ak, ad), _, _, rfl, hc0, ?_⟩
        refine yvc_ok (uX0_growth Γ) (S := []) 40 _ _ _ _ ?_
        simp only [yvc_s, s1i, s2i, s1l, s2l, sil, s1r, sir, siir, slir, srir, svr, sd1, sd2, lg, lput, ldel, isL_i, isL_r, isL_l, jmp, obj, obj1, fI, fR, arI, arL, arR, hput, f4_0, f4_1, f4_2, f4_3, lc_0, lc_1, rok_i, rok_b, fput_1, fput_2, csum_nil, csum_i, csum_l, csum_r, va_up_self, bx_uu, Int.reduceAdd, List.elem_nil, List.elem_cons, List.take_succ_cons, List.take_zero, List.drop_succ_cons, List.drop_zero, List.take_nil, List.drop_nil, List.reverse_cons, List.reverse_nil, List.nil_append, List.cons_append, List.append_nil, Option.toList_some, Option.toList_none, List.getElem?_cons_zero, List.getElem?_cons_succ, List.set_cons_zero, List.set_cons_succ, List.length_cons, List.length_nil, reduceIte, reduceCtorEq, and_true, true_and, and_self, or_true, true_or, false_and, and_false, not_true_eq_false, not_false_eq_true, true_implies, false_implies, implies_true, Nat.reduceAdd, Nat.reduceLT, Nat.reduceEqDiff, Nat.reduceLeDiff, Nat.reduceBEq, Nat.zero_add, Nat.lt_add_one, Bool.false_eq_true, Bool.or_false, Bool.or_true, Bool.or_self, Nat.zero_ne_one, Nat.one_ne_zero, ite_true, ite_false, ne_eq, Nat.reduceSub, Nat.succ_eq_add_one, Nat.zero_lt_succ, Nat.add_one_ne_zero, false_or, or_false, mX0_growth_c, mX0_growth_n, mX0_growth_r, mX0_growth_l, dX0_growth_0, dX0_growth_1, fl_0_59_0, dX0_growth_4, dX0_growth_5, dX0_growth_6, dX0_growth_7, dX0_growth_8, bc_m4, dX0_growth_10, tg_10_5, cnd2_ne, dX0_growth_13, ic_0, dX0_growth_14, dX0_growth_15, dX0_growth_16, fl_0_9_0, dX0_growth_19, dX0_growth_20, dX0_growth_21, tg_21_70, tg_21_31, tg_21_37, tg_21_42, tg_21_50, swl, ic_1, ic_2, ic_3, ic_4, dX0_growth_52, dX0_growth_53, dX0_growth_54, dX0_growth_57, dX0_growth_58, dX0_growth_59, dX0_growth_62, dX0_growth_63, dX0_growth_64, dX0_growth_65, dX0_growth_66, dX0_growth_69, dX0_growth_70, dX0_growth_71, dX0_growth_72, dX0_growth_73, dX0_growth_74, dX0_growth_77, bc_9, dX0_growth_79, tg_79_7, cnd2_lt, dX0_growth_82, dX0_growth_83, tg_83_7, dX0_growth_86, dX0_growth_87, dX0_growth_90, dX0_growth_91, dX0_growth_92, jX0_growth_0_68, jX0_growth_0_71, jX0_growth_0_46, st_aload_n, st_bipush, st_getfield, st_goto, st_iaload, st_iconst, st_if_icmp, st_iload_n, st_imul, st_invokevirtual, st_ireturn, st_istore_n, st_tableswitch]
        exact h
      · intro e0
        rw [if_neg (by rw [e0]; decide), if_neg (by rw [e0]; decide), if_neg (by rw [e0]; decide), if_pos e0] at h
        refine ⟨ix_in' (show q < 5 by omega) hd h0, fun z => ?_, fun z => ?_⟩
        · rw [if_pos z] at h
          exact h
        · rw [if_neg z] at h
          exact h
      · intro e0
        have n1 : ¬ kd (kp d).toNatClampNeg = 1 := e0.elim (fun z => toInt_lo z (by decide)) (fun z => toInt_hi z (by decide))
        have n2 : ¬ kd (kp d).toNatClampNeg = 2 := e0.elim (fun z => toInt_lo z (by decide)) (fun z => toInt_hi z (by decide))
        have n3 : ¬ kd (kp d).toNatClampNeg = 3 := e0.elim (fun z => toInt_lo z (by decide)) (fun z => toInt_hi z (by decide))
        have n4 : ¬ kd (kp d).toNatClampNeg = 4 := e0.elim (fun z => toInt_lo z (by decide)) (fun z => toInt_hi z (by decide))
        rw [if_neg n1, if_neg n2, if_neg n3, if_neg n4] at h
        exact h
  · rw [if_pos (Classical.not_not.mp c)] at h
    exact h
def sp_X0_testKeeper (Γ : Cx) : YSp := fun av σ K => ∃ (A : CA) (s : CS) (d : Nat), av = [.ref A.1, .int (nI d)] ∧ d < 4 ∧ WfC s ∧ ¬ s.2.1 d = -4 ∧ Col Γ A s σ ∧ K none (cset Γ A (tk s d) σ)
theorem rv_X0_testKeeper {Γ : Cx} : Recv (sp_X0_testKeeper Γ) 1 0 := by
  intro av σ K h
  obtain ⟨A, s, d, rfl, -, -, -, hc, -⟩ := h
  obtain ⟨fs, h1, h2⟩ := col_rv hc
  exact ⟨_, _, fs, rfl, rfl, h1, h2⟩
theorem bw_313 : Cond.code yX0_least cX0_least 5 (some .int) ∈ BW := bw_i 313 (by decide +kernel) (by decide +kernel)
theorem no_X0_least : NameOK yX0_least 1 := by unfold NameOK; decide +kernel
theorem bw_523 : Cond.methodLink RX0 99 yX0_least ∈ BW := bw_i 523 (by decide +kernel) (by decide +kernel)
theorem bw_311 : Cond.instanceMethod yX0_least ∈ BW := bw_i 311 (by decide +kernel) (by decide +kernel)
theorem bw_312 : Cond.selects RX0 yX0_least yX0_least ∈ BW := bw_i 312 (by decide +kernel) (by decide +kernel)
theorem tg_21_35 : tgo 21 35 = some 56 := by decide
theorem tg_53_22 : tgo 53 22 = some 75 := by decide
theorem tg_61_14 : tgo 61 14 = some 75 := by decide
def mX0_testKeeper : Mt := (⟨2, 0, 0, 46⟩, RX0, cX0_testKeeper, 4, none, (0, 0), false)
theorem mX0_testKeeper_c : mX0_testKeeper.2.2.1 = cX0_testKeeper := rfl
theorem mX0_testKeeper_n : mX0_testKeeper.2.2.2.1 = 4 := rfl
theorem mX0_testKeeper_r : mX0_testKeeper.2.2.2.2.1 = none := rfl
theorem mX0_testKeeper_l : mX0_testKeeper.2.2.2.2.2.2 = false := rfl
def jX0_testKeeper (Γ : Cx) : List ((Nat × Nat) × Nat × Bool × YSp) := [((0, 46), 3, true, sp_X0_wantOf Γ), ((0, 39), 4, false, sp_X0_setWant Γ), ((0, 99), 2, false, sp_X0_least Γ)]
theorem jX0_testKeeper_0_46 (Γ : Cx) : kT (jX0_testKeeper Γ) 0 46 = some (3, true, sp_X0_wantOf Γ) := rfl
theorem jX0_testKeeper_0_39 (Γ : Cx) : kT (jX0_testKeeper Γ) 0 39 = some (4, false, sp_X0_setWant Γ) := rfl
theorem jX0_testKeeper_0_99 (Γ : Cx) : kT (jX0_testKeeper Γ) 0 99 = some (2, false, sp_X0_least Γ) := rfl
theorem uX0_testKeeper (Γ : Cx) : TbOK Γ mX0_testKeeper (fT fX0, cT kX0, kT (jX0_testKeeper Γ)) := tb_ok fX0_ok kX0_ok (all_cons ⟨call_V (n := 2) (T := TX0) (N := 9) (ok_X0_wantOf Γ) (rv_X0_wantOf (Γ := Γ)) rfl bw_273 bw_286 bw_271 bw_272 bw_44 no_X0_wantOf ⟨⟨rfl, rfl⟩, ⟨by decide, by decide⟩, ⟨by decide, by decide⟩⟩, fun _ => mono_X0_wantOf (Γ := Γ)⟩ (all_cons ⟨call_V (n := 3) (T := TX0) (N := 9) (ok_X0_setWant Γ) (rv_X0_setWant (Γ := Γ)) rfl bw_253 bw_250 bw_251 bw_252 bw_44 no_X0_setWant ⟨⟨rfl, rfl⟩, ⟨by decide, by decide⟩, ⟨by decide, by decide⟩⟩, fun z => by cases z⟩ (all_cons ⟨call_V (n := 1) (T := TX0) (N := 9) (ok_X0_least Γ) (rv_X0_least (Γ := Γ)) rfl bw_313 bw_523 bw_311 bw_312 bw_44 no_X0_least ⟨⟨rfl, rfl⟩, ⟨by decide, by decide⟩, ⟨by decide, by decide⟩⟩, fun z => by cases z⟩ (all_nil))))
set_option maxRecDepth 20000 in
theorem ok_X0_testKeeper (Γ : Cx) : Ok Γ yX0_testKeeper mX0_testKeeper (sp_X0_testKeeper Γ) := by
  refine ok_intro (by decide +kernel) rfl rfl ?_
  intro av σ K h
  obtain ⟨⟨a, aw, ak, ad⟩, ⟨w, kp, kd, day, gone, draw, P, rule, gd⟩, d, rfl, hd, hw, hk, hc, h⟩ := h
  have hc0 := hc
  obtain ⟨⟨m1, m2, m3, m4⟩, e1, e2, e3, e4⟩ := hc
  simp only [ColE, iA] at e1 e2 e3 e4 m1 m2 m3 m4 hk
  obtain ⟨c1, c2, c3⟩ := lt4 hd
  rcases hw.2 d hd with h0 | ⟨q, hq, h0⟩
  · exact absurd h0 hk
  simp only at h0 hq
  have hP := hw.1
  simp only at hP
  have hin := ix_in' (show q < 5 by omega) hd h0
  simp only [tk] at h
  have hself := hc0.self
  refine ⟨Nat.le_of_ble_eq_true rfl, yvc_ok (uX0_testKeeper Γ) (S := []) 60 _ _ _ _ ?_⟩
  simp only [lv_args, Value.category, m1, m2, m3, m4, e1, e2, e3, e4, c1, c2, c3, hin, sp_X0_wantOf, yvc_s, s1i, s2i, s1l, s2l, sil, s1r, sir, siir, slir, srir, svr, sd1, sd2, lg, lput, ldel, isL_i, isL_r, isL_l, jmp, obj, obj1, fI, fR, arI, arL, arR, hput, f4_0, f4_1, f4_2, f4_3, lc_0, lc_1, rok_i, rok_b, fput_1, fput_2, csum_nil, csum_i, csum_l, csum_r, va_up_self, bx_uu, Int.reduceAdd, List.elem_nil, List.elem_cons, List.take_succ_cons, List.take_zero, List.drop_succ_cons, List.drop_zero, List.take_nil, List.drop_nil, List.reverse_cons, List.reverse_nil, List.nil_append, List.cons_append, List.append_nil, Option.toList_some, Option.toList_none, List.getElem?_cons_zero, List.getElem?_cons_succ, List.set_cons_zero, List.set_cons_succ, List.length_cons, List.length_nil, reduceIte, reduceCtorEq, and_true, true_and, and_self, or_true, true_or, false_and, and_false, not_true_eq_false, not_false_eq_true, true_implies, false_implies, implies_true, Nat.reduceAdd, Nat.reduceLT, Nat.reduceEqDiff, Nat.reduceLeDiff, Nat.reduceBEq, Nat.zero_add, Nat.lt_add_one, Bool.false_eq_true, Bool.or_false, Bool.or_true, Bool.or_self, Nat.zero_ne_one, Nat.one_ne_zero, ite_true, ite_false, ne_eq, Nat.reduceSub, Nat.succ_eq_add_one, Nat.zero_lt_succ, Nat.add_one_ne_zero, false_or, or_false, mX0_testKeeper_c, mX0_testKeeper_n, mX0_testKeeper_r, mX0_testKeeper_l, dX0_testKeeper_0, dX0_testKeeper_1, fl_0_59_0, dX0_testKeeper_4, dX0_testKeeper_5, dX0_testKeeper_6, dX0_testKeeper_7, dX0_testKeeper_8, dX0_testKeeper_9, dX0_testKeeper_10, dX0_testKeeper_13, dX0_testKeeper_14, dX0_testKeeper_15, dX0_testKeeper_16, fl_0_19_0, dX0_testKeeper_19, ic_4, dX0_testKeeper_20, dX0_testKeeper_21, tg_21_35, cnd2_lt, dX0_testKeeper_24, dX0_testKeeper_25, dX0_testKeeper_26, fl_0_96_0, dX0_testKeeper_29, ic_1, dX0_testKeeper_30, dX0_testKeeper_31, dX0_testKeeper_34, dX0_testKeeper_35, dX0_testKeeper_36, fl_0_22_0, dX0_testKeeper_39, dX0_testKeeper_40, dX0_testKeeper_41, dX0_testKeeper_42, dX0_testKeeper_43, dX0_testKeeper_46, dX0_testKeeper_47, dX0_testKeeper_48, dX0_testKeeper_49, ic_0, dX0_testKeeper_50, dX0_testKeeper_53, tg_53_22, dX0_testKeeper_56, dX0_testKeeper_57, dX0_testKeeper_58, dX0_testKeeper_61, tg_61_14, dX0_testKeeper_64, dX0_testKeeper_65, dX0_testKeeper_68, dX0_testKeeper_69, dX0_testKeeper_70, dX0_testKeeper_71, dX0_testKeeper_74, dX0_testKeeper_75, jX0_testKeeper_0_46, jX0_testKeeper_0_39, jX0_testKeeper_0_99, st_aload_n, st_dup, st_getfield, st_goto, st_iadd, st_iaload, st_iastore, st_iconst, st_if_icmp, st_iload_n, st_invokevirtual, st_ior, st_ishl, st_istore_n, st_putfield, st_return]
  refine ⟨fun c => ?_, fun c => ?_⟩
  · change w (ix (kp d) (nI d)) < rule + 4 at c
    rw [if_pos c] at h
    refine ⟨fun c => ?_, fun c => ?_⟩
    · change w (ix (kp d) (nI d)) < rule at c
      rw [if_pos c, hself] at h
      exact h
    · change ¬ w (ix (kp d) (nI d)) < rule at c
      rw [if_neg c] at h
      refine ⟨(a, aw, ak, ad), _, d, rfl, hd, hP, hc0, ?_⟩
      refine yvc_ok (uX0_testKeeper Γ) (S := []) 60 _ _ _ _ ?_
      simp only [m1, m2, m3, m4, e1, e2, e3, e4, c1, c2, c3, yvc_s, s1i, s2i, s1l, s2l, sil, s1r, sir, siir, slir, srir, svr, sd1, sd2, lg, lput, ldel, isL_i, isL_r, isL_l, jmp, obj, obj1, fI, fR, arI, arL, arR, hput, f4_0, f4_1, f4_2, f4_3, lc_0, lc_1, rok_i, rok_b, fput_1, fput_2, csum_nil, csum_i, csum_l, csum_r, va_up_self, bx_uu, Int.reduceAdd, List.elem_nil, List.elem_cons, List.take_succ_cons, List.take_zero, List.drop_succ_cons, List.drop_zero, List.take_nil, List.drop_nil, List.reverse_cons, List.reverse_nil, List.nil_append, List.cons_append, List.append_nil, Option.toList_some, Option.toList_none, List.getElem?_cons_zero, List.getElem?_cons_succ, List.set_cons_zero, List.set_cons_succ, List.length_cons, List.length_nil, reduceIte, reduceCtorEq, and_true, true_and, and_self, or_true, true_or, false_and, and_false, not_true_eq_false, not_false_eq_true, true_implies, false_implies, implies_true, Nat.reduceAdd, Nat.reduceLT, Nat.reduceEqDiff, Nat.reduceLeDiff, Nat.reduceBEq, Nat.zero_add, Nat.lt_add_one, Bool.false_eq_true, Bool.or_false, Bool.or_true, Bool.or_self, Nat.zero_ne_one, Nat.one_ne_zero, ite_true, ite_false, ne_eq, Nat.reduceSub, Nat.succ_eq_add_one, Nat.zero_lt_succ, Nat.add_one_ne_zero, false_or, or_false, mX0_testKeeper_c, mX0_testKeeper_n, mX0_testKeeper_r, mX0_testKeeper_l, dX0_testKeeper_0, dX0_testKeeper_1, fl_0_59_0, dX0_testKeeper_4, dX0_testKeeper_5, dX0_testKeeper_6, dX0_testKeeper_7, dX0_testKeeper_8, dX0_testKeeper_9, dX0_testKeeper_10, dX0_testKeeper_13, dX0_testKeeper_14, dX0_testKeeper_15, dX0_testKeeper_16, fl_0_19_0, dX0_testKeeper_19, ic_4, dX0_testKeeper_20, dX0_testKeeper_21, tg_21_35, cnd2_lt, dX0_testKeeper_24, dX0_testKeeper_25, dX0_testKeeper_26, fl_0_96_0, dX0_testKeeper_29, ic_1, dX0_testKeeper_30, dX0_testKeeper_31, dX0_testKeeper_34, dX0_testKeeper_35, dX0_testKeeper_36, fl_0_22_0, dX0_testKeeper_39, dX0_testKeeper_40, dX0_testKeeper_41, dX0_testKeeper_42, dX0_testKeeper_43, dX0_testKeeper_46, dX0_testKeeper_47, dX0_testKeeper_48, dX0_testKeeper_49, ic_0, dX0_testKeeper_50, dX0_testKeeper_53, tg_53_22, dX0_testKeeper_56, dX0_testKeeper_57, dX0_testKeeper_58, dX0_testKeeper_61, tg_61_14, dX0_testKeeper_64, dX0_testKeeper_65, dX0_testKeeper_68, dX0_testKeeper_69, dX0_testKeeper_70, dX0_testKeeper_71, dX0_testKeeper_74, dX0_testKeeper_75, jX0_testKeeper_0_46, jX0_testKeeper_0_39, jX0_testKeeper_0_99, st_aload_n, st_dup, st_getfield, st_goto, st_iadd, st_iaload, st_iastore, st_iconst, st_if_icmp, st_iload_n, st_invokevirtual, st_ior, st_ishl, st_istore_n, st_putfield, st_return]
      rw [← hc0.putK] at h
      exact h
  · change ¬ w (ix (kp d) (nI d)) < rule + 4 at c
    rw [if_neg c] at h
    have hp := hc0.put (w, kp, kd, day, gone + 1, draw, P, rule, gd ||| (1 <<< (nI d &&& 31))) rfl rfl rfl
    have hc1 := hc0.set (w, kp, kd, day, gone + 1, draw, P, rule, gd ||| (1 <<< (nI d &&& 31)))
    rw [← hp] at hc1
    simp only [hput, ColE] at hc1
    refine ⟨(a, aw, ak, ad), (w, kp, kd, day, gone + 1, draw, P, rule, gd ||| (1 <<< (nI d &&& 31))), kp d, nI d, 0, rfl, hc1, hin, ?_⟩
    refine yvc_ok (uX0_testKeeper Γ) (S := []) 60 _ _ _ _ ?_
    simp only [yvc_s, s1i, s2i, s1l, s2l, sil, s1r, sir, siir, slir, srir, svr, sd1, sd2, lg, lput, ldel, isL_i, isL_r, isL_l, jmp, obj, obj1, fI, fR, arI, arL, arR, hput, f4_0, f4_1, f4_2, f4_3, lc_0, lc_1, rok_i, rok_b, fput_1, fput_2, csum_nil, csum_i, csum_l, csum_r, va_up_self, bx_uu, Int.reduceAdd, List.elem_nil, List.elem_cons, List.take_succ_cons, List.take_zero, List.drop_succ_cons, List.drop_zero, List.take_nil, List.drop_nil, List.reverse_cons, List.reverse_nil, List.nil_append, List.cons_append, List.append_nil, Option.toList_some, Option.toList_none, List.getElem?_cons_zero, List.getElem?_cons_succ, List.set_cons_zero, List.set_cons_succ, List.length_cons, List.length_nil, reduceIte, reduceCtorEq, and_true, true_and, and_self, or_true, true_or, false_and, and_false, not_true_eq_false, not_false_eq_true, true_implies, false_implies, implies_true, Nat.reduceAdd, Nat.reduceLT, Nat.reduceEqDiff, Nat.reduceLeDiff, Nat.reduceBEq, Nat.zero_add, Nat.lt_add_one, Bool.false_eq_true, Bool.or_false, Bool.or_true, Bool.or_self, Nat.zero_ne_one, Nat.one_ne_zero, ite_true, ite_false, ne_eq, Nat.reduceSub, Nat.succ_eq_add_one, Nat.zero_lt_succ, Nat.add_one_ne_zero, false_or, or_false, mX0_testKeeper_c, mX0_testKeeper_n, mX0_testKeeper_r, mX0_testKeeper_l, dX0_testKeeper_0, dX0_testKeeper_1, fl_0_59_0, dX0_testKeeper_4, dX0_testKeeper_5, dX0_testKeeper_6, dX0_testKeeper_7, dX0_testKeeper_8, dX0_testKeeper_9, dX0_testKeeper_10, dX0_testKeeper_13, dX0_testKeeper_14, dX0_testKeeper_15, dX0_testKeeper_16, fl_0_19_0, dX0_testKeeper_19, ic_4, dX0_testKeeper_20, dX0_testKeeper_21, tg_21_35, cnd2_lt, dX0_testKeeper_24, dX0_testKeeper_25, dX0_testKeeper_26, fl_0_96_0, dX0_testKeeper_29, ic_1, dX0_testKeeper_30, dX0_testKeeper_31, dX0_testKeeper_34, dX0_testKeeper_35, dX0_testKeeper_36, fl_0_22_0, dX0_testKeeper_39, dX0_testKeeper_40, dX0_testKeeper_41, dX0_testKeeper_42, dX0_testKeeper_43, dX0_testKeeper_46, dX0_testKeeper_47, dX0_testKeeper_48, dX0_testKeeper_49, ic_0, dX0_testKeeper_50, dX0_testKeeper_53, tg_53_22, dX0_testKeeper_56, dX0_testKeeper_57, dX0_testKeeper_58, dX0_testKeeper_61, tg_61_14, dX0_testKeeper_64, dX0_testKeeper_65, dX0_testKeeper_68, dX0_testKeeper_69, dX0_testKeeper_70, dX0_testKeeper_71, dX0_testKeeper_74, dX0_testKeeper_75, jX0_testKeeper_0_46, jX0_testKeeper_0_39, jX0_testKeeper_0_99, st_aload_n, st_dup, st_getfield, st_goto, st_iadd, st_iaload, st_iastore, st_iconst, st_if_icmp, st_iload_n, st_invokevirtual, st_ior, st_ishl, st_istore_n, st_putfield, st_return]
    have hp2 : ((σ.1, va_up σ.2 a (Sum.inr (0, [Value.ref aw, Value.ref ak, Value.int day, Value.int (gone + 1), Value.int draw, Value.ref ad, Value.int (nI P), Value.int rule, Value.int (gd ||| (1 <<< (nI d &&& 31)))]))) : Hp) = _ := hp
    rw [hp2, cset_cset]
    exact h
end
section
/-! ===== College: passDay and what goes with it ===== -/
def sp_X0_passDay (Γ : Cx) : YSp := fun av σ K => ∃ (A : CA) (s : CS), av = [.ref A.1] ∧ WfC s ∧ Col Γ A s σ ∧ K none (cset Γ A (dayC s) σ)
theorem rv_X0_passDay {Γ : Cx} : Recv (sp_X0_passDay Γ) 0 0 := by
  intro av σ K h
  obtain ⟨A, s, rfl, -, hc, -⟩ := h
  obtain ⟨fs, h1, h2⟩ := col_rv hc
  exact ⟨_, _, fs, rfl, rfl, h1, h2⟩
theorem gN_s (s : CS) (n : Nat) : gN s (n + 1) = g1 (gN s n) n := rfl
theorem tN_s (s : CS) (n : Nat) : tN s (n + 1) = t1 (tN s n) n := rfl
theorem bw_294 : Cond.code yX0_growth cX0_growth 3 (some .int) ∈ BW := bw_i 294 (by decide +kernel) (by decide +kernel)
theorem no_X0_growth : NameOK yX0_growth 1 := by unfold NameOK; decide +kernel
theorem bw_518 : Cond.methodLink RX0 86 yX0_growth ∈ BW := bw_i 518 (by decide +kernel) (by decide +kernel)
theorem bw_292 : Cond.instanceMethod yX0_growth ∈ BW := bw_i 292 (by decide +kernel) (by decide +kernel)
theorem bw_293 : Cond.selects RX0 yX0_growth yX0_growth ∈ BW := bw_i 293 (by decide +kernel) (by decide +kernel)
theorem bw_512 : Cond.code yX0_wantMore cX0_wantMore 4 none ∈ BW := bw_i 512 (by decide +kernel) (by decide +kernel)
theorem no_X0_wantMore : NameOK yX0_wantMore 3 := by unfold NameOK; decide +kernel
theorem bw_509 : Cond.methodLink RX0 89 yX0_wantMore ∈ BW := bw_i 509 (by decide +kernel) (by decide +kernel)
theorem bw_510 : Cond.instanceMethod yX0_wantMore ∈ BW := bw_i 510 (by decide +kernel) (by decide +kernel)
theorem bw_511 : Cond.selects RX0 yX0_wantMore yX0_wantMore ∈ BW := bw_i 511 (by decide +kernel) (by decide +kernel)
theorem bw_522 : Cond.code yX0_testKeeper cX0_testKeeper 4 none ∈ BW := bw_i 522 (by decide +kernel) (by decide +kernel)
theorem no_X0_testKeeper : NameOK yX0_testKeeper 1 := by unfold NameOK; decide +kernel
theorem bw_519 : Cond.methodLink RX0 92 yX0_testKeeper ∈ BW := bw_i 519 (by decide +kernel) (by decide +kernel)
theorem bw_521 : Cond.instanceMethod yX0_testKeeper ∈ BW := bw_i 521 (by decide +kernel) (by decide +kernel)
theorem bw_10 : Cond.selects RX0 yX0_testKeeper yX0_testKeeper ∈ BW := bw_i 10 (by decide +kernel) (by decide +kernel)
theorem tg_4_36 : tgo 4 36 = some 40 := by decide
theorem tg_15_19 : tgo 15 19 = some 34 := by decide
theorem tg_37_m35 : tgo 37 (-35) = some 2 := by decide
theorem tg_49_25 : tgo 49 25 = some 74 := by decide
theorem tg_60_8 : tgo 60 8 = some 68 := by decide
theorem tg_71_m24 : tgo 71 (-24) = some 47 := by decide
def mX0_passDay : Mt := (⟨3, 0, 0, 69⟩, RX0, cX0_passDay, 2, none, (0, 0), false)
theorem mX0_passDay_c : mX0_passDay.2.2.1 = cX0_passDay := rfl
theorem mX0_passDay_n : mX0_passDay.2.2.2.1 = 2 := rfl
theorem mX0_passDay_r : mX0_passDay.2.2.2.2.1 = none := rfl
theorem mX0_passDay_l : mX0_passDay.2.2.2.2.2.2 = false := rfl
def jX0_passDay (Γ : Cx) : List ((Nat × Nat) × Nat × Bool × YSp) := [((0, 86), 2, false, sp_X0_growth Γ), ((0, 89), 4, false, sp_X0_wantMore Γ), ((0, 92), 2, false, sp_X0_testKeeper Γ)]
theorem jX0_passDay_0_86 (Γ : Cx) : kT (jX0_passDay Γ) 0 86 = some (2, false, sp_X0_growth Γ) := rfl
theorem jX0_passDay_0_89 (Γ : Cx) : kT (jX0_passDay Γ) 0 89 = some (4, false, sp_X0_wantMore Γ) := rfl
theorem jX0_passDay_0_92 (Γ : Cx) : kT (jX0_passDay Γ) 0 92 = some (2, false, sp_X0_testKeeper Γ) := rfl
theorem uX0_passDay (Γ : Cx) : TbOK Γ mX0_passDay (fT fX0, cT kX0, kT (jX0_passDay Γ)) := tb_ok fX0_ok kX0_ok (all_cons ⟨call_V (n := 1) (T := TX0) (N := 9) (ok_X0_growth Γ) (rv_X0_growth (Γ := Γ)) rfl bw_294 bw_518 bw_292 bw_293 bw_44 no_X0_growth ⟨⟨rfl, rfl⟩, ⟨by decide, by decide⟩, ⟨by decide, by decide⟩⟩, fun z => by cases z⟩ (all_cons ⟨call_V (n := 3) (T := TX0) (N := 9) (ok_X0_wantMore Γ) (rv_X0_wantMore (Γ := Γ)) rfl bw_512 bw_509 bw_510 bw_511 bw_44 no_X0_wantMore ⟨⟨rfl, rfl⟩, ⟨by decide, by decide⟩, ⟨by decide, by decide⟩⟩, fun z => by cases z⟩ (all_cons ⟨call_V (n := 1) (T := TX0) (N := 9) (ok_X0_testKeeper Γ) (rv_X0_testKeeper (Γ := Γ)) rfl bw_522 bw_519 bw_521 bw_10 bw_44 no_X0_testKeeper ⟨⟨rfl, rfl⟩, ⟨by decide, by decide⟩, ⟨by decide, by decide⟩⟩, fun z => by cases z⟩ (all_nil))))
set_option maxRecDepth 20000 in
theorem ok_X0_passDay (Γ : Cx) : Ok Γ yX0_passDay mX0_passDay (sp_X0_passDay Γ) := by
  refine ok_intro (by decide +kernel) rfl rfl ?_
  intro av σ K h
  obtain ⟨⟨a, aw, ak, ad⟩, s, rfl, hw, hc, h⟩ := h
  have loop2 : ∀ n j : Nat, ∀ t : CS, WfC t → j + n = 4 → K none (cset Γ (a, aw, ak, ad) (dayUp (tN t 4)) σ) → YG Γ mX0_passDay K 47 [(0, .ref a), (1, .int (nI j))] [] (cset Γ (a, aw, ak, ad) (tN t j) σ) := by
    intro n
    induction n with
    | zero =>
      intro j t ht hj hk
      obtain rfl : j = 4 := by omega
      have hc' := hc.set (tN t 4)
      generalize tN t 4 = s' at hc' hk ⊢
      obtain ⟨w, kp, kd, day, gone, draw, P, rule, gd⟩ := s'
      have hp := hc'.put (w, kp, kd, day + 1, gone, draw, P, rule, gd) rfl rfl rfl
      obtain ⟨⟨m1, m2, m3, m4⟩, e1, e2, e3, e4⟩ := hc'
      simp only [ColE, iA] at e1 e2 e3 e4 m1 m2 m3 m4
      refine yvc1_ok (uX0_passDay Γ) (S := [47]) 40 ?_
      simp only [yvc1, ge4, m1, e1, yvc_s, s1i, s2i, s1l, s2l, sil, s1r, sir, siir, slir, srir, svr, sd1, sd2, lg, lput, ldel, isL_i, isL_r, isL_l, jmp, obj, obj1, fI, fR, arI, arL, arR, hput, f4_0, f4_1, f4_2, f4_3, lc_0, lc_1, rok_i, rok_b, fput_1, fput_2, csum_nil, csum_i, csum_l, csum_r, va_up_self, bx_uu, Int.reduceAdd, List.elem_nil, List.elem_cons, List.take_succ_cons, List.take_zero, List.drop_succ_cons, List.drop_zero, List.take_nil, List.drop_nil, List.reverse_cons, List.reverse_nil, List.nil_append, List.cons_append, List.append_nil, Option.toList_some, Option.toList_none, List.getElem?_cons_zero, List.getElem?_cons_succ, List.set_cons_zero, List.set_cons_succ, List.length_cons, List.length_nil, reduceIte, reduceCtorEq, and_true, true_and, and_self, or_true, true_or, false_and, and_false, not_true_eq_false, not_false_eq_true, true_implies, false_implies, implies_true, Nat.reduceAdd, Nat.reduceLT, Nat.reduceEqDiff, Nat.reduceLeDiff, Nat.reduceBEq, Nat.zero_add, Nat.lt_add_one, Bool.false_eq_true, Bool.or_false, Bool.or_true, Bool.or_self, Nat.zero_ne_one, Nat.one_ne_zero, ite_true, ite_false, ne_eq, Nat.reduceSub, Nat.succ_eq_add_one, Nat.zero_lt_succ, Nat.add_one_ne_zero, false_or, or_false, mX0_passDay_c, mX0_passDay_n, mX0_passDay_r, mX0_passDay_l, dX0_passDay_0, ic_0, dX0_passDay_1, dX0_passDay_2, dX0_passDay_3, ic_4, dX0_passDay_4, tg_4_36, cnd2_ge, dX0_passDay_7, dX0_passDay_8, fl_0_59_0, dX0_passDay_11, dX0_passDay_12, dX0_passDay_13, bc_m4, dX0_passDay_15, tg_15_19, cnd2_eq, dX0_passDay_18, dX0_passDay_19, dX0_passDay_20, dX0_passDay_23, dX0_passDay_24, dX0_passDay_25, dX0_passDay_26, dX0_passDay_27, dX0_passDay_28, dX0_passDay_31, dX0_passDay_34, ic_1, dX0_passDay_37, tg_37_m35, dX0_passDay_40, dX0_passDay_41, dX0_passDay_42, fl_0_22_0, dX0_passDay_45, dX0_passDay_46, dX0_passDay_47, dX0_passDay_48, dX0_passDay_49, tg_49_25, dX0_passDay_52, dX0_passDay_53, dX0_passDay_56, dX0_passDay_57, dX0_passDay_58, dX0_passDay_60, tg_60_8, dX0_passDay_63, dX0_passDay_64, dX0_passDay_65, dX0_passDay_68, dX0_passDay_71, tg_71_m24, dX0_passDay_74, dX0_passDay_75, dX0_passDay_76, fl_0_80_0, dX0_passDay_79, dX0_passDay_80, dX0_passDay_81, dX0_passDay_84, jX0_passDay_0_86, jX0_passDay_0_89, jX0_passDay_0_92, st_aload_n, st_bipush, st_dup, st_getfield, st_goto, st_iadd, st_iaload, st_iconst, st_if_icmp, st_iinc, st_iload_n, st_invokevirtual, st_istore_n, st_putfield, st_return]
      rw [cset_cset] at hp
      have hk' : K none (cset Γ (a, aw, ak, ad) (w, kp, kd, day + 1, gone, draw, P, rule, gd) σ) := hk
      rw [← hp] at hk'
      exact hk'
    | succ n ih =>
      intro j t ht hj hk
      obtain ⟨c1, c2, c3⟩ := lt4 (show j < 4 by omega)
      have hj1 := ih (j + 1) t ht (by omega) hk
      have hw' := (tN_wf ht j).1
      have hc' := hc.set (tN t j)
      rw [tN_s] at hj1
      generalize tN t j = s' at hc' hj1 hw' ⊢
      obtain ⟨w, kp, kd, day, gone, draw, P, rule, gd⟩ := s'
      have hc0 := hc'
      obtain ⟨⟨m1, m2, m3, m4⟩, e1, e2, e3, e4⟩ := hc'
      simp only [ColE, iA] at e1 e2 e3 e4 m1 m2 m3 m4
      refine yvc1_ok (uX0_passDay Γ) (S := [47]) 40 ?_
      simp only [yvc1, c1, c2, c3, m1, m3, e1, e3, nI_1, yvc_s, s1i, s2i, s1l, s2l, sil, s1r, sir, siir, slir, srir, svr, sd1, sd2, lg, lput, ldel, isL_i, isL_r, isL_l, jmp, obj, obj1, fI, fR, arI, arL, arR, hput, f4_0, f4_1, f4_2, f4_3, lc_0, lc_1, rok_i, rok_b, fput_1, fput_2, csum_nil, csum_i, csum_l, csum_r, va_up_self, bx_uu, Int.reduceAdd, List.elem_nil, List.elem_cons, List.take_succ_cons, List.take_zero, List.drop_succ_cons, List.drop_zero, List.take_nil, List.drop_nil, List.reverse_cons, List.reverse_nil, List.nil_append, List.cons_append, List.append_nil, Option.toList_some, Option.toList_none, List.getElem?_cons_zero, List.getElem?_cons_succ, List.set_cons_zero, List.set_cons_succ, List.length_cons, List.length_nil, reduceIte, reduceCtorEq, and_true, true_and, and_self, or_true, true_or, false_and, and_false, not_true_eq_false, not_false_eq_true, true_implies, false_implies, implies_true, Nat.reduceAdd, Nat.reduceLT, Nat.reduceEqDiff, Nat.reduceLeDiff, Nat.reduceBEq, Nat.zero_add, Nat.lt_add_one, Bool.false_eq_true, Bool.or_false, Bool.or_true, Bool.or_self, Nat.zero_ne_one, Nat.one_ne_zero, ite_true, ite_false, ne_eq, Nat.reduceSub, Nat.succ_eq_add_one, Nat.zero_lt_succ, Nat.add_one_ne_zero, false_or, or_false, mX0_passDay_c, mX0_passDay_n, mX0_passDay_r, mX0_passDay_l, dX0_passDay_0, ic_0, dX0_passDay_1, dX0_passDay_2, dX0_passDay_3, ic_4, dX0_passDay_4, tg_4_36, cnd2_ge, dX0_passDay_7, dX0_passDay_8, fl_0_59_0, dX0_passDay_11, dX0_passDay_12, dX0_passDay_13, bc_m4, dX0_passDay_15, tg_15_19, cnd2_eq, dX0_passDay_18, dX0_passDay_19, dX0_passDay_20, dX0_passDay_23, dX0_passDay_24, dX0_passDay_25, dX0_passDay_26, dX0_passDay_27, dX0_passDay_28, dX0_passDay_31, dX0_passDay_34, ic_1, dX0_passDay_37, tg_37_m35, dX0_passDay_40, dX0_passDay_41, dX0_passDay_42, fl_0_22_0, dX0_passDay_45, dX0_passDay_46, dX0_passDay_47, dX0_passDay_48, dX0_passDay_49, tg_49_25, dX0_passDay_52, dX0_passDay_53, dX0_passDay_56, dX0_passDay_57, dX0_passDay_58, dX0_passDay_60, tg_60_8, dX0_passDay_63, dX0_passDay_64, dX0_passDay_65, dX0_passDay_68, dX0_passDay_71, tg_71_m24, dX0_passDay_74, dX0_passDay_75, dX0_passDay_76, fl_0_80_0, dX0_passDay_79, dX0_passDay_80, dX0_passDay_81, dX0_passDay_84, jX0_passDay_0_86, jX0_passDay_0_89, jX0_passDay_0_92, st_aload_n, st_bipush, st_dup, st_getfield, st_goto, st_iadd, st_iaload, st_iconst, st_if_icmp, st_iinc, st_iload_n, st_invokevirtual, st_istore_n, st_putfield, st_return]
      refine ⟨fun c => ?_, fun c => ?_⟩
      · rw [t1, if_pos c] at hj1
        exact hj1
      · rw [t1, if_neg c] at hj1
        refine ⟨(a, aw, ak, ad), (w, kp, kd, day, gone, draw, P, rule, gd), j, rfl, by omega, hw', c, hc0, ?_⟩
        refine yvc_ok (uX0_passDay Γ) (S := [47]) 40 _ _ _ _ ?_
        simp only [nI_1, cset_cset, yvc_s, s1i, s2i, s1l, s2l, sil, s1r, sir, siir, slir, srir, svr, sd1, sd2, lg, lput, ldel, isL_i, isL_r, isL_l, jmp, obj, obj1, fI, fR, arI, arL, arR, hput, f4_0, f4_1, f4_2, f4_3, lc_0, lc_1, rok_i, rok_b, fput_1, fput_2, csum_nil, csum_i, csum_l, csum_r, va_up_self, bx_uu, Int.reduceAdd, List.elem_nil, List.elem_cons, List.take_succ_cons, List.take_zero, List.drop_succ_cons, List.drop_zero, List.take_nil, List.drop_nil, List.reverse_cons, List.reverse_nil, List.nil_append, List.cons_append, List.append_nil, Option.toList_some, Option.toList_none, List.getElem?_cons_zero, List.getElem?_cons_succ, List.set_cons_zero, List.set_cons_succ, List.length_cons, List.length_nil, reduceIte, reduceCtorEq, and_true, true_and, and_self, or_true, true_or, false_and, and_false, not_true_eq_false, not_false_eq_true, true_implies, false_implies, implies_true, Nat.reduceAdd, Nat.reduceLT, Nat.reduceEqDiff, Nat.reduceLeDiff, Nat.reduceBEq, Nat.zero_add, Nat.lt_add_one, Bool.false_eq_true, Bool.or_false, Bool.or_true, Bool.or_self, Nat.zero_ne_one, Nat.one_ne_zero, ite_true, ite_false, ne_eq, Nat.reduceSub, Nat.succ_eq_add_one, Nat.zero_lt_succ, Nat.add_one_ne_zero, false_or, or_false, mX0_passDay_c, mX0_passDay_n, mX0_passDay_r, mX0_passDay_l, dX0_passDay_0, ic_0, dX0_passDay_1, dX0_passDay_2, dX0_passDay_3, ic_4, dX0_passDay_4, tg_4_36, cnd2_ge, dX0_passDay_7, dX0_passDay_8, fl_0_59_0, dX0_passDay_11, dX0_passDay_12, dX0_passDay_13, bc_m4, dX0_passDay_15, tg_15_19, cnd2_eq, dX0_passDay_18, dX0_passDay_19, dX0_passDay_20, dX0_passDay_23, dX0_passDay_24, dX0_passDay_25, dX0_passDay_26, dX0_passDay_27, dX0_passDay_28, dX0_passDay_31, dX0_passDay_34, ic_1, dX0_passDay_37, tg_37_m35, dX0_passDay_40, dX0_passDay_41, dX0_passDay_42, fl_0_22_0, dX0_passDay_45, dX0_passDay_46, dX0_passDay_47, dX0_passDay_48, dX0_passDay_49, tg_49_25, dX0_passDay_52, dX0_passDay_53, dX0_passDay_56, dX0_passDay_57, dX0_passDay_58, dX0_passDay_60, tg_60_8, dX0_passDay_63, dX0_passDay_64, dX0_passDay_65, dX0_passDay_68, dX0_passDay_71, tg_71_m24, dX0_passDay_74, dX0_passDay_75, dX0_passDay_76, fl_0_80_0, dX0_passDay_79, dX0_passDay_80, dX0_passDay_81, dX0_passDay_84, jX0_passDay_0_86, jX0_passDay_0_89, jX0_passDay_0_92, st_aload_n, st_bipush, st_dup, st_getfield, st_goto, st_iadd, st_iaload, st_iconst, st_if_icmp, st_iinc, st_iload_n, st_invokevirtual, st_istore_n, st_putfield, st_return]
        exact hj1
  have loop1 : ∀ n j : Nat, j + n = 4 → YG Γ mX0_passDay K 2 [(0, .ref a), (1, .int (nI j))] [] (cset Γ (a, aw, ak, ad) (gN s j) σ) := by
    intro n
    induction n with
    | zero =>
      intro j hj
      obtain rfl : j = 4 := by omega
      have hl := loop2 4 0 (gd0 (gN s 4)) (gd0_wf (gN_wf hw 4)) rfl h
      have hc' := hc.set (gN s 4)
      rw [show tN (gd0 (gN s 4)) 0 = gd0 (gN s 4) from rfl] at hl
      generalize gN s 4 = s' at hc' hl ⊢
      obtain ⟨w, kp, kd, day, gone, draw, P, rule, gd⟩ := s'
      have hp := hc'.put (gd0 (w, kp, kd, day, gone, draw, P, rule, gd)) rfl rfl rfl
      obtain ⟨⟨m1, m2, m3, m4⟩, e1, e2, e3, e4⟩ := hc'
      simp only [ColE, iA] at e1 e2 e3 e4 m1 m2 m3 m4
      refine yvc1_ok (uX0_passDay Γ) (S := [2, 47]) 40 ?_
      simp only [yvc1, ge4, m1, e1, yvc_s, s1i, s2i, s1l, s2l, sil, s1r, sir, siir, slir, srir, svr, sd1, sd2, lg, lput, ldel, isL_i, isL_r, isL_l, jmp, obj, obj1, fI, fR, arI, arL, arR, hput, f4_0, f4_1, f4_2, f4_3, lc_0, lc_1, rok_i, rok_b, fput_1, fput_2, csum_nil, csum_i, csum_l, csum_r, va_up_self, bx_uu, Int.reduceAdd, List.elem_nil, List.elem_cons, List.take_succ_cons, List.take_zero, List.drop_succ_cons, List.drop_zero, List.take_nil, List.drop_nil, List.reverse_cons, List.reverse_nil, List.nil_append, List.cons_append, List.append_nil, Option.toList_some, Option.toList_none, List.getElem?_cons_zero, List.getElem?_cons_succ, List.set_cons_zero, List.set_cons_succ, List.length_cons, List.length_nil, reduceIte, reduceCtorEq, and_true, true_and, and_self, or_true, true_or, false_and, and_false, not_true_eq_false, not_false_eq_true, true_implies, false_implies, implies_true, Nat.reduceAdd, Nat.reduceLT, Nat.reduceEqDiff, Nat.reduceLeDiff, Nat.reduceBEq, Nat.zero_add, Nat.lt_add_one, Bool.false_eq_true, Bool.or_false, Bool.or_true, Bool.or_self, Nat.zero_ne_one, Nat.one_ne_zero, ite_true, ite_false, ne_eq, Nat.reduceSub, Nat.succ_eq_add_one, Nat.zero_lt_succ, Nat.add_one_ne_zero, false_or, or_false, mX0_passDay_c, mX0_passDay_n, mX0_passDay_r, mX0_passDay_l, dX0_passDay_0, ic_0, dX0_passDay_1, dX0_passDay_2, dX0_passDay_3, ic_4, dX0_passDay_4, tg_4_36, cnd2_ge, dX0_passDay_7, dX0_passDay_8, fl_0_59_0, dX0_passDay_11, dX0_passDay_12, dX0_passDay_13, bc_m4, dX0_passDay_15, tg_15_19, cnd2_eq, dX0_passDay_18, dX0_passDay_19, dX0_passDay_20, dX0_passDay_23, dX0_passDay_24, dX0_passDay_25, dX0_passDay_26, dX0_passDay_27, dX0_passDay_28, dX0_passDay_31, dX0_passDay_34, ic_1, dX0_passDay_37, tg_37_m35, dX0_passDay_40, dX0_passDay_41, dX0_passDay_42, fl_0_22_0, dX0_passDay_45, dX0_passDay_46, dX0_passDay_47, dX0_passDay_48, dX0_passDay_49, tg_49_25, dX0_passDay_52, dX0_passDay_53, dX0_passDay_56, dX0_passDay_57, dX0_passDay_58, dX0_passDay_60, tg_60_8, dX0_passDay_63, dX0_passDay_64, dX0_passDay_65, dX0_passDay_68, dX0_passDay_71, tg_71_m24, dX0_passDay_74, dX0_passDay_75, dX0_passDay_76, fl_0_80_0, dX0_passDay_79, dX0_passDay_80, dX0_passDay_81, dX0_passDay_84, jX0_passDay_0_86, jX0_passDay_0_89, jX0_passDay_0_92, st_aload_n, st_bipush, st_dup, st_getfield, st_goto, st_iadd, st_iaload, st_iconst, st_if_icmp, st_iinc, st_iload_n, st_invokevirtual, st_istore_n, st_putfield, st_return]
      rw [cset_cset] at hp
      rw [← hp] at hl
      exact hl
    | succ n ih =>
      intro j hj
      obtain ⟨c1, c2, c3⟩ := lt4 (show j < 4 by omega)
      have hj1 := ih (j + 1) (by omega)
      have hw' := gN_wf hw j
      have hc' := hc.set (gN s j)
      rw [gN_s] at hj1
      generalize gN s j = s' at hc' hj1 hw' ⊢
      obtain ⟨w, kp, kd, day, gone, draw, P, rule, gd⟩ := s'
      have hc0 := hc'
      obtain ⟨⟨m1, m2, m3, m4⟩, e1, e2, e3, e4⟩ := hc'
      simp only [ColE, iA] at e1 e2 e3 e4 m1 m2 m3 m4
      refine yvc1_ok (uX0_passDay Γ) (S := [2, 47]) 40 ?_
      simp only [yvc1, c1, c2, c3, m1, m3, e1, e3, nI_1, yvc_s, s1i, s2i, s1l, s2l, sil, s1r, sir, siir, slir, srir, svr, sd1, sd2, lg, lput, ldel, isL_i, isL_r, isL_l, jmp, obj, obj1, fI, fR, arI, arL, arR, hput, f4_0, f4_1, f4_2, f4_3, lc_0, lc_1, rok_i, rok_b, fput_1, fput_2, csum_nil, csum_i, csum_l, csum_r, va_up_self, bx_uu, Int.reduceAdd, List.elem_nil, List.elem_cons, List.take_succ_cons, List.take_zero, List.drop_succ_cons, List.drop_zero, List.take_nil, List.drop_nil, List.reverse_cons, List.reverse_nil, List.nil_append, List.cons_append, List.append_nil, Option.toList_some, Option.toList_none, List.getElem?_cons_zero, List.getElem?_cons_succ, List.set_cons_zero, List.set_cons_succ, List.length_cons, List.length_nil, reduceIte, reduceCtorEq, and_true, true_and, and_self, or_true, true_or, false_and, and_false, not_true_eq_false, not_false_eq_true, true_implies, false_implies, implies_true, Nat.reduceAdd, Nat.reduceLT, Nat.reduceEqDiff, Nat.reduceLeDiff, Nat.reduceBEq, Nat.zero_add, Nat.lt_add_one, Bool.false_eq_true, Bool.or_false, Bool.or_true, Bool.or_self, Nat.zero_ne_one, Nat.one_ne_zero, ite_true, ite_false, ne_eq, Nat.reduceSub, Nat.succ_eq_add_one, Nat.zero_lt_succ, Nat.add_one_ne_zero, false_or, or_false, mX0_passDay_c, mX0_passDay_n, mX0_passDay_r, mX0_passDay_l, dX0_passDay_0, ic_0, dX0_passDay_1, dX0_passDay_2, dX0_passDay_3, ic_4, dX0_passDay_4, tg_4_36, cnd2_ge, dX0_passDay_7, dX0_passDay_8, fl_0_59_0, dX0_passDay_11, dX0_passDay_12, dX0_passDay_13, bc_m4, dX0_passDay_15, tg_15_19, cnd2_eq, dX0_passDay_18, dX0_passDay_19, dX0_passDay_20, dX0_passDay_23, dX0_passDay_24, dX0_passDay_25, dX0_passDay_26, dX0_passDay_27, dX0_passDay_28, dX0_passDay_31, dX0_passDay_34, ic_1, dX0_passDay_37, tg_37_m35, dX0_passDay_40, dX0_passDay_41, dX0_passDay_42, fl_0_22_0, dX0_passDay_45, dX0_passDay_46, dX0_passDay_47, dX0_passDay_48, dX0_passDay_49, tg_49_25, dX0_passDay_52, dX0_passDay_53, dX0_passDay_56, dX0_passDay_57, dX0_passDay_58, dX0_passDay_60, tg_60_8, dX0_passDay_63, dX0_passDay_64, dX0_passDay_65, dX0_passDay_68, dX0_passDay_71, tg_71_m24, dX0_passDay_74, dX0_passDay_75, dX0_passDay_76, fl_0_80_0, dX0_passDay_79, dX0_passDay_80, dX0_passDay_81, dX0_passDay_84, jX0_passDay_0_86, jX0_passDay_0_89, jX0_passDay_0_92, st_aload_n, st_bipush, st_dup, st_getfield, st_goto, st_iadd, st_iaload, st_iconst, st_if_icmp, st_iinc, st_iload_n, st_invokevirtual, st_istore_n, st_putfield, st_return]
      refine ⟨fun c => ?_, fun c => ?_⟩
      · rw [g1, if_pos c] at hj1
        exact hj1
      · rw [g1, if_neg c] at hj1
        rcases hw'.2 j (by omega) with h0 | ⟨q, hq, h0⟩
        · exact absurd h0 c
        simp only at h0 hq
        have hP := hw'.1
        simp only at hP
        refine ⟨(a, aw, ak, ad), (w, kp, kd, day, gone, draw, P, rule, gd), j, rfl, by omega, hw', hc0, ?_⟩
        refine yvc_ok (uX0_passDay Γ) (S := [2, 47]) 40 _ _ _ _ ?_
        simp only [yvc_s, s1i, s2i, s1l, s2l, sil, s1r, sir, siir, slir, srir, svr, sd1, sd2, lg, lput, ldel, isL_i, isL_r, isL_l, jmp, obj, obj1, fI, fR, arI, arL, arR, hput, f4_0, f4_1, f4_2, f4_3, lc_0, lc_1, rok_i, rok_b, fput_1, fput_2, csum_nil, csum_i, csum_l, csum_r, va_up_self, bx_uu, Int.reduceAdd, List.elem_nil, List.elem_cons, List.take_succ_cons, List.take_zero, List.drop_succ_cons, List.drop_zero, List.take_nil, List.drop_nil, List.reverse_cons, List.reverse_nil, List.nil_append, List.cons_append, List.append_nil, Option.toList_some, Option.toList_none, List.getElem?_cons_zero, List.getElem?_cons_succ, List.set_cons_zero, List.set_cons_succ, List.length_cons, List.length_nil, reduceIte, reduceCtorEq, and_true, true_and, and_self, or_true, true_or, false_and, and_false, not_true_eq_false, not_false_eq_true, true_implies, false_implies, implies_true, Nat.reduceAdd, Nat.reduceLT, Nat.reduceEqDiff, Nat.reduceLeDiff, Nat.reduceBEq, Nat.zero_add, Nat.lt_add_one, Bool.false_eq_true, Bool.or_false, Bool.or_true, Bool.or_self, Nat.zero_ne_one, Nat.one_ne_zero, ite_true, ite_false, ne_eq, Nat.reduceSub, Nat.succ_eq_add_one, Nat.zero_lt_succ, Nat.add_one_ne_zero, false_or, or_false, mX0_passDay_c, mX0_passDay_n, mX0_passDay_r, mX0_passDay_l, dX0_passDay_0, ic_0, dX0_passDay_1, dX0_passDay_2, dX0_passDay_3, ic_4, dX0_passDay_4, tg_4_36, cnd2_ge, dX0_passDay_7, dX0_passDay_8, fl_0_59_0, dX0_passDay_11, dX0_passDay_12, dX0_passDay_13, bc_m4, dX0_passDay_15, tg_15_19, cnd2_eq, dX0_passDay_18, dX0_passDay_19, dX0_passDay_20, dX0_passDay_23, dX0_passDay_24, dX0_passDay_25, dX0_passDay_26, dX0_passDay_27, dX0_passDay_28, dX0_passDay_31, dX0_passDay_34, ic_1, dX0_passDay_37, tg_37_m35, dX0_passDay_40, dX0_passDay_41, dX0_passDay_42, fl_0_22_0, dX0_passDay_45, dX0_passDay_46, dX0_passDay_47, dX0_passDay_48, dX0_passDay_49, tg_49_25, dX0_passDay_52, dX0_passDay_53, dX0_passDay_56, dX0_passDay_57, dX0_passDay_58, dX0_passDay_60, tg_60_8, dX0_passDay_63, dX0_passDay_64, dX0_passDay_65, dX0_passDay_68, dX0_passDay_71, tg_71_m24, dX0_passDay_74, dX0_passDay_75, dX0_passDay_76, fl_0_80_0, dX0_passDay_79, dX0_passDay_80, dX0_passDay_81, dX0_passDay_84, jX0_passDay_0_86, jX0_passDay_0_89, jX0_passDay_0_92, st_aload_n, st_bipush, st_dup, st_getfield, st_goto, st_iadd, st_iaload, st_iconst, st_if_icmp, st_iinc, st_iload_n, st_invokevirtual, st_istore_n, st_putfield, st_return]
        refine ⟨(a, aw, ak, ad), (w, kp, kd, day, gone, draw, P, rule, gd), _, _, _, rfl, hc0, ix_in' (show q < 5 by omega) (by omega) h0, ?_⟩
        refine yvc_ok (uX0_passDay Γ) (S := [2, 47]) 40 _ _ _ _ ?_
        simp only [nI_1, cset_cset, yvc_s, s1i, s2i, s1l, s2l, sil, s1r, sir, siir, slir, srir, svr, sd1, sd2, lg, lput, ldel, isL_i, isL_r, isL_l, jmp, obj, obj1, fI, fR, arI, arL, arR, hput, f4_0, f4_1, f4_2, f4_3, lc_0, lc_1, rok_i, rok_b, fput_1, fput_2, csum_nil, csum_i, csum_l, csum_r, va_up_self, bx_uu, Int.reduceAdd, List.elem_nil, List.elem_cons, List.take_succ_cons, List.take_zero, List.drop_succ_cons, List.drop_zero, List.take_nil, List.drop_nil, List.reverse_cons, List.reverse_nil, List.nil_append, List.cons_append, List.append_nil, Option.toList_some, Option.toList_none, List.getElem?_cons_zero, List.getElem?_cons_succ, List.set_cons_zero, List.set_cons_succ, List.length_cons, List.length_nil, reduceIte, reduceCtorEq, and_true, true_and, and_self, or_true, true_or, false_and, and_false, not_true_eq_false, not_false_eq_true, true_implies, false_implies, implies_true, Nat.reduceAdd, Nat.reduceLT, Nat.reduceEqDiff, Nat.reduceLeDiff, Nat.reduceBEq, Nat.zero_add, Nat.lt_add_one, Bool.false_eq_true, Bool.or_false, Bool.or_true, Bool.or_self, Nat.zero_ne_one, Nat.one_ne_zero, ite_true, ite_false, ne_eq, Nat.reduceSub, Nat.succ_eq_add_one, Nat.zero_lt_succ, Nat.add_one_ne_zero, false_or, or_false, mX0_passDay_c, mX0_passDay_n, mX0_passDay_r, mX0_passDay_l, dX0_passDay_0, ic_0, dX0_passDay_1, dX0_passDay_2, dX0_passDay_3, ic_4, dX0_passDay_4, tg_4_36, cnd2_ge, dX0_passDay_7, dX0_passDay_8, fl_0_59_0, dX0_passDay_11, dX0_passDay_12, dX0_passDay_13, bc_m4, dX0_passDay_15, tg_15_19, cnd2_eq, dX0_passDay_18, dX0_passDay_19, dX0_passDay_20, dX0_passDay_23, dX0_passDay_24, dX0_passDay_25, dX0_passDay_26, dX0_passDay_27, dX0_passDay_28, dX0_passDay_31, dX0_passDay_34, ic_1, dX0_passDay_37, tg_37_m35, dX0_passDay_40, dX0_passDay_41, dX0_passDay_42, fl_0_22_0, dX0_passDay_45, dX0_passDay_46, dX0_passDay_47, dX0_passDay_48, dX0_passDay_49, tg_49_25, dX0_passDay_52, dX0_passDay_53, dX0_passDay_56, dX0_passDay_57, dX0_passDay_58, dX0_passDay_60, tg_60_8, dX0_passDay_63, dX0_passDay_64, dX0_passDay_65, dX0_passDay_68, dX0_passDay_71, tg_71_m24, dX0_passDay_74, dX0_passDay_75, dX0_passDay_76, fl_0_80_0, dX0_passDay_79, dX0_passDay_80, dX0_passDay_81, dX0_passDay_84, jX0_passDay_0_86, jX0_passDay_0_89, jX0_passDay_0_92, st_aload_n, st_bipush, st_dup, st_getfield, st_goto, st_iadd, st_iaload, st_iconst, st_if_icmp, st_iinc, st_iload_n, st_invokevirtual, st_istore_n, st_putfield, st_return]
        exact hj1
  refine ⟨Nat.le_of_ble_eq_true rfl, yvc_ok (uX0_passDay Γ) (S := [2]) 40 _ _ _ _ ?_⟩
  simp only [lv_args, Value.category, yvc_s, s1i, s2i, s1l, s2l, sil, s1r, sir, siir, slir, srir, svr, sd1, sd2, lg, lput, ldel, isL_i, isL_r, isL_l, jmp, obj, obj1, fI, fR, arI, arL, arR, hput, f4_0, f4_1, f4_2, f4_3, lc_0, lc_1, rok_i, rok_b, fput_1, fput_2, csum_nil, csum_i, csum_l, csum_r, va_up_self, bx_uu, Int.reduceAdd, List.elem_nil, List.elem_cons, List.take_succ_cons, List.take_zero, List.drop_succ_cons, List.drop_zero, List.take_nil, List.drop_nil, List.reverse_cons, List.reverse_nil, List.nil_append, List.cons_append, List.append_nil, Option.toList_some, Option.toList_none, List.getElem?_cons_zero, List.getElem?_cons_succ, List.set_cons_zero, List.set_cons_succ, List.length_cons, List.length_nil, reduceIte, reduceCtorEq, and_true, true_and, and_self, or_true, true_or, false_and, and_false, not_true_eq_false, not_false_eq_true, true_implies, false_implies, implies_true, Nat.reduceAdd, Nat.reduceLT, Nat.reduceEqDiff, Nat.reduceLeDiff, Nat.reduceBEq, Nat.zero_add, Nat.lt_add_one, Bool.false_eq_true, Bool.or_false, Bool.or_true, Bool.or_self, Nat.zero_ne_one, Nat.one_ne_zero, ite_true, ite_false, ne_eq, Nat.reduceSub, Nat.succ_eq_add_one, Nat.zero_lt_succ, Nat.add_one_ne_zero, false_or, or_false, mX0_passDay_c, mX0_passDay_n, mX0_passDay_r, mX0_passDay_l, dX0_passDay_0, ic_0, dX0_passDay_1, dX0_passDay_2, dX0_passDay_3, ic_4, dX0_passDay_4, tg_4_36, cnd2_ge, dX0_passDay_7, dX0_passDay_8, fl_0_59_0, dX0_passDay_11, dX0_passDay_12, dX0_passDay_13, bc_m4, dX0_passDay_15, tg_15_19, cnd2_eq, dX0_passDay_18, dX0_passDay_19, dX0_passDay_20, dX0_passDay_23, dX0_passDay_24, dX0_passDay_25, dX0_passDay_26, dX0_passDay_27, dX0_passDay_28, dX0_passDay_31, dX0_passDay_34, ic_1, dX0_passDay_37, tg_37_m35, dX0_passDay_40, dX0_passDay_41, dX0_passDay_42, fl_0_22_0, dX0_passDay_45, dX0_passDay_46, dX0_passDay_47, dX0_passDay_48, dX0_passDay_49, tg_49_25, dX0_passDay_52, dX0_passDay_53, dX0_passDay_56, dX0_passDay_57, dX0_passDay_58, dX0_passDay_60, tg_60_8, dX0_passDay_63, dX0_passDay_64, dX0_passDay_65, dX0_passDay_68, dX0_passDay_71, tg_71_m24, dX0_passDay_74, dX0_passDay_75, dX0_passDay_76, fl_0_80_0, dX0_passDay_79, dX0_passDay_80, dX0_passDay_81, dX0_passDay_84, jX0_passDay_0_86, jX0_passDay_0_89, jX0_passDay_0_92, st_aload_n, st_bipush, st_dup, st_getfield, st_goto, st_iadd, st_iaload, st_iconst, st_if_icmp, st_iinc, st_iload_n, st_invokevirtual, st_istore_n, st_putfield, st_return]
  have hl := loop1 4 0 rfl
  rw [show gN s 0 = s from rfl, hc.self] at hl
  exact hl
def sp_X0_passDays (Γ : Cx) : YSp := fun av σ K => ∃ (A : CA) (s : CS) (n : Nat), av = [.ref A.1, .int (nI n)] ∧ n < 100 ∧ WfC s ∧ Col Γ A s σ ∧ K none (cset Γ A (daysC s n) σ)
theorem rv_X0_passDays {Γ : Cx} : Recv (sp_X0_passDays Γ) 1 0 := by
  intro av σ K h
  obtain ⟨A, s, n, rfl, -, -, hc, -⟩ := h
  obtain ⟨fs, h1, h2⟩ := col_rv hc
  exact ⟨_, _, fs, rfl, rfl, h1, h2⟩
theorem ltN {j n : Nat} (h : j < n) (hn : n < 100) : ¬ nI n ≤ nI j := nI_ge h (by omega)
theorem bw_517 : Cond.code yX0_passDay cX0_passDay 2 none ∈ BW := bw_i 517 (by decide +kernel) (by decide +kernel)
theorem no_X0_passDay : NameOK yX0_passDay 0 := by unfold NameOK; decide +kernel
theorem bw_561 : Cond.methodLink RX0 83 yX0_passDay ∈ BW := bw_i 561 (by decide +kernel) (by decide +kernel)
theorem bw_515 : Cond.instanceMethod yX0_passDay ∈ BW := bw_i 515 (by decide +kernel) (by decide +kernel)
theorem bw_516 : Cond.selects RX0 yX0_passDay yX0_passDay ∈ BW := bw_i 516 (by decide +kernel) (by decide +kernel)
theorem tg_4_13 : tgo 4 13 = some 17 := by decide
theorem tg_14_m12 : tgo 14 (-12) = some 2 := by decide
def mX0_passDays : Mt := (⟨4, 0, 0, 90⟩, RX0, cX0_passDays, 3, none, (0, 0), false)
theorem mX0_passDays_c : mX0_passDays.2.2.1 = cX0_passDays := rfl
theorem mX0_passDays_n : mX0_passDays.2.2.2.1 = 3 := rfl
theorem mX0_passDays_r : mX0_passDays.2.2.2.2.1 = none := rfl
theorem mX0_passDays_l : mX0_passDays.2.2.2.2.2.2 = false := rfl
def jX0_passDays (Γ : Cx) : List ((Nat × Nat) × Nat × Bool × YSp) := [((0, 83), 1, false, sp_X0_passDay Γ)]
theorem jX0_passDays_0_83 (Γ : Cx) : kT (jX0_passDays Γ) 0 83 = some (1, false, sp_X0_passDay Γ) := rfl
theorem uX0_passDays (Γ : Cx) : TbOK Γ mX0_passDays (fT fX0, cT kX0, kT (jX0_passDays Γ)) := tb_ok fX0_ok kX0_ok (all_cons ⟨call_V (n := 0) (T := TX0) (N := 9) (ok_X0_passDay Γ) (rv_X0_passDay (Γ := Γ)) rfl bw_517 bw_561 bw_515 bw_516 bw_44 no_X0_passDay ⟨⟨rfl, rfl⟩, ⟨by decide, by decide⟩, ⟨by decide, by decide⟩⟩, fun z => by cases z⟩ (all_nil))
set_option maxRecDepth 20000 in
theorem ok_X0_passDays (Γ : Cx) : Ok Γ yX0_passDays mX0_passDays (sp_X0_passDays Γ) := by
  refine ok_intro (by decide +kernel) rfl rfl ?_
  intro av σ K h
  obtain ⟨⟨a, aw, ak, ad⟩, s, N, rfl, hN, hw, hc, h⟩ := h
  have loop : ∀ n j : Nat, j + n = N → YG Γ mX0_passDays K 2 [(0, .ref a), (1, .int (nI N)), (2, .int (nI j))] [] (cset Γ (a, aw, ak, ad) (daysC s j) σ) := by
    intro n
    induction n with
    | zero =>
      intro j hj
      obtain rfl : j = N := by omega
      refine yvc1_ok (uX0_passDays Γ) (S := [2]) 40 ?_
      simp only [yvc1, geP, yvc_s, s1i, s2i, s1l, s2l, sil, s1r, sir, siir, slir, srir, svr, sd1, sd2, lg, lput, ldel, isL_i, isL_r, isL_l, jmp, obj, obj1, fI, fR, arI, arL, arR, hput, f4_0, f4_1, f4_2, f4_3, lc_0, lc_1, rok_i, rok_b, fput_1, fput_2, csum_nil, csum_i, csum_l, csum_r, va_up_self, bx_uu, Int.reduceAdd, List.elem_nil, List.elem_cons, List.take_succ_cons, List.take_zero, List.drop_succ_cons, List.drop_zero, List.take_nil, List.drop_nil, List.reverse_cons, List.reverse_nil, List.nil_append, List.cons_append, List.append_nil, Option.toList_some, Option.toList_none, List.getElem?_cons_zero, List.getElem?_cons_succ, List.set_cons_zero, List.set_cons_succ, List.length_cons, List.length_nil, reduceIte, reduceCtorEq, and_true, true_and, and_self, or_true, true_or, false_and, and_false, not_true_eq_false, not_false_eq_true, true_implies, false_implies, implies_true, Nat.reduceAdd, Nat.reduceLT, Nat.reduceEqDiff, Nat.reduceLeDiff, Nat.reduceBEq, Nat.zero_add, Nat.lt_add_one, Bool.false_eq_true, Bool.or_false, Bool.or_true, Bool.or_self, Nat.zero_ne_one, Nat.one_ne_zero, ite_true, ite_false, ne_eq, Nat.reduceSub, Nat.succ_eq_add_one, Nat.zero_lt_succ, Nat.add_one_ne_zero, false_or, or_false, mX0_passDays_c, mX0_passDays_n, mX0_passDays_r, mX0_passDays_l, dX0_passDays_0, ic_0, dX0_passDays_1, dX0_passDays_2, dX0_passDays_3, dX0_passDays_4, tg_4_13, cnd2_ge, dX0_passDays_7, dX0_passDays_8, dX0_passDays_11, ic_1, dX0_passDays_14, tg_14_m12, dX0_passDays_17, jX0_passDays_0_83, st_aload_n, st_goto, st_iconst, st_if_icmp, st_iinc, st_iload_n, st_invokevirtual, st_istore_n, st_return]
      exact h
    | succ n ih =>
      intro j hj
      have c1 := ltN (show j < N by omega) hN
      have hj1 := ih (j + 1) (by omega)
      rw [daysC] at hj1
      have hw' := (daysC_wf hw j).1
      have hc' := hc.set (daysC s j)
      generalize daysC s j = s' at hc' hw' hj1 ⊢
      refine yvc1_ok (uX0_passDays Γ) (S := [2]) 40 ?_
      simp only [yvc1, c1, yvc_s, s1i, s2i, s1l, s2l, sil, s1r, sir, siir, slir, srir, svr, sd1, sd2, lg, lput, ldel, isL_i, isL_r, isL_l, jmp, obj, obj1, fI, fR, arI, arL, arR, hput, f4_0, f4_1, f4_2, f4_3, lc_0, lc_1, rok_i, rok_b, fput_1, fput_2, csum_nil, csum_i, csum_l, csum_r, va_up_self, bx_uu, Int.reduceAdd, List.elem_nil, List.elem_cons, List.take_succ_cons, List.take_zero, List.drop_succ_cons, List.drop_zero, List.take_nil, List.drop_nil, List.reverse_cons, List.reverse_nil, List.nil_append, List.cons_append, List.append_nil, Option.toList_some, Option.toList_none, List.getElem?_cons_zero, List.getElem?_cons_succ, List.set_cons_zero, List.set_cons_succ, List.length_cons, List.length_nil, reduceIte, reduceCtorEq, and_true, true_and, and_self, or_true, true_or, false_and, and_false, not_true_eq_false, not_false_eq_true, true_implies, false_implies, implies_true, Nat.reduceAdd, Nat.reduceLT, Nat.reduceEqDiff, Nat.reduceLeDiff, Nat.reduceBEq, Nat.zero_add, Nat.lt_add_one, Bool.false_eq_true, Bool.or_false, Bool.or_true, Bool.or_self, Nat.zero_ne_one, Nat.one_ne_zero, ite_true, ite_false, ne_eq, Nat.reduceSub, Nat.succ_eq_add_one, Nat.zero_lt_succ, Nat.add_one_ne_zero, false_or, or_false, mX0_passDays_c, mX0_passDays_n, mX0_passDays_r, mX0_passDays_l, dX0_passDays_0, ic_0, dX0_passDays_1, dX0_passDays_2, dX0_passDays_3, dX0_passDays_4, tg_4_13, cnd2_ge, dX0_passDays_7, dX0_passDays_8, dX0_passDays_11, ic_1, dX0_passDays_14, tg_14_m12, dX0_passDays_17, jX0_passDays_0_83, st_aload_n, st_goto, st_iconst, st_if_icmp, st_iinc, st_iload_n, st_invokevirtual, st_istore_n, st_return]
      refine ⟨(a, aw, ak, ad), s', rfl, hw', hc', ?_⟩
      refine yvc_ok (uX0_passDays Γ) (S := [2]) 40 _ _ _ _ ?_
      simp only [nI_1, cset_cset, yvc_s, s1i, s2i, s1l, s2l, sil, s1r, sir, siir, slir, srir, svr, sd1, sd2, lg, lput, ldel, isL_i, isL_r, isL_l, jmp, obj, obj1, fI, fR, arI, arL, arR, hput, f4_0, f4_1, f4_2, f4_3, lc_0, lc_1, rok_i, rok_b, fput_1, fput_2, csum_nil, csum_i, csum_l, csum_r, va_up_self, bx_uu, Int.reduceAdd, List.elem_nil, List.elem_cons, List.take_succ_cons, List.take_zero, List.drop_succ_cons, List.drop_zero, List.take_nil, List.drop_nil, List.reverse_cons, List.reverse_nil, List.nil_append, List.cons_append, List.append_nil, Option.toList_some, Option.toList_none, List.getElem?_cons_zero, List.getElem?_cons_succ, List.set_cons_zero, List.set_cons_succ, List.length_cons, List.length_nil, reduceIte, reduceCtorEq, and_true, true_and, and_self, or_true, true_or, false_and, and_false, not_true_eq_false, not_false_eq_true, true_implies, false_implies, implies_true, Nat.reduceAdd, Nat.reduceLT, Nat.reduceEqDiff, Nat.reduceLeDiff, Nat.reduceBEq, Nat.zero_add, Nat.lt_add_one, Bool.false_eq_true, Bool.or_false, Bool.or_true, Bool.or_self, Nat.zero_ne_one, Nat.one_ne_zero, ite_true, ite_false, ne_eq, Nat.reduceSub, Nat.succ_eq_add_one, Nat.zero_lt_succ, Nat.add_one_ne_zero, false_or, or_false, mX0_passDays_c, mX0_passDays_n, mX0_passDays_r, mX0_passDays_l, dX0_passDays_0, ic_0, dX0_passDays_1, dX0_passDays_2, dX0_passDays_3, dX0_passDays_4, tg_4_13, cnd2_ge, dX0_passDays_7, dX0_passDays_8, dX0_passDays_11, ic_1, dX0_passDays_14, tg_14_m12, dX0_passDays_17, jX0_passDays_0_83, st_aload_n, st_goto, st_iconst, st_if_icmp, st_iinc, st_iload_n, st_invokevirtual, st_istore_n, st_return]
      exact hj1
  refine ⟨Nat.le_of_ble_eq_true rfl, yvc_ok (uX0_passDays Γ) (S := [2]) 40 _ _ _ _ ?_⟩
  simp only [lv_args, Value.category, yvc_s, s1i, s2i, s1l, s2l, sil, s1r, sir, siir, slir, srir, svr, sd1, sd2, lg, lput, ldel, isL_i, isL_r, isL_l, jmp, obj, obj1, fI, fR, arI, arL, arR, hput, f4_0, f4_1, f4_2, f4_3, lc_0, lc_1, rok_i, rok_b, fput_1, fput_2, csum_nil, csum_i, csum_l, csum_r, va_up_self, bx_uu, Int.reduceAdd, List.elem_nil, List.elem_cons, List.take_succ_cons, List.take_zero, List.drop_succ_cons, List.drop_zero, List.take_nil, List.drop_nil, List.reverse_cons, List.reverse_nil, List.nil_append, List.cons_append, List.append_nil, Option.toList_some, Option.toList_none, List.getElem?_cons_zero, List.getElem?_cons_succ, List.set_cons_zero, List.set_cons_succ, List.length_cons, List.length_nil, reduceIte, reduceCtorEq, and_true, true_and, and_self, or_true, true_or, false_and, and_false, not_true_eq_false, not_false_eq_true, true_implies, false_implies, implies_true, Nat.reduceAdd, Nat.reduceLT, Nat.reduceEqDiff, Nat.reduceLeDiff, Nat.reduceBEq, Nat.zero_add, Nat.lt_add_one, Bool.false_eq_true, Bool.or_false, Bool.or_true, Bool.or_self, Nat.zero_ne_one, Nat.one_ne_zero, ite_true, ite_false, ne_eq, Nat.reduceSub, Nat.succ_eq_add_one, Nat.zero_lt_succ, Nat.add_one_ne_zero, false_or, or_false, mX0_passDays_c, mX0_passDays_n, mX0_passDays_r, mX0_passDays_l, dX0_passDays_0, ic_0, dX0_passDays_1, dX0_passDays_2, dX0_passDays_3, dX0_passDays_4, tg_4_13, cnd2_ge, dX0_passDays_7, dX0_passDays_8, dX0_passDays_11, ic_1, dX0_passDays_14, tg_14_m12, dX0_passDays_17, jX0_passDays_0_83, st_aload_n, st_goto, st_iconst, st_if_icmp, st_iinc, st_iload_n, st_invokevirtual, st_istore_n, st_return]
  have hl := loop N 0 (by omega)
  rw [show daysC s 0 = s from rfl, hc.self] at hl
  exact hl
def gbit (g d : Int32) : Bool := !decide ((g >>> (d &&& 31)) &&& 1 = 0)
def sp_X0_wasGone (_ : Cx) : YSp := fun av σ K => match av with | [.ref a, .int d] => obj1 σ a 0 fun fs => fI fs 8 fun g => K (some (.int (bI (gbit g d)))) σ | _ => False
theorem mono_X0_wasGone {Γ : Cx} : Mono (sp_X0_wasGone Γ) := by
  intro av σ K K' hk h
  unfold sp_X0_wasGone at h ⊢
  split at h
  · exact obj1_mono (fun _ h => fI_mono (fun _ h => hk _ _ h) h) h
  · exact h.elim
theorem rv_X0_wasGone {Γ : Cx} : Recv (sp_X0_wasGone Γ) 1 0 := by
  intro av σ K h
  unfold sp_X0_wasGone at h
  split at h
  · obtain ⟨fs, h1, h2, -⟩ := obj1_recv h
    exact ⟨_, _, fs, rfl, rfl, h1, h2⟩
  · exact h.elim
theorem tg_12_4 : tgo 12 4 = some 16 := by decide
def mX0_wasGone : Mt := (⟨0, 0, 0, 0⟩, RX0, cX0_wasGone, 2, some .boolean, (0, 0), false)
theorem mX0_wasGone_c : mX0_wasGone.2.2.1 = cX0_wasGone := rfl
theorem mX0_wasGone_n : mX0_wasGone.2.2.2.1 = 2 := rfl
theorem mX0_wasGone_r : mX0_wasGone.2.2.2.2.1 = some .boolean := rfl
theorem mX0_wasGone_l : mX0_wasGone.2.2.2.2.2.2 = false := rfl
def jX0_wasGone (Γ : Cx) : List ((Nat × Nat) × Nat × Bool × YSp) := []
theorem uX0_wasGone (Γ : Cx) : TbOK Γ mX0_wasGone (fT fX0, cT kX0, kT (jX0_wasGone Γ)) := tb_ok fX0_ok kX0_ok (all_nil)
set_option maxRecDepth 20000 in
theorem ok_X0_wasGone (Γ : Cx) : Ok Γ yX0_wasGone mX0_wasGone (sp_X0_wasGone Γ) := by
  refine ok_intro (by decide +kernel) rfl rfl ?_
  intro av σ K h
  unfold sp_X0_wasGone at h
  split at h
  · next a d =>
    obtain ⟨fs, h1, h2, h⟩ := obj1_recv h
    obtain ⟨g, h3, h⟩ := fI_recv h
    refine ⟨Nat.le_of_ble_eq_true rfl, yvc_ok (uX0_wasGone Γ) (S := []) 40 _ _ _ _ ?_⟩
    simp only [lv_args, Value.category, h1, h2, h3, yvc_s, s1i, s2i, s1l, s2l, sil, s1r, sir, siir, slir, srir, svr, sd1, sd2, lg, lput, ldel, isL_i, isL_r, isL_l, jmp, obj, obj1, fI, fR, arI, arL, arR, hput, f4_0, f4_1, f4_2, f4_3, lc_0, lc_1, rok_i, rok_b, fput_1, fput_2, csum_nil, csum_i, csum_l, csum_r, va_up_self, bx_uu, Int.reduceAdd, List.elem_nil, List.elem_cons, List.take_succ_cons, List.take_zero, List.drop_succ_cons, List.drop_zero, List.take_nil, List.drop_nil, List.reverse_cons, List.reverse_nil, List.nil_append, List.cons_append, List.append_nil, Option.toList_some, Option.toList_none, List.getElem?_cons_zero, List.getElem?_cons_succ, List.set_cons_zero, List.set_cons_succ, List.length_cons, List.length_nil, reduceIte, reduceCtorEq, and_true, true_and, and_self, or_true, true_or, false_and, and_false, not_true_eq_false, not_false_eq_true, true_implies, false_implies, implies_true, Nat.reduceAdd, Nat.reduceLT, Nat.reduceEqDiff, Nat.reduceLeDiff, Nat.reduceBEq, Nat.zero_add, Nat.lt_add_one, Bool.false_eq_true, Bool.or_false, Bool.or_true, Bool.or_self, Nat.zero_ne_one, Nat.one_ne_zero, ite_true, ite_false, ne_eq, Nat.reduceSub, Nat.succ_eq_add_one, Nat.zero_lt_succ, Nat.add_one_ne_zero, false_or, or_false, mX0_wasGone_c, mX0_wasGone_n, mX0_wasGone_r, mX0_wasGone_l, dX0_wasGone_0, dX0_wasGone_1, fl_0_22_0, dX0_wasGone_4, dX0_wasGone_5, dX0_wasGone_6, ic_1, dX0_wasGone_7, dX0_wasGone_8, tg_8_7, cnd1_eq, dX0_wasGone_11, dX0_wasGone_12, tg_12_4, dX0_wasGone_15, ic_0, dX0_wasGone_16, st_aload_n, st_getfield, st_goto, st_iand, st_iconst, st_ifCond, st_iload_n, st_ireturn, st_ishr]
    refine ⟨fun c => ?_, fun c => ?_⟩
    · rw [show gbit g d = false by simp [gbit, c]] at h
      exact h
    · rw [show gbit g d = true by simp [gbit, c]] at h
      exact h
  · exact h.elim
def fgC (d : Int32) : Nat → Nat → CS → Int32 × CS
  | 0, _, s => (-4, s)
  | n + 1, i, s => if gbit (dayC s).2.2.2.2.2.2.2.2 d = true then (nI i, dayC s) else fgC d n (i + 1) (dayC s)
def sp_X0_firstGone (Γ : Cx) : YSp := fun av σ K => ∃ (A : CA) (s : CS) (d : Int32) (n : Nat), av = [.ref A.1, .int d, .int (nI n)] ∧ n < 100 ∧ WfC s ∧ Col Γ A s σ ∧ K (some (.int (fgC d n 1 s).1)) (cset Γ A (fgC d n 1 s).2 σ)
theorem rv_X0_firstGone {Γ : Cx} : Recv (sp_X0_firstGone Γ) 2 0 := by
  intro av σ K h
  obtain ⟨A, s, d, n, rfl, -, -, hc, -⟩ := h
  obtain ⟨fs, h1, h2⟩ := col_rv hc
  exact ⟨_, _, fs, rfl, rfl, h1, h2⟩
theorem gtN {j n : Nat} (h : j < n) (hn : n < 101) : nI j < nI n := nI_lt h (by omega)
theorem ngtN {j n : Nat} (h : j ≤ n) (hn : n < 101) : ¬ nI n < nI j := nI_nlt h (by omega)
theorem bw_581 : Cond.code yX0_wasGone cX0_wasGone 2 (some .boolean) ∈ BW := bw_i 581 (by decide +kernel) (by decide +kernel)
theorem no_X0_wasGone : NameOK yX0_wasGone 1 := by unfold NameOK; decide +kernel
theorem bw_578 : Cond.methodLink RX0 102 yX0_wasGone ∈ BW := bw_i 578 (by decide +kernel) (by decide +kernel)
theorem bw_579 : Cond.instanceMethod yX0_wasGone ∈ BW := bw_i 579 (by decide +kernel) (by decide +kernel)
theorem bw_580 : Cond.selects RX0 yX0_wasGone yX0_wasGone ∈ BW := bw_i 580 (by decide +kernel) (by decide +kernel)
theorem tg_4_23 : tgo 4 23 = some 27 := by decide
theorem tg_16_5 : tgo 16 5 = some 21 := by decide
theorem tg_24_m22 : tgo 24 (-22) = some 2 := by decide
def mX0_firstGone : Mt := (⟨4, 0, 0, 90⟩, RX0, cX0_firstGone, 4, some .int, (0, 0), false)
theorem mX0_firstGone_c : mX0_firstGone.2.2.1 = cX0_firstGone := rfl
theorem mX0_firstGone_n : mX0_firstGone.2.2.2.1 = 4 := rfl
theorem mX0_firstGone_r : mX0_firstGone.2.2.2.2.1 = some .int := rfl
theorem mX0_firstGone_l : mX0_firstGone.2.2.2.2.2.2 = false := rfl
def jX0_firstGone (Γ : Cx) : List ((Nat × Nat) × Nat × Bool × YSp) := [((0, 83), 1, false, sp_X0_passDay Γ), ((0, 102), 2, true, sp_X0_wasGone Γ)]
theorem jX0_firstGone_0_83 (Γ : Cx) : kT (jX0_firstGone Γ) 0 83 = some (1, false, sp_X0_passDay Γ) := rfl
theorem jX0_firstGone_0_102 (Γ : Cx) : kT (jX0_firstGone Γ) 0 102 = some (2, true, sp_X0_wasGone Γ) := rfl
theorem uX0_firstGone (Γ : Cx) : TbOK Γ mX0_firstGone (fT fX0, cT kX0, kT (jX0_firstGone Γ)) := tb_ok fX0_ok kX0_ok (all_cons ⟨call_V (n := 0) (T := TX0) (N := 9) (ok_X0_passDay Γ) (rv_X0_passDay (Γ := Γ)) rfl bw_517 bw_561 bw_515 bw_516 bw_44 no_X0_passDay ⟨⟨rfl, rfl⟩, ⟨by decide, by decide⟩, ⟨by decide, by decide⟩⟩, fun z => by cases z⟩ (all_cons ⟨call_V (n := 1) (T := TX0) (N := 9) (ok_X0_wasGone Γ) (rv_X0_wasGone (Γ := Γ)) rfl bw_581 bw_578 bw_579 bw_580 bw_44 no_X0_wasGone ⟨⟨rfl, rfl⟩, ⟨by decide, by decide⟩, ⟨by decide, by decide⟩⟩, fun _ => mono_X0_wasGone (Γ := Γ)⟩ (all_nil)))
set_option maxRecDepth 20000 in
theorem ok_X0_firstGone (Γ : Cx) : Ok Γ yX0_firstGone mX0_firstGone (sp_X0_firstGone Γ) := by
  refine ok_intro (by decide +kernel) rfl rfl ?_
  intro av σ K h
  obtain ⟨⟨a, aw, ak, ad⟩, s, d, N, rfl, hN, hw, hc, h⟩ := h
  have loop : ∀ n i : Nat, ∀ t : CS, WfC t → i + n = N + 1 → K (some (.int (fgC d n i t).1)) (cset Γ (a, aw, ak, ad) (fgC d n i t).2 σ) → YG Γ mX0_firstGone K 2 [(0, .ref a), (1, .int d), (2, .int (nI N)), (3, .int (nI i))] [] (cset Γ (a, aw, ak, ad) t σ) := by
    intro n
    induction n with
    | zero =>
      intro i t ht hi hk
      obtain rfl : i = N + 1 := by omega
      have c1 := gtN (show N < N + 1 by omega) (by omega)
      refine yvc1_ok (uX0_firstGone Γ) (S := [2]) 40 ?_
      simp only [yvc1, c1, yvc_s, s1i, s2i, s1l, s2l, sil, s1r, sir, siir, slir, srir, svr, sd1, sd2, lg, lput, ldel, isL_i, isL_r, isL_l, jmp, obj, obj1, fI, fR, arI, arL, arR, hput, f4_0, f4_1, f4_2, f4_3, lc_0, lc_1, rok_i, rok_b, fput_1, fput_2, csum_nil, csum_i, csum_l, csum_r, va_up_self, bx_uu, Int.reduceAdd, List.elem_nil, List.elem_cons, List.take_succ_cons, List.take_zero, List.drop_succ_cons, List.drop_zero, List.take_nil, List.drop_nil, List.reverse_cons, List.reverse_nil, List.nil_append, List.cons_append, List.append_nil, Option.toList_some, Option.toList_none, List.getElem?_cons_zero, List.getElem?_cons_succ, List.set_cons_zero, List.set_cons_succ, List.length_cons, List.length_nil, reduceIte, reduceCtorEq, and_true, true_and, and_self, or_true, true_or, false_and, and_false, not_true_eq_false, not_false_eq_true, true_implies, false_implies, implies_true, Nat.reduceAdd, Nat.reduceLT, Nat.reduceEqDiff, Nat.reduceLeDiff, Nat.reduceBEq, Nat.zero_add, Nat.lt_add_one, Bool.false_eq_true, Bool.or_false, Bool.or_true, Bool.or_self, Nat.zero_ne_one, Nat.one_ne_zero, ite_true, ite_false, ne_eq, Nat.reduceSub, Nat.succ_eq_add_one, Nat.zero_lt_succ, Nat.add_one_ne_zero, false_or, or_false, mX0_firstGone_c, mX0_firstGone_n, mX0_firstGone_r, mX0_firstGone_l, dX0_firstGone_0, ic_1, dX0_firstGone_1, dX0_firstGone_2, dX0_firstGone_3, dX0_firstGone_4, tg_4_23, cnd2_gt, dX0_firstGone_7, dX0_firstGone_8, dX0_firstGone_11, dX0_firstGone_12, dX0_firstGone_13, dX0_firstGone_16, tg_16_5, cnd1_eq, dX0_firstGone_19, dX0_firstGone_20, dX0_firstGone_21, dX0_firstGone_24, tg_24_m22, dX0_firstGone_27, bc_m4, dX0_firstGone_29, jX0_firstGone_0_83, jX0_firstGone_0_102, st_aload_n, st_bipush, st_goto, st_iconst, st_ifCond, st_if_icmp, st_iinc, st_iload_n, st_invokevirtual, st_ireturn, st_istore_n]
      exact hk
    | succ n ih =>
      intro i t ht hi hk
      have c1 := ngtN (show i ≤ N by omega) (by omega)
      have hw' := (dayC_wf ht).1
      have hc' := hc.set t
      have hc2 := hc.set (dayC t)
      rw [fgC] at hk
      refine yvc1_ok (uX0_firstGone Γ) (S := [2]) 40 ?_
      simp only [yvc1, c1, yvc_s, s1i, s2i, s1l, s2l, sil, s1r, sir, siir, slir, srir, svr, sd1, sd2, lg, lput, ldel, isL_i, isL_r, isL_l, jmp, obj, obj1, fI, fR, arI, arL, arR, hput, f4_0, f4_1, f4_2, f4_3, lc_0, lc_1, rok_i, rok_b, fput_1, fput_2, csum_nil, csum_i, csum_l, csum_r, va_up_self, bx_uu, Int.reduceAdd, List.elem_nil, List.elem_cons, List.take_succ_cons, List.take_zero, List.drop_succ_cons, List.drop_zero, List.take_nil, List.drop_nil, List.reverse_cons, List.reverse_nil, List.nil_append, List.cons_append, List.append_nil, Option.toList_some, Option.toList_none, List.getElem?_cons_zero, List.getElem?_cons_succ, List.set_cons_zero, List.set_cons_succ, List.length_cons, List.length_nil, reduceIte, reduceCtorEq, and_true, true_and, and_self, or_true, true_or, false_and, and_false, not_true_eq_false, not_false_eq_true, true_implies, false_implies, implies_true, Nat.reduceAdd, Nat.reduceLT, Nat.reduceEqDiff, Nat.reduceLeDiff, Nat.reduceBEq, Nat.zero_add, Nat.lt_add_one, Bool.false_eq_true, Bool.or_false, Bool.or_true, Bool.or_self, Nat.zero_ne_one, Nat.one_ne_zero, ite_true, ite_false, ne_eq, Nat.reduceSub, Nat.succ_eq_add_one, Nat.zero_lt_succ, Nat.add_one_ne_zero, false_or, or_false, mX0_firstGone_c, mX0_firstGone_n, mX0_firstGone_r, mX0_firstGone_l, dX0_firstGone_0, ic_1, dX0_firstGone_1, dX0_firstGone_2, dX0_firstGone_3, dX0_firstGone_4, tg_4_23, cnd2_gt, dX0_firstGone_7, dX0_firstGone_8, dX0_firstGone_11, dX0_firstGone_12, dX0_firstGone_13, dX0_firstGone_16, tg_16_5, cnd1_eq, dX0_firstGone_19, dX0_firstGone_20, dX0_firstGone_21, dX0_firstGone_24, tg_24_m22, dX0_firstGone_27, bc_m4, dX0_firstGone_29, jX0_firstGone_0_83, jX0_firstGone_0_102, st_aload_n, st_bipush, st_goto, st_iconst, st_ifCond, st_if_icmp, st_iinc, st_iload_n, st_invokevirtual, st_ireturn, st_istore_n]
      refine ⟨(a, aw, ak, ad), t, rfl, ht, hc', ?_⟩
      rw [cset_cset]
      generalize dayC t = s' at hc2 hw' hk ⊢
      obtain ⟨w, kp, kd, day, gone, draw, P, rule, gd⟩ := s'
      obtain ⟨⟨m1, m2, m3, m4⟩, e1, e2, e3, e4⟩ := hc2
      simp only [ColE, iA] at e1 e2 e3 e4 m1 m2 m3 m4 hk
      refine yvc_ok (uX0_firstGone Γ) (S := [2]) 40 _ _ _ _ ?_
      simp only [nI_1, sp_X0_wasGone, m1, e1, bI_eq0, Bool.not_eq_false, yvc_s, s1i, s2i, s1l, s2l, sil, s1r, sir, siir, slir, srir, svr, sd1, sd2, lg, lput, ldel, isL_i, isL_r, isL_l, jmp, obj, obj1, fI, fR, arI, arL, arR, hput, f4_0, f4_1, f4_2, f4_3, lc_0, lc_1, rok_i, rok_b, fput_1, fput_2, csum_nil, csum_i, csum_l, csum_r, va_up_self, bx_uu, Int.reduceAdd, List.elem_nil, List.elem_cons, List.take_succ_cons, List.take_zero, List.drop_succ_cons, List.drop_zero, List.take_nil, List.drop_nil, List.reverse_cons, List.reverse_nil, List.nil_append, List.cons_append, List.append_nil, Option.toList_some, Option.toList_none, List.getElem?_cons_zero, List.getElem?_cons_succ, List.set_cons_zero, List.set_cons_succ, List.length_cons, List.length_nil, reduceIte, reduceCtorEq, and_true, true_and, and_self, or_true, true_or, false_and, and_false, not_true_eq_false, not_false_eq_true, true_implies, false_implies, implies_true, Nat.reduceAdd, Nat.reduceLT, Nat.reduceEqDiff, Nat.reduceLeDiff, Nat.reduceBEq, Nat.zero_add, Nat.lt_add_one, Bool.false_eq_true, Bool.or_false, Bool.or_true, Bool.or_self, Nat.zero_ne_one, Nat.one_ne_zero, ite_true, ite_false, ne_eq, Nat.reduceSub, Nat.succ_eq_add_one, Nat.zero_lt_succ, Nat.add_one_ne_zero, false_or, or_false, mX0_firstGone_c, mX0_firstGone_n, mX0_firstGone_r, mX0_firstGone_l, dX0_firstGone_0, ic_1, dX0_firstGone_1, dX0_firstGone_2, dX0_firstGone_3, dX0_firstGone_4, tg_4_23, cnd2_gt, dX0_firstGone_7, dX0_firstGone_8, dX0_firstGone_11, dX0_firstGone_12, dX0_firstGone_13, dX0_firstGone_16, tg_16_5, cnd1_eq, dX0_firstGone_19, dX0_firstGone_20, dX0_firstGone_21, dX0_firstGone_24, tg_24_m22, dX0_firstGone_27, bc_m4, dX0_firstGone_29, jX0_firstGone_0_83, jX0_firstGone_0_102, st_aload_n, st_bipush, st_goto, st_iconst, st_ifCond, st_if_icmp, st_iinc, st_iload_n, st_invokevirtual, st_ireturn, st_istore_n]
      refine ⟨fun c => ?_, fun c => ?_⟩
      · rw [if_neg (by rw [c]; decide)] at hk
        exact ih (i + 1) _ hw' (by omega) hk
      · rw [if_pos c] at hk
        exact hk
  refine ⟨Nat.le_of_ble_eq_true rfl, yvc_ok (uX0_firstGone Γ) (S := [2]) 40 _ _ _ _ ?_⟩
  simp only [lv_args, Value.category, yvc_s, s1i, s2i, s1l, s2l, sil, s1r, sir, siir, slir, srir, svr, sd1, sd2, lg, lput, ldel, isL_i, isL_r, isL_l, jmp, obj, obj1, fI, fR, arI, arL, arR, hput, f4_0, f4_1, f4_2, f4_3, lc_0, lc_1, rok_i, rok_b, fput_1, fput_2, csum_nil, csum_i, csum_l, csum_r, va_up_self, bx_uu, Int.reduceAdd, List.elem_nil, List.elem_cons, List.take_succ_cons, List.take_zero, List.drop_succ_cons, List.drop_zero, List.take_nil, List.drop_nil, List.reverse_cons, List.reverse_nil, List.nil_append, List.cons_append, List.append_nil, Option.toList_some, Option.toList_none, List.getElem?_cons_zero, List.getElem?_cons_succ, List.set_cons_zero, List.set_cons_succ, List.length_cons, List.length_nil, reduceIte, reduceCtorEq, and_true, true_and, and_self, or_true, true_or, false_and, and_false, not_true_eq_false, not_false_eq_true, true_implies, false_implies, implies_true, Nat.reduceAdd, Nat.reduceLT, Nat.reduceEqDiff, Nat.reduceLeDiff, Nat.reduceBEq, Nat.zero_add, Nat.lt_add_one, Bool.false_eq_true, Bool.or_false, Bool.or_true, Bool.or_self, Nat.zero_ne_one, Nat.one_ne_zero, ite_true, ite_false, ne_eq, Nat.reduceSub, Nat.succ_eq_add_one, Nat.zero_lt_succ, Nat.add_one_ne_zero, false_or, or_false, mX0_firstGone_c, mX0_firstGone_n, mX0_firstGone_r, mX0_firstGone_l, dX0_firstGone_0, ic_1, dX0_firstGone_1, dX0_firstGone_2, dX0_firstGone_3, dX0_firstGone_4, tg_4_23, cnd2_gt, dX0_firstGone_7, dX0_firstGone_8, dX0_firstGone_11, dX0_firstGone_12, dX0_firstGone_13, dX0_firstGone_16, tg_16_5, cnd1_eq, dX0_firstGone_19, dX0_firstGone_20, dX0_firstGone_21, dX0_firstGone_24, tg_24_m22, dX0_firstGone_27, bc_m4, dX0_firstGone_29, jX0_firstGone_0_83, jX0_firstGone_0_102, st_aload_n, st_bipush, st_goto, st_iconst, st_ifCond, st_if_icmp, st_iinc, st_iload_n, st_invokevirtual, st_ireturn, st_istore_n]
  have hl := loop N 1 s hw (by omega) h
  rw [hc.self] at hl
  exact hl
end
section
/-! ===== College: the draw, joining, becoming another ===== -/
/-- Java's remainder -/
def jr (x y : Int32) : Int32 := x - x / y * y
def dr (x : Int32) : Int32 := ((x.toInt64 * 1103515245 + 12345) &&& 2147483647).toInt32
theorem dr_n (x : Int32) : ∃ D : Nat, D < 2 ^ 31 ∧ dr x = nI D := by
  refine ⟨(x.toInt64 * 1103515245 + 12345).toBitVec.toNat % 2 ^ 31, Nat.mod_lt _ (by decide), ?_⟩
  unfold dr
  generalize x.toInt64 * 1103515245 + 12345 = v
  rw [← lN_i]
  congr 1
  apply Int64.toBitVec_inj.mp
  apply BitVec.eq_of_toNat_eq
  rw [Int64.toBitVec_and, BitVec.toNat_and, show (2147483647 : Int64).toBitVec.toNat = 2 ^ 31 - 1 by decide, Nat.and_two_pow_sub_one_eq_mod]
  show _ = (BitVec.ofNat 64 _).toNat
  rw [BitVec.toNat_ofNat]
  exact (Nat.mod_eq_of_lt (by have := Nat.mod_lt v.toBitVec.toNat (show 0 < 2 ^ 31 by decide); omega)).symm
theorem jr_def {x y : Int32} : x - x / y * y = jr x y := rfl
theorem dr_def {x : Int32} : ((x.toInt64 * 1103515245 + 12345) &&& 2147483647).toInt32 = dr x := rfl
def dtW (w : Nat → Int32) (x : Int32) (P : Nat) : Nat → Int32 := if P = 0 then w else wmore w (jr (x / 65536) (nI P)) (jr (x / 256) 4) (jr (x / 1024) 4)
def dtC (s : CS) : CS := (dtW s.1 (dr s.2.2.2.2.2.1) s.2.2.2.2.2.2.1, s.2.1, s.2.2.1, s.2.2.2.1, s.2.2.2.2.1, dr s.2.2.2.2.2.1, s.2.2.2.2.2.2)
theorem jr_n {a d : Nat} (ha : a < 2 ^ 31) (h0 : 0 < d) (hd : d < 2 ^ 31) : jr (nI a) (nI d) = nI (a % d) := pk_rem ha h0 hd
theorem dt_p {x : Int32} {P : Nat} (hP : 0 < P) (h5 : P ≤ 5) : ∃ q, q < P ∧ jr (dr x / 65536) (nI P) = nI q := by
  obtain ⟨D, hD, e⟩ := dr_n x
  refine ⟨D / 65536 % P, Nat.mod_lt _ hP, ?_⟩
  rw [e, show (65536 : Int32) = nI 65536 from rfl, pk_div hD (by decide) (by decide), jr_n (by omega) hP (by omega)]
theorem dt_d {x : Int32} : ∃ q, q < 4 ∧ jr (dr x / 256) 4 = nI q := by
  obtain ⟨D, hD, e⟩ := dr_n x
  refine ⟨D / 256 % 4, Nat.mod_lt _ (by decide), ?_⟩
  rw [e, show (256 : Int32) = nI 256 from rfl, pk_div hD (by decide) (by decide), show (4 : Int32) = nI 4 from rfl, jr_n (by omega) (by decide) (by decide)]
theorem dtC_wf {s : CS} (h : WfC s) : WfC (dtC s) ∧ (dtC s).2.2.2.2.2.2.1 = s.2.2.2.2.2.2.1 := by
  obtain ⟨w, kp, kd, day, gone, draw, P, rule, gd⟩ := s
  refine ⟨?_, ?_⟩
  · have h' : P ≤ 5 ∧ ∀ d, d < 4 → kp d = -4 ∨ ∃ q, q < P ∧ kp d = nI q := h
    show P ≤ 5 ∧ ∀ d, d < 4 → kp d = -4 ∨ ∃ q, q < P ∧ kp d = nI q
    exact h'
  · show P = P
    rfl
def sp_X0_drawTalk (Γ : Cx) : YSp := fun av σ K => ∃ (A : CA) (s : CS), av = [.ref A.1] ∧ WfC s ∧ Col Γ A s σ ∧ K none (cset Γ A (dtC s) σ)
theorem rv_X0_drawTalk {Γ : Cx} : Recv (sp_X0_drawTalk Γ) 0 0 := by
  intro av σ K h
  obtain ⟨A, s, rfl, -, hc, -⟩ := h
  obtain ⟨fs, h1, h2⟩ := col_rv hc
  exact ⟨_, _, fs, rfl, rfl, h1, h2⟩
theorem i64k : ¬ (65536 : Int32) = 0 := by decide
theorem i256 : ¬ (256 : Int32) = 0 := by decide
theorem i1024 : ¬ (1024 : Int32) = 0 := by decide
theorem nI0 : nI 0 = 0 := nI_0
theorem tg_26_39 : tgo 26 39 = some 65 := by decide
theorem sc_256 : (Int16.ofInt 256).toInt32 = 256 := by decide
theorem sc_1024 : (Int16.ofInt 1024).toInt32 = 1024 := by decide
def mX0_drawTalk : Mt := (⟨2, 0, 0, 46⟩, RX0, cX0_drawTalk, 1, none, (0, 0), false)
theorem mX0_drawTalk_c : mX0_drawTalk.2.2.1 = cX0_drawTalk := rfl
theorem mX0_drawTalk_n : mX0_drawTalk.2.2.2.1 = 1 := rfl
theorem mX0_drawTalk_r : mX0_drawTalk.2.2.2.2.1 = none := rfl
theorem mX0_drawTalk_l : mX0_drawTalk.2.2.2.2.2.2 = false := rfl
def jX0_drawTalk (Γ : Cx) : List ((Nat × Nat) × Nat × Bool × YSp) := [((0, 89), 4, false, sp_X0_wantMore Γ)]
theorem jX0_drawTalk_0_89 (Γ : Cx) : kT (jX0_drawTalk Γ) 0 89 = some (4, false, sp_X0_wantMore Γ) := rfl
theorem uX0_drawTalk (Γ : Cx) : TbOK Γ mX0_drawTalk (fT fX0, cT kX0, kT (jX0_drawTalk Γ)) := tb_ok fX0_ok kX0_ok (all_cons ⟨call_V (n := 3) (T := TX0) (N := 9) (ok_X0_wantMore Γ) (rv_X0_wantMore (Γ := Γ)) rfl bw_512 bw_509 bw_510 bw_511 bw_44 no_X0_wantMore ⟨⟨rfl, rfl⟩, ⟨by decide, by decide⟩, ⟨by decide, by decide⟩⟩, fun z => by cases z⟩ (all_nil))
set_option maxRecDepth 20000 in
theorem ok_X0_drawTalk (Γ : Cx) : Ok Γ yX0_drawTalk mX0_drawTalk (sp_X0_drawTalk Γ) := by
  refine ok_intro (by decide +kernel) rfl rfl ?_
  intro av σ K h
  obtain ⟨⟨a, aw, ak, ad⟩, ⟨w, kp, kd, day, gone, draw, P, rule, gd⟩, rfl, hw, hc, h⟩ := h
  have hP := hw.1
  simp only at hP
  have hc1 := hc.set (w, kp, kd, day, gone, dr draw, P, rule, gd)
  have hp := hc.put (w, kp, kd, day, gone, dr draw, P, rule, gd) (show w = w from rfl) (show kp = kp from rfl) (show kd = kd from rfl)
  obtain ⟨⟨m1, m2, m3, m4⟩, e1, e2, e3, e4⟩ := hc
  simp only [ColE, iA, hput] at e1 e2 e3 e4 m1 m2 m3 m4 hp
  refine ⟨Nat.le_of_ble_eq_true rfl, yvc_ok (uX0_drawTalk Γ) (S := []) 60 _ _ _ _ ?_⟩
  simp only [lv_args, Value.category, m1, m2, m3, m4, e1, e2, e3, e4, i64k, i256, i1024, i4ne0, dr_def, jr_def, yvc_s, s1i, s2i, s1l, s2l, sil, s1r, sir, siir, slir, srir, svr, sd1, sd2, lg, lput, ldel, isL_i, isL_r, isL_l, jmp, obj, obj1, fI, fR, arI, arL, arR, hput, f4_0, f4_1, f4_2, f4_3, lc_0, lc_1, rok_i, rok_b, fput_1, fput_2, csum_nil, csum_i, csum_l, csum_r, va_up_self, bx_uu, Int.reduceAdd, List.elem_nil, List.elem_cons, List.take_succ_cons, List.take_zero, List.drop_succ_cons, List.drop_zero, List.take_nil, List.drop_nil, List.reverse_cons, List.reverse_nil, List.nil_append, List.cons_append, List.append_nil, Option.toList_some, Option.toList_none, List.getElem?_cons_zero, List.getElem?_cons_succ, List.set_cons_zero, List.set_cons_succ, List.length_cons, List.length_nil, reduceIte, reduceCtorEq, and_true, true_and, and_self, or_true, true_or, false_and, and_false, not_true_eq_false, not_false_eq_true, true_implies, false_implies, implies_true, Nat.reduceAdd, Nat.reduceLT, Nat.reduceEqDiff, Nat.reduceLeDiff, Nat.reduceBEq, Nat.zero_add, Nat.lt_add_one, Bool.false_eq_true, Bool.or_false, Bool.or_true, Bool.or_self, Nat.zero_ne_one, Nat.one_ne_zero, ite_true, ite_false, ne_eq, Nat.reduceSub, Nat.succ_eq_add_one, Nat.zero_lt_succ, Nat.add_one_ne_zero, false_or, or_false, mX0_drawTalk_c, mX0_drawTalk_n, mX0_drawTalk_r, mX0_drawTalk_l, dX0_drawTalk_0, dX0_drawTalk_1, dX0_drawTalk_2, fl_0_106_0, dX0_drawTalk_5, dX0_drawTalk_6, cl_0_109, dX0_drawTalk_9, dX0_drawTalk_10, cl_0_111, dX0_drawTalk_13, dX0_drawTalk_14, cl_0_113, dX0_drawTalk_17, dX0_drawTalk_18, dX0_drawTalk_19, dX0_drawTalk_22, dX0_drawTalk_23, fl_0_15_0, dX0_drawTalk_26, tg_26_39, cnd1_le, dX0_drawTalk_29, dX0_drawTalk_30, dX0_drawTalk_31, dX0_drawTalk_34, cl_0_115, dX0_drawTalk_36, dX0_drawTalk_37, dX0_drawTalk_38, dX0_drawTalk_41, dX0_drawTalk_42, dX0_drawTalk_43, dX0_drawTalk_46, sc_256, dX0_drawTalk_49, dX0_drawTalk_50, ic_4, dX0_drawTalk_51, dX0_drawTalk_52, dX0_drawTalk_53, dX0_drawTalk_56, sc_1024, dX0_drawTalk_59, dX0_drawTalk_60, dX0_drawTalk_61, dX0_drawTalk_62, dX0_drawTalk_65, jX0_drawTalk_0_89, st_aload_n, st_getfield, st_i2l, st_iconst, st_idiv, st_ifCond, st_invokevirtual, st_irem, st_l2i, st_ladd, st_land, st_ldc, st_ldc2_w, st_lmul, st_putfield, st_return, st_sipush]
  rw [hp]
  simp only [dtC, dtW] at h
  refine ⟨fun c => ?_, fun c => ?_⟩
  · have h0 : P = 0 := by
      rcases Nat.eq_zero_or_pos P with z | z
      · exact z
      · exact absurd c (nI_nle z (by omega))
    rw [if_pos h0] at h
    exact h
  · have h0 : ¬ P = 0 := fun z => c (by rw [z]; decide)
    rw [if_neg h0] at h
    have h1 : ¬ nI P = 0 := nI_ne0 (by omega) (by omega)
    refine ⟨h1, ?_⟩
    obtain ⟨q, hq, f1⟩ := dt_p (x := draw) (show 0 < P by omega) hP
    obtain ⟨r, hr, f2⟩ := dt_d (x := draw)
    refine ⟨(a, aw, ak, ad), (w, kp, kd, day, gone, dr draw, P, rule, gd), _, _, _, rfl, hc1, ?_, ?_⟩
    · rw [f1, f2]
      exact ix_in (by omega) hr
    · refine yvc_ok (uX0_drawTalk Γ) (S := []) 60 _ _ _ _ ?_
      simp only [cset_cset, yvc_s, s1i, s2i, s1l, s2l, sil, s1r, sir, siir, slir, srir, svr, sd1, sd2, lg, lput, ldel, isL_i, isL_r, isL_l, jmp, obj, obj1, fI, fR, arI, arL, arR, hput, f4_0, f4_1, f4_2, f4_3, lc_0, lc_1, rok_i, rok_b, fput_1, fput_2, csum_nil, csum_i, csum_l, csum_r, va_up_self, bx_uu, Int.reduceAdd, List.elem_nil, List.elem_cons, List.take_succ_cons, List.take_zero, List.drop_succ_cons, List.drop_zero, List.take_nil, List.drop_nil, List.reverse_cons, List.reverse_nil, List.nil_append, List.cons_append, List.append_nil, Option.toList_some, Option.toList_none, List.getElem?_cons_zero, List.getElem?_cons_succ, List.set_cons_zero, List.set_cons_succ, List.length_cons, List.length_nil, reduceIte, reduceCtorEq, and_true, true_and, and_self, or_true, true_or, false_and, and_false, not_true_eq_false, not_false_eq_true, true_implies, false_implies, implies_true, Nat.reduceAdd, Nat.reduceLT, Nat.reduceEqDiff, Nat.reduceLeDiff, Nat.reduceBEq, Nat.zero_add, Nat.lt_add_one, Bool.false_eq_true, Bool.or_false, Bool.or_true, Bool.or_self, Nat.zero_ne_one, Nat.one_ne_zero, ite_true, ite_false, ne_eq, Nat.reduceSub, Nat.succ_eq_add_one, Nat.zero_lt_succ, Nat.add_one_ne_zero, false_or, or_false, mX0_drawTalk_c, mX0_drawTalk_n, mX0_drawTalk_r, mX0_drawTalk_l, dX0_drawTalk_0, dX0_drawTalk_1, dX0_drawTalk_2, fl_0_106_0, dX0_drawTalk_5, dX0_drawTalk_6, cl_0_109, dX0_drawTalk_9, dX0_drawTalk_10, cl_0_111, dX0_drawTalk_13, dX0_drawTalk_14, cl_0_113, dX0_drawTalk_17, dX0_drawTalk_18, dX0_drawTalk_19, dX0_drawTalk_22, dX0_drawTalk_23, fl_0_15_0, dX0_drawTalk_26, tg_26_39, cnd1_le, dX0_drawTalk_29, dX0_drawTalk_30, dX0_drawTalk_31, dX0_drawTalk_34, cl_0_115, dX0_drawTalk_36, dX0_drawTalk_37, dX0_drawTalk_38, dX0_drawTalk_41, dX0_drawTalk_42, dX0_drawTalk_43, dX0_drawTalk_46, sc_256, dX0_drawTalk_49, dX0_drawTalk_50, ic_4, dX0_drawTalk_51, dX0_drawTalk_52, dX0_drawTalk_53, dX0_drawTalk_56, sc_1024, dX0_drawTalk_59, dX0_drawTalk_60, dX0_drawTalk_61, dX0_drawTalk_62, dX0_drawTalk_65, jX0_drawTalk_0_89, st_aload_n, st_getfield, st_i2l, st_iconst, st_idiv, st_ifCond, st_invokevirtual, st_irem, st_l2i, st_ladd, st_land, st_ldc, st_ldc2_w, st_lmul, st_putfield, st_return, st_sipush]
      exact h
def jw (w : Nat → Int32) (P : Nat) (v : Int32) : Nat → Nat → Int32
  | 0 => w
  | n + 1 => upd (jw w P v n) (ix (nI P) (nI n)) v
def joinC (s : CS) (kind want : Int32) : CS := (jw s.1 s.2.2.2.2.2.2.1 want 4, s.2.1, upd s.2.2.1 s.2.2.2.2.2.2.1 kind, s.2.2.2.1, s.2.2.2.2.1, s.2.2.2.2.2.1, s.2.2.2.2.2.2.1 + 1, s.2.2.2.2.2.2.2)
def sp_X0_join (Γ : Cx) : YSp := fun av σ K => ∃ (A : CA) (s : CS) (kind want : Int32), av = [.ref A.1, .int kind, .int want] ∧ s.2.2.2.2.2.2.1 < 5 ∧ Col Γ A s σ ∧ K (some (.int (nI s.2.2.2.2.2.2.1))) (cset Γ A (joinC s kind want) σ)
theorem rv_X0_join {Γ : Cx} : Recv (sp_X0_join Γ) 2 0 := by
  intro av σ K h
  obtain ⟨A, s, k, w, rfl, -, hc, -⟩ := h
  obtain ⟨fs, h1, h2⟩ := col_rv hc
  exact ⟨_, _, fs, rfl, rfl, h1, h2⟩
theorem jw_s (w : Nat → Int32) (P : Nat) (v : Int32) (n : Nat) : jw w P v (n + 1) = upd (jw w P v n) (ix (nI P) (nI n)) v := rfl
theorem tg_18_17 : tgo 18 17 = some 35 := by decide
theorem tg_32_m17 : tgo 32 (-17) = some 15 := by decide
def mX0_join : Mt := (⟨1, 0, 0, 23⟩, RX0, cX0_join, 5, some .int, (0, 0), false)
theorem mX0_join_c : mX0_join.2.2.1 = cX0_join := rfl
theorem mX0_join_n : mX0_join.2.2.2.1 = 5 := rfl
theorem mX0_join_r : mX0_join.2.2.2.2.1 = some .int := rfl
theorem mX0_join_l : mX0_join.2.2.2.2.2.2 = false := rfl
def jX0_join (Γ : Cx) : List ((Nat × Nat) × Nat × Bool × YSp) := [((0, 39), 4, false, sp_X0_setWant Γ)]
theorem jX0_join_0_39 (Γ : Cx) : kT (jX0_join Γ) 0 39 = some (4, false, sp_X0_setWant Γ) := rfl
theorem uX0_join (Γ : Cx) : TbOK Γ mX0_join (fT fX0, cT kX0, kT (jX0_join Γ)) := tb_ok fX0_ok kX0_ok (all_cons ⟨call_V (n := 3) (T := TX0) (N := 9) (ok_X0_setWant Γ) (rv_X0_setWant (Γ := Γ)) rfl bw_253 bw_250 bw_251 bw_252 bw_44 no_X0_setWant ⟨⟨rfl, rfl⟩, ⟨by decide, by decide⟩, ⟨by decide, by decide⟩⟩, fun z => by cases z⟩ (all_nil))
set_option maxRecDepth 20000 in
theorem ok_X0_join (Γ : Cx) : Ok Γ yX0_join mX0_join (sp_X0_join Γ) := by
  refine ok_intro (by decide +kernel) rfl rfl ?_
  intro av σ K h
  obtain ⟨⟨a, aw, ak, ad⟩, ⟨w, kp, kd, day, gone, draw, P, rule, gd⟩, kind, want, rfl, hP, hc, h⟩ := h
  simp only at hP
  have loop : ∀ n j : Nat, j + n = 4 → YG Γ mX0_join K 15 [(0, .ref a), (1, .int kind), (2, .int want), (3, .int (nI P)), (4, .int (nI j))] [] (cset Γ (a, aw, ak, ad) (jw w P want j, kp, upd kd P kind, day, gone, draw, P, rule, gd) σ) := by
    intro n
    induction n with
    | zero =>
      intro j hj
      obtain rfl : j = 4 := by omega
      have hc' := hc.set (jw w P want 4, kp, upd kd P kind, day, gone, draw, P, rule, gd)
      have hp := hc'.put (jw w P want 4, kp, upd kd P kind, day, gone, draw, P + 1, rule, gd) rfl rfl rfl
      rw [cset_cset] at hp
      obtain ⟨⟨m1, m2, m3, m4⟩, e1, e2, e3, e4⟩ := hc'
      simp only [ColE, iA] at e1 e2 e3 e4 m1 m2 m3 m4
      have h' : K (some (.int (nI P))) (cset Γ (a, aw, ak, ad) (jw w P want 4, kp, upd kd P kind, day, gone, draw, P + 1, rule, gd) σ) := h
      rw [← hp] at h'
      refine yvc1_ok (uX0_join Γ) (S := [15]) 40 ?_
      simp only [yvc1, ge4, m1, e1, nI_1, yvc_s, s1i, s2i, s1l, s2l, sil, s1r, sir, siir, slir, srir, svr, sd1, sd2, lg, lput, ldel, isL_i, isL_r, isL_l, jmp, obj, obj1, fI, fR, arI, arL, arR, hput, f4_0, f4_1, f4_2, f4_3, lc_0, lc_1, rok_i, rok_b, fput_1, fput_2, csum_nil, csum_i, csum_l, csum_r, va_up_self, bx_uu, Int.reduceAdd, List.elem_nil, List.elem_cons, List.take_succ_cons, List.take_zero, List.drop_succ_cons, List.drop_zero, List.take_nil, List.drop_nil, List.reverse_cons, List.reverse_nil, List.nil_append, List.cons_append, List.append_nil, Option.toList_some, Option.toList_none, List.getElem?_cons_zero, List.getElem?_cons_succ, List.set_cons_zero, List.set_cons_succ, List.length_cons, List.length_nil, reduceIte, reduceCtorEq, and_true, true_and, and_self, or_true, true_or, false_and, and_false, not_true_eq_false, not_false_eq_true, true_implies, false_implies, implies_true, Nat.reduceAdd, Nat.reduceLT, Nat.reduceEqDiff, Nat.reduceLeDiff, Nat.reduceBEq, Nat.zero_add, Nat.lt_add_one, Bool.false_eq_true, Bool.or_false, Bool.or_true, Bool.or_self, Nat.zero_ne_one, Nat.one_ne_zero, ite_true, ite_false, ne_eq, Nat.reduceSub, Nat.succ_eq_add_one, Nat.zero_lt_succ, Nat.add_one_ne_zero, false_or, or_false, mX0_join_c, mX0_join_n, mX0_join_r, mX0_join_l, dX0_join_0, dX0_join_1, fl_0_15_0, dX0_join_4, dX0_join_5, dX0_join_6, fl_0_9_0, dX0_join_9, dX0_join_10, dX0_join_11, dX0_join_12, ic_0, dX0_join_13, dX0_join_15, dX0_join_17, ic_4, dX0_join_18, tg_18_17, cnd2_ge, dX0_join_21, dX0_join_22, dX0_join_23, dX0_join_25, dX0_join_26, dX0_join_29, ic_1, dX0_join_32, tg_32_m17, dX0_join_35, dX0_join_36, dX0_join_37, dX0_join_38, dX0_join_39, dX0_join_42, dX0_join_43, jX0_join_0_39, st_aload_n, st_getfield, st_goto, st_iadd, st_iastore, st_iconst, st_if_icmp, st_iinc, st_iload, st_iload_n, st_invokevirtual, st_ireturn, st_istore, st_istore_n, st_putfield]
      exact h'
    | succ n ih =>
      intro j hj
      obtain ⟨c1, c2, c3⟩ := lt4 (show j < 4 by omega)
      have hj1 := ih (j + 1) (by omega)
      rw [jw_s] at hj1
      have hc' := hc.set (jw w P want j, kp, upd kd P kind, day, gone, draw, P, rule, gd)
      refine yvc1_ok (uX0_join Γ) (S := [15]) 40 ?_
      simp only [yvc1, c1, yvc_s, s1i, s2i, s1l, s2l, sil, s1r, sir, siir, slir, srir, svr, sd1, sd2, lg, lput, ldel, isL_i, isL_r, isL_l, jmp, obj, obj1, fI, fR, arI, arL, arR, hput, f4_0, f4_1, f4_2, f4_3, lc_0, lc_1, rok_i, rok_b, fput_1, fput_2, csum_nil, csum_i, csum_l, csum_r, va_up_self, bx_uu, Int.reduceAdd, List.elem_nil, List.elem_cons, List.take_succ_cons, List.take_zero, List.drop_succ_cons, List.drop_zero, List.take_nil, List.drop_nil, List.reverse_cons, List.reverse_nil, List.nil_append, List.cons_append, List.append_nil, Option.toList_some, Option.toList_none, List.getElem?_cons_zero, List.getElem?_cons_succ, List.set_cons_zero, List.set_cons_succ, List.length_cons, List.length_nil, reduceIte, reduceCtorEq, and_true, true_and, and_self, or_true, true_or, false_and, and_false, not_true_eq_false, not_false_eq_true, true_implies, false_implies, implies_true, Nat.reduceAdd, Nat.reduceLT, Nat.reduceEqDiff, Nat.reduceLeDiff, Nat.reduceBEq, Nat.zero_add, Nat.lt_add_one, Bool.false_eq_true, Bool.or_false, Bool.or_true, Bool.or_self, Nat.zero_ne_one, Nat.one_ne_zero, ite_true, ite_false, ne_eq, Nat.reduceSub, Nat.succ_eq_add_one, Nat.zero_lt_succ, Nat.add_one_ne_zero, false_or, or_false, mX0_join_c, mX0_join_n, mX0_join_r, mX0_join_l, dX0_join_0, dX0_join_1, fl_0_15_0, dX0_join_4, dX0_join_5, dX0_join_6, fl_0_9_0, dX0_join_9, dX0_join_10, dX0_join_11, dX0_join_12, ic_0, dX0_join_13, dX0_join_15, dX0_join_17, ic_4, dX0_join_18, tg_18_17, cnd2_ge, dX0_join_21, dX0_join_22, dX0_join_23, dX0_join_25, dX0_join_26, dX0_join_29, ic_1, dX0_join_32, tg_32_m17, dX0_join_35, dX0_join_36, dX0_join_37, dX0_join_38, dX0_join_39, dX0_join_42, dX0_join_43, jX0_join_0_39, st_aload_n, st_getfield, st_goto, st_iadd, st_iastore, st_iconst, st_if_icmp, st_iinc, st_iload, st_iload_n, st_invokevirtual, st_ireturn, st_istore, st_istore_n, st_putfield]
      refine ⟨(a, aw, ak, ad), _, _, _, _, rfl, hc', ix_in hP (by omega), ?_⟩
      refine yvc_ok (uX0_join Γ) (S := [15]) 40 _ _ _ _ ?_
      simp only [nI_1, cset_cset, yvc_s, s1i, s2i, s1l, s2l, sil, s1r, sir, siir, slir, srir, svr, sd1, sd2, lg, lput, ldel, isL_i, isL_r, isL_l, jmp, obj, obj1, fI, fR, arI, arL, arR, hput, f4_0, f4_1, f4_2, f4_3, lc_0, lc_1, rok_i, rok_b, fput_1, fput_2, csum_nil, csum_i, csum_l, csum_r, va_up_self, bx_uu, Int.reduceAdd, List.elem_nil, List.elem_cons, List.take_succ_cons, List.take_zero, List.drop_succ_cons, List.drop_zero, List.take_nil, List.drop_nil, List.reverse_cons, List.reverse_nil, List.nil_append, List.cons_append, List.append_nil, Option.toList_some, Option.toList_none, List.getElem?_cons_zero, List.getElem?_cons_succ, List.set_cons_zero, List.set_cons_succ, List.length_cons, List.length_nil, reduceIte, reduceCtorEq, and_true, true_and, and_self, or_true, true_or, false_and, and_false, not_true_eq_false, not_false_eq_true, true_implies, false_implies, implies_true, Nat.reduceAdd, Nat.reduceLT, Nat.reduceEqDiff, Nat.reduceLeDiff, Nat.reduceBEq, Nat.zero_add, Nat.lt_add_one, Bool.false_eq_true, Bool.or_false, Bool.or_true, Bool.or_self, Nat.zero_ne_one, Nat.one_ne_zero, ite_true, ite_false, ne_eq, Nat.reduceSub, Nat.succ_eq_add_one, Nat.zero_lt_succ, Nat.add_one_ne_zero, false_or, or_false, mX0_join_c, mX0_join_n, mX0_join_r, mX0_join_l, dX0_join_0, dX0_join_1, fl_0_15_0, dX0_join_4, dX0_join_5, dX0_join_6, fl_0_9_0, dX0_join_9, dX0_join_10, dX0_join_11, dX0_join_12, ic_0, dX0_join_13, dX0_join_15, dX0_join_17, ic_4, dX0_join_18, tg_18_17, cnd2_ge, dX0_join_21, dX0_join_22, dX0_join_23, dX0_join_25, dX0_join_26, dX0_join_29, ic_1, dX0_join_32, tg_32_m17, dX0_join_35, dX0_join_36, dX0_join_37, dX0_join_38, dX0_join_39, dX0_join_42, dX0_join_43, jX0_join_0_39, st_aload_n, st_getfield, st_goto, st_iadd, st_iastore, st_iconst, st_if_icmp, st_iinc, st_iload, st_iload_n, st_invokevirtual, st_ireturn, st_istore, st_istore_n, st_putfield]
      exact hj1
  have hp := hc.putD (upd kd P kind)
  have hl := loop 4 0 rfl
  rw [show jw w P want 0 = w from rfl] at hl
  have hp' : hput σ ad (iA Γ 5 (upd kd P kind)) = cset Γ (a, aw, ak, ad) (w, kp, upd kd P kind, day, gone, draw, P, rule, gd) σ := hp
  rw [← hp'] at hl
  obtain ⟨⟨m1, m2, m3, m4⟩, e1, e2, e3, e4⟩ := hc
  simp only [ColE, iA] at e1 e2 e3 e4 m1 m2 m3 m4
  have c5 : vp_in (nI P) 5 := vp_in_nI hP (by decide)
  have c6 : (nI P).toNatClampNeg = P := nI_clamp (by omega)
  refine ⟨Nat.le_of_ble_eq_true rfl, yvc_ok (uX0_join Γ) (S := [15]) 40 _ _ _ _ ?_⟩
  simp only [lv_args, Value.category, m1, m4, e1, e4, c5, c6, yvc_s, s1i, s2i, s1l, s2l, sil, s1r, sir, siir, slir, srir, svr, sd1, sd2, lg, lput, ldel, isL_i, isL_r, isL_l, jmp, obj, obj1, fI, fR, arI, arL, arR, hput, f4_0, f4_1, f4_2, f4_3, lc_0, lc_1, rok_i, rok_b, fput_1, fput_2, csum_nil, csum_i, csum_l, csum_r, va_up_self, bx_uu, Int.reduceAdd, List.elem_nil, List.elem_cons, List.take_succ_cons, List.take_zero, List.drop_succ_cons, List.drop_zero, List.take_nil, List.drop_nil, List.reverse_cons, List.reverse_nil, List.nil_append, List.cons_append, List.append_nil, Option.toList_some, Option.toList_none, List.getElem?_cons_zero, List.getElem?_cons_succ, List.set_cons_zero, List.set_cons_succ, List.length_cons, List.length_nil, reduceIte, reduceCtorEq, and_true, true_and, and_self, or_true, true_or, false_and, and_false, not_true_eq_false, not_false_eq_true, true_implies, false_implies, implies_true, Nat.reduceAdd, Nat.reduceLT, Nat.reduceEqDiff, Nat.reduceLeDiff, Nat.reduceBEq, Nat.zero_add, Nat.lt_add_one, Bool.false_eq_true, Bool.or_false, Bool.or_true, Bool.or_self, Nat.zero_ne_one, Nat.one_ne_zero, ite_true, ite_false, ne_eq, Nat.reduceSub, Nat.succ_eq_add_one, Nat.zero_lt_succ, Nat.add_one_ne_zero, false_or, or_false, mX0_join_c, mX0_join_n, mX0_join_r, mX0_join_l, dX0_join_0, dX0_join_1, fl_0_15_0, dX0_join_4, dX0_join_5, dX0_join_6, fl_0_9_0, dX0_join_9, dX0_join_10, dX0_join_11, dX0_join_12, ic_0, dX0_join_13, dX0_join_15, dX0_join_17, ic_4, dX0_join_18, tg_18_17, cnd2_ge, dX0_join_21, dX0_join_22, dX0_join_23, dX0_join_25, dX0_join_26, dX0_join_29, ic_1, dX0_join_32, tg_32_m17, dX0_join_35, dX0_join_36, dX0_join_37, dX0_join_38, dX0_join_39, dX0_join_42, dX0_join_43, jX0_join_0_39, st_aload_n, st_getfield, st_goto, st_iadd, st_iastore, st_iconst, st_if_icmp, st_iinc, st_iload, st_iload_n, st_invokevirtual, st_ireturn, st_istore, st_istore_n, st_putfield]
  exact hl
/-! ===== Moment.recall, College.become ===== -/
def cpN (n : Nat) (f g : Nat → Int32) : Nat → Int32 := va_cpy f g 0 0 n
def MomE (c aw ak : Nat) (day gone draw : Int32) (t : List Value) : va_E := .inr (c, .ref aw :: .ref ak :: .int day :: .int gone :: .int draw :: t)
def sp_X1_recall (Γ : Cx) : YSp := fun av σ K => ∃ (a b ca cb aw ak bw bk : Nat) (w0 k0 w k : Nat → Int32) (d0 g0 r0 day gone draw : Int32) (ta tb : List Value), av = [.ref a, .ref b] ∧ (ca = 0 ∨ ca = 1) ∧ (cb = 0 ∨ cb = 1) ∧
  (a ∈ σ.1 ∧ b ∈ σ.1 ∧ aw ∈ σ.1 ∧ ak ∈ σ.1 ∧ bw ∈ σ.1 ∧ bk ∈ σ.1) ∧ (a ≠ b ∧ aw ≠ bw ∧ ak ≠ bk) ∧
  (σ.2 a = MomE ca aw ak d0 g0 r0 ta ∧ σ.2 b = MomE cb bw bk day gone draw tb ∧ σ.2 aw = iA Γ 20 w0 ∧ σ.2 ak = iA Γ 4 k0 ∧ σ.2 bw = iA Γ 20 w ∧ σ.2 bk = iA Γ 4 k) ∧
  K none (σ.1, va_up (va_up (va_up σ.2 aw (iA Γ 20 (cpN 20 w w0))) ak (iA Γ 4 (cpN 4 k k0))) a (MomE ca aw ak day gone draw ta))
theorem rv_X1_recall_01 {Γ : Cx} : ∀ (av : List Value) (σ : Hp) (K : Option Value → Hp → Prop), sp_X1_recall Γ av σ K → ∃ (b : Nat) (As : List Value) (fs : List Value) (ci : Nat × String × u_T × Nat), ci ∈ [(0, RX0, TX0, 9), (1, RX1, TX1, 5)] ∧ av = .ref b :: As ∧ As.length = 1 ∧ b ∈ σ.1 ∧ σ.2 b = .inr (ci.1, fs) := by
  intro av σ K h
  obtain ⟨a, b, ca, cb, aw, ak, bw, bk, w0, k0, w, k, d0, g0, r0, day, gone, draw, ta, tb, rfl, hca, hcb, ⟨m1, -⟩, -, ⟨e1, -⟩, -⟩ := h
  rcases hca with rfl | rfl
  · exact ⟨a, [.ref b], _, (0, RX0, TX0, 9), by simp, rfl, rfl, m1, e1⟩
  · exact ⟨a, [.ref b], _, (1, RX1, TX1, 5), by simp, rfl, rfl, m1, e1⟩
end
