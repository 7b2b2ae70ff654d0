/-! ===== YawnKeysModel: keep, the search ===== -/
def sp_X7_keep (Γ : Cx) : YSp := fun av σ K => ∃ (x : Int32) (y : Int32), mo Γ [.int x, .int y] (x_keep x y) av σ K
theorem rv_X7_keep {Γ : Cx} : Recv (sp_X7_keep Γ) 2 7 := by
  intro av σ K h
  obtain ⟨x, y, h⟩ := h
  obtain ⟨q, fs, h1, h2, h3⟩ := rv_mo h
  exact ⟨q, _, fs, h1, rfl, h2, h3⟩
theorem tg_64_189 : tgo 64 189 = some 253 := by decide
theorem tg_83_65 : tgo 83 65 = some 148 := by decide
theorem tg_105_7 : tgo 105 7 = some 112 := by decide
theorem tg_109_4 : tgo 109 4 = some 113 := by decide
theorem tg_145_m64 : tgo 145 (-64) = some 81 := by decide
theorem tg_174_24 : tgo 174 24 = some 198 := by decide
theorem tg_181_17 : tgo 181 17 = some 198 := by decide
theorem tg_188_14 : tgo 188 14 = some 202 := by decide
theorem tg_195_7 : tgo 195 7 = some 202 := by decide
theorem tg_199_4 : tgo 199 4 = some 203 := by decide
theorem tg_207_8 : tgo 207 8 = some 215 := by decide
theorem tg_212_5 : tgo 212 5 = some 217 := by decide
theorem tg_221_8 : tgo 221 8 = some 229 := by decide
theorem tg_226_5 : tgo 226 5 = some 231 := by decide
theorem tg_235_8 : tgo 235 8 = some 243 := by decide
theorem tg_240_5 : tgo 240 5 = some 245 := by decide
theorem tg_250_m189 : tgo 250 (-189) = some 61 := by decide
theorem tg_257_6 : tgo 257 6 = some 263 := by decide
theorem tg_264_20 : tgo 264 20 = some 284 := by decide
theorem tg_281_33 : tgo 281 33 = some 314 := by decide
theorem tg_286_15 : tgo 286 15 = some 301 := by decide
theorem tg_298_16 : tgo 298 16 = some 314 := by decide
theorem tg_303_10 : tgo 303 10 = some 313 := by decide
theorem tg_310_4 : tgo 310 4 = some 314 := by decide
theorem tg_318_8 : tgo 318 8 = some 326 := by decide
theorem tg_323_24 : tgo 323 24 = some 347 := by decide
theorem tg_329_8 : tgo 329 8 = some 337 := by decide
theorem tg_334_13 : tgo 334 13 = some 347 := by decide
def mX7_keep : Mt := (⟨4, 0, 0, 91⟩, RX7, cX7_keep, 12, some .int, (0, 0), none)
theorem mX7_keep_c : mX7_keep.2.2.1 = cX7_keep := rfl
theorem mX7_keep_n : mX7_keep.2.2.2.1 = 12 := rfl
theorem mX7_keep_r : mX7_keep.2.2.2.2.1 = some .int := rfl
theorem mX7_keep_l : mX7_keep.2.2.2.2.2.2 = none := rfl
def jX7_keep (Γ : Cx) : List ((Nat × Nat) × Nat × Bool × YSp) := [((1, 63), 3, true, sp_X7_lies Γ), ((0, 122), 1, false, sp_X7_aside Γ), ((0, 198), 2, false, sp_X7_goDays Γ)]
theorem jX7_keep_1_63 (Γ : Cx) : kT (jX7_keep Γ) 1 63 = some (3, true, sp_X7_lies Γ) := rfl
theorem jX7_keep_0_122 (Γ : Cx) : kT (jX7_keep Γ) 0 122 = some (1, false, sp_X7_aside Γ) := rfl
theorem jX7_keep_0_198 (Γ : Cx) : kT (jX7_keep Γ) 0 198 = some (2, false, sp_X7_goDays Γ) := rfl
theorem uX7_keep (Γ : Cx) : TbOK Γ mX7_keep (fT fX7, cT kX7, kT (jX7_keep Γ)) := tb_ok fX7_ok kX7_ok (all_cons ⟨call_S (n := 3) (ok_X7_lies Γ) (rv_X7_lies (Γ := Γ)) bw_797 bw_795 bw_796 bw_49 no_X7_lies ⟨⟨rfl, rfl⟩, ⟨by decide, by decide⟩, ⟨by decide, by decide⟩⟩, fun _ => mono_X7_lies (Γ := Γ)⟩ (all_cons ⟨call_V (n := 0) (T := TX7) (N := 26) (ok_X7_aside Γ) (rv_X7_aside (Γ := Γ)) rfl bw_835 bw_832 bw_834 bw_17 bw_49 no_X7_aside ⟨⟨rfl, rfl⟩, ⟨by decide, by decide⟩, ⟨by decide, by decide⟩⟩, fun z => by cases z⟩ (all_cons ⟨call_V (n := 1) (T := TX7) (N := 26) (ok_X7_goDays Γ) (rv_X7_goDays (Γ := Γ)) rfl bw_961 bw_958 bw_960 bw_34 bw_49 no_X7_goDays ⟨⟨rfl, rfl⟩, ⟨by decide, by decide⟩, ⟨by decide, by decide⟩⟩, fun z => by cases z⟩ (all_nil))))
theorem y_cases {y : Int32} (h : inr y (-2) 3 = true) : y = -2 ∨ y = -1 ∨ ∃ q, q < 4 ∧ y = nI q := by
  obtain ⟨h1, h2⟩ := inr_iff.mp h
  rw [Int32.le_iff_toInt_le] at h1 h2
  have e1 : (-2 : Int32).toInt = -2 := by decide
  have e2 : (3 : Int32).toInt = 3 := by decide
  by_cases c1 : y.toInt = -2
  · exact Or.inl (Int32.toInt_inj.mp (by omega))
  · by_cases c2 : y.toInt = -1
    · have e3 : (-1 : Int32).toInt = -1 := by decide
      exact Or.inr (Or.inl (Int32.toInt_inj.mp (by omega)))
    · refine Or.inr (Or.inr ⟨y.toInt.toNat, by omega, Int32.toInt_inj.mp ?_⟩)
      rw [nI_toInt (by omega)]
      omega
theorem ye_m2_m1 : ((-2 : Int32) = -1) = False := by decide
theorem ye_m2_0 : ((-2 : Int32) = 0) = False := by decide
theorem ye_m2_1 : ((-2 : Int32) = 1) = False := by decide
theorem ye_m2_2 : ((-2 : Int32) = 2) = False := by decide
theorem ye_m1_m2 : ((-1 : Int32) = -2) = False := by decide
theorem ye_m1_0 : ((-1 : Int32) = 0) = False := by decide
theorem ye_m1_1 : ((-1 : Int32) = 1) = False := by decide
theorem ye_m1_2 : ((-1 : Int32) = 2) = False := by decide
theorem ye_0_m2 : ((0 : Int32) = -2) = False := by decide
theorem ye_0_m1 : ((0 : Int32) = -1) = False := by decide
theorem ye_0_1 : ((0 : Int32) = 1) = False := by decide
theorem ye_0_2 : ((0 : Int32) = 2) = False := by decide
theorem ye_1_m2 : ((1 : Int32) = -2) = False := by decide
theorem ye_1_m1 : ((1 : Int32) = -1) = False := by decide
theorem ye_1_0 : ((1 : Int32) = 0) = False := by decide
theorem ye_1_2 : ((1 : Int32) = 2) = False := by decide
theorem ye_2_m2 : ((2 : Int32) = -2) = False := by decide
theorem ye_2_m1 : ((2 : Int32) = -1) = False := by decide
theorem ye_2_0 : ((2 : Int32) = 0) = False := by decide
theorem ye_2_1 : ((2 : Int32) = 1) = False := by decide
theorem ye_3_m2 : ((3 : Int32) = -2) = False := by decide
theorem ye_3_m1 : ((3 : Int32) = -1) = False := by decide
theorem ye_3_0 : ((3 : Int32) = 0) = False := by decide
theorem ye_3_1 : ((3 : Int32) = 1) = False := by decide
theorem ye_3_2 : ((3 : Int32) = 2) = False := by decide
theorem m1_e : nI 0 + (-1) = (-1 : Int32) := by decide
theorem add4 (a b c d : Int32) : 0 + d + c + b + a = 0 + a + b + c + d := by
  simp only [Int32.zero_add]
  rw [Int32.add_assoc d, Int32.add_assoc d, Int32.add_comm d, Int32.add_assoc c, Int32.add_comm c (b + a), Int32.add_comm b a]
theorem ow4 {kp' kp : Nat → Int32} {e0 e1 e2 e3 : Int32} (h0 : kp' 0 = e0) (h1 : kp' 1 = e1) (h2 : kp' 2 = e2) (h3 : kp' 3 = e3) : 0 + (if kp 3 = e3 then 0 else 1) + (if kp 2 = e2 then 0 else 1) + (if kp 1 = e1 then 0 else 1) + (if kp 0 = e0 then 0 else 1) = ow kp' kp 4 := by
  simp only [ow, h0, h1, h2, h3, eq_comm (a := kp 0), eq_comm (a := kp 1), eq_comm (a := kp 2), eq_comm (a := kp 3)]
  exact add4 _ _ _ _
set_option maxRecDepth 20000 in
theorem ok_X7_keep (Γ : Cx) : Ok Γ yX7_keep mX7_keep (sp_X7_keep Γ) := by
  refine ok_intro (by decide +kernel) rfl rfl ?_
  intro av σ K h
  obtain ⟨x, y, h⟩ := h
  obtain ⟨lab, ⟨a, ad⟩, ⟨sc, ar, it⟩, ψ, ψ', r, rfl, hM, hR, hrel, h⟩ := h
  try simp only at h
  obtain ⟨⟨m1, -⟩, e1, -⟩ := id hM
  obtain ⟨⟨p1, p2, p3, p4, pI, p5, p6, p7⟩, hImg, h16, hT, hSh⟩ := id hR
  have hP := pI.P5
  simp only at p1 p2 p3 p4 p5 p6 p7 hImg h16 hT hSh
  simp only [ME] at m1 e1
  obtain ⟨hψ, hrel⟩ := hrel
  rw [hψ] at h
  have no : ¬ (inr x 1 30 = true ∧ inr y (-2) 3 = true) → K (some (.int (-1))) σ := fun z => by
    obtain ⟨-, hr⟩ := hrel.resolve_right (fun w => z w.1)
    rw [hr] at h
    exact h _ _ hR frm.rf hM
  rw [p1] at e1
  refine ⟨Nat.le_of_ble_eq_true rfl, yvc_ok (uX7_keep Γ) (S := [61]) 60 _ _ _ _ ?_⟩
  simp only [lv_args, Value.category, m1, e1, sp_X7_lies, inL_130, inL_m2, bI_eq0, Bool.not_eq_false, pk_mul, yvc_s, s1i, s2i, s1l, s2l, sil, s1r, sir, siir, slir, srir, svr, sd1, sd2, lg, lput, ldel, isL_i, isL_r, isL_l, jmp, obj, obj1, fI, fR, arI, arL, arR, hput, f4_0, f4_1, f4_2, f4_3, lc_0, lc_1, rok_i, rok_b, rok_y, strF, fput_1, fput_2, csum_nil, csum_i, csum_l, csum_r, va_up_self, bx_uu, Int.reduceAdd, List.elem_nil, List.elem_cons, List.take_succ_cons, List.take_zero, List.drop_succ_cons, List.drop_zero, List.take_nil, List.drop_nil, List.reverse_cons, List.reverse_nil, List.nil_append, List.cons_append, List.append_nil, Option.toList_some, Option.toList_none, List.getElem?_cons_zero, List.getElem?_cons_succ, List.set_cons_zero, List.set_cons_succ, List.length_cons, List.length_nil, reduceIte, reduceCtorEq, and_true, true_and, and_self, or_true, true_or, false_and, and_false, not_true_eq_false, not_false_eq_true, true_implies, false_implies, implies_true, Nat.reduceAdd, Nat.reduceLT, Nat.reduceEqDiff, Nat.reduceLeDiff, Nat.reduceBEq, Nat.zero_add, Nat.lt_add_one, Bool.false_eq_true, Bool.or_false, Bool.or_true, Bool.or_self, Nat.zero_ne_one, Nat.one_ne_zero, ite_true, ite_false, ne_eq, Nat.reduceSub, Nat.succ_eq_add_one, Nat.zero_lt_succ, Nat.add_one_ne_zero, false_or, or_false, mX7_keep_c, mX7_keep_n, mX7_keep_r, mX7_keep_l, dX7_keep_0, dX7_keep_1, dX7_keep_2, dX7_keep_3, cl_7_201, dX7_keep_6, dX7_keep_9, tg_9_17, cnd1_eq, dX7_keep_12, dX7_keep_13, dX7_keep_14, cl_7_203, dX7_keep_17, cl_7_67, dX7_keep_20, dX7_keep_23, tg_23_5, cnd1_ne, dX7_keep_26, ic_m1, dX7_keep_27, dX7_keep_28, dX7_keep_29, fl_7_60_7, dX7_keep_32, dX7_keep_33, dX7_keep_36, dX7_keep_37, dX7_keep_38, dX7_keep_41, dX7_keep_42, dX7_keep_43, dX7_keep_46, dX7_keep_47, dX7_keep_48, bc_m4, dX7_keep_50, dX7_keep_52, ic_0, dX7_keep_53, dX7_keep_55, dX7_keep_56, dX7_keep_58, dX7_keep_59, dX7_keep_61, dX7_keep_63, dX7_keep_64, tg_64_189, cnd2_ge, dX7_keep_67, dX7_keep_68, dX7_keep_71, dX7_keep_73, dX7_keep_75, dX7_keep_76, dX7_keep_78, ic_3, dX7_keep_79, dX7_keep_81, dX7_keep_83, tg_83_65, cnd1_lt, dX7_keep_86, dX7_keep_88, dX7_keep_89, fl_7_17_7, dX7_keep_92, bc_20, dX7_keep_94, dX7_keep_96, dX7_keep_97, dX7_keep_98, dX7_keep_100, dX7_keep_101, dX7_keep_104, dX7_keep_105, tg_105_7, cnd2_ne, dX7_keep_108, dX7_keep_109, tg_109_4, dX7_keep_112, ic_1, dX7_keep_113, dX7_keep_114, dX7_keep_116, dX7_keep_117, fl_7_20_7, dX7_keep_120, dX7_keep_122, dX7_keep_124, dX7_keep_125, dX7_keep_127, dX7_keep_128, dX7_keep_131, dX7_keep_132, dX7_keep_133, dX7_keep_135, dX7_keep_136, dX7_keep_139, dX7_keep_140, dX7_keep_142, dX7_keep_145, tg_145_m64, dX7_keep_148, dX7_keep_149, dX7_keep_150, dX7_keep_153, dX7_keep_154, dX7_keep_157, bc_25, dX7_keep_159, dX7_keep_160, dX7_keep_161, dX7_keep_164, dX7_keep_166, dX7_keep_167, dX7_keep_168, dX7_keep_170, dX7_keep_172, dX7_keep_174, tg_174_24, cnd2_eq, dX7_keep_177, dX7_keep_179, dX7_keep_181, tg_181_17, cnd2_lt, dX7_keep_184, dX7_keep_186, dX7_keep_188, tg_188_14, dX7_keep_191, dX7_keep_193, dX7_keep_195, tg_195_7, dX7_keep_198, dX7_keep_199, tg_199_4, dX7_keep_202, dX7_keep_203, dX7_keep_205, dX7_keep_207, tg_207_8, dX7_keep_210, dX7_keep_212, tg_212_5, dX7_keep_215, dX7_keep_217, dX7_keep_219, dX7_keep_221, tg_221_8, dX7_keep_224, dX7_keep_226, tg_226_5, dX7_keep_229, dX7_keep_231, dX7_keep_233, dX7_keep_235, tg_235_8, dX7_keep_238, dX7_keep_240, tg_240_5, dX7_keep_243, dX7_keep_245, dX7_keep_247, dX7_keep_250, tg_250_m189, dX7_keep_253, dX7_keep_255, dX7_keep_257, tg_257_6, dX7_keep_260, dX7_keep_262, dX7_keep_263, dX7_keep_264, tg_264_20, dX7_keep_267, dX7_keep_268, dX7_keep_271, dX7_keep_272, dX7_keep_275, dX7_keep_276, dX7_keep_277, dX7_keep_280, dX7_keep_281, tg_281_33, dX7_keep_284, dX7_keep_285, dX7_keep_286, tg_286_15, dX7_keep_289, dX7_keep_290, dX7_keep_293, dX7_keep_294, dX7_keep_297, dX7_keep_298, tg_298_16, dX7_keep_301, dX7_keep_302, ic_2, dX7_keep_303, tg_303_10, dX7_keep_306, dX7_keep_307, dX7_keep_310, tg_310_4, dX7_keep_313, dX7_keep_314, dX7_keep_316, dX7_keep_317, dX7_keep_318, tg_318_8, dX7_keep_321, dX7_keep_323, tg_323_24, dX7_keep_326, dX7_keep_327, bc_m2, dX7_keep_329, tg_329_8, dX7_keep_332, dX7_keep_334, tg_334_13, dX7_keep_337, dX7_keep_339, dX7_keep_341, dX7_keep_342, dX7_keep_343, dX7_keep_346, dX7_keep_347, jX7_keep_1_63, jX7_keep_0_122, jX7_keep_0_198, st_aload_n, st_bipush, st_getfield, st_goto, st_i2l, st_iadd, st_iaload, st_iastore, st_iconst, st_idiv, st_ifCond, st_if_icmp, st_iinc, st_iload, st_iload_n, st_imul, st_invokestatic, st_invokevirtual, st_irem, st_ireturn, st_istore, st_istore_n, st_isub, st_lconst, st_ldc2_w]
  refine ⟨fun c => no (fun z => by rw [z.1] at c; cases c), fun c => ⟨fun d => ?_, fun d => no (fun z => d z.2)⟩⟩
  obtain ⟨-, hrel⟩ := hrel.resolve_left (fun w => w.1 ⟨c, d⟩)
  obtain ⟨N, hN0, hN, rfl⟩ := in1_n (B := 30) (by decide) c
  rw [nI_clamp (show N < 2 ^ 31 by omega)] at hrel
  generalize hPP : ψ.1.2.2.2.2.2.2.1 = P at hrel p1 hP e1
  rcases hrel with ⟨hP0, hr⟩ | ⟨hP0, bs, g, v, hSk, hr⟩
  · rw [hr] at h
    subst hP0
    have hk := h _ _ hR frm.rf hM
    have e00 : nI (0 * 0 * 0 * 0) ≤ 0 := by decide
    refine yvc1_ok (uX7_keep Γ) (S := [61]) 60 ?_
    simp only [yvc1, e00, yvc_s, s1i, s2i, s1l, s2l, sil, s1r, sir, siir, slir, srir, svr, sd1, sd2, lg, lput, ldel, isL_i, isL_r, isL_l, jmp, obj, obj1, fI, fR, arI, arL, arR, hput, f4_0, f4_1, f4_2, f4_3, lc_0, lc_1, rok_i, rok_b, rok_y, strF, fput_1, fput_2, csum_nil, csum_i, csum_l, csum_r, va_up_self, bx_uu, Int.reduceAdd, List.elem_nil, List.elem_cons, List.take_succ_cons, List.take_zero, List.drop_succ_cons, List.drop_zero, List.take_nil, List.drop_nil, List.reverse_cons, List.reverse_nil, List.nil_append, List.cons_append, List.append_nil, Option.toList_some, Option.toList_none, List.getElem?_cons_zero, List.getElem?_cons_succ, List.set_cons_zero, List.set_cons_succ, List.length_cons, List.length_nil, reduceIte, reduceCtorEq, and_true, true_and, and_self, or_true, true_or, false_and, and_false, not_true_eq_false, not_false_eq_true, true_implies, false_implies, implies_true, Nat.reduceAdd, Nat.reduceLT, Nat.reduceEqDiff, Nat.reduceLeDiff, Nat.reduceBEq, Nat.zero_add, Nat.lt_add_one, Bool.false_eq_true, Bool.or_false, Bool.or_true, Bool.or_self, Nat.zero_ne_one, Nat.one_ne_zero, ite_true, ite_false, ne_eq, Nat.reduceSub, Nat.succ_eq_add_one, Nat.zero_lt_succ, Nat.add_one_ne_zero, false_or, or_false, mX7_keep_c, mX7_keep_n, mX7_keep_r, mX7_keep_l, dX7_keep_0, dX7_keep_1, dX7_keep_2, dX7_keep_3, cl_7_201, dX7_keep_6, dX7_keep_9, tg_9_17, cnd1_eq, dX7_keep_12, dX7_keep_13, dX7_keep_14, cl_7_203, dX7_keep_17, cl_7_67, dX7_keep_20, dX7_keep_23, tg_23_5, cnd1_ne, dX7_keep_26, ic_m1, dX7_keep_27, dX7_keep_28, dX7_keep_29, fl_7_60_7, dX7_keep_32, dX7_keep_33, dX7_keep_36, dX7_keep_37, dX7_keep_38, dX7_keep_41, dX7_keep_42, dX7_keep_43, dX7_keep_46, dX7_keep_47, dX7_keep_48, bc_m4, dX7_keep_50, dX7_keep_52, ic_0, dX7_keep_53, dX7_keep_55, dX7_keep_56, dX7_keep_58, dX7_keep_59, dX7_keep_61, dX7_keep_63, dX7_keep_64, tg_64_189, cnd2_ge, dX7_keep_67, dX7_keep_68, dX7_keep_71, dX7_keep_73, dX7_keep_75, dX7_keep_76, dX7_keep_78, ic_3, dX7_keep_79, dX7_keep_81, dX7_keep_83, tg_83_65, cnd1_lt, dX7_keep_86, dX7_keep_88, dX7_keep_89, fl_7_17_7, dX7_keep_92, bc_20, dX7_keep_94, dX7_keep_96, dX7_keep_97, dX7_keep_98, dX7_keep_100, dX7_keep_101, dX7_keep_104, dX7_keep_105, tg_105_7, cnd2_ne, dX7_keep_108, dX7_keep_109, tg_109_4, dX7_keep_112, ic_1, dX7_keep_113, dX7_keep_114, dX7_keep_116, dX7_keep_117, fl_7_20_7, dX7_keep_120, dX7_keep_122, dX7_keep_124, dX7_keep_125, dX7_keep_127, dX7_keep_128, dX7_keep_131, dX7_keep_132, dX7_keep_133, dX7_keep_135, dX7_keep_136, dX7_keep_139, dX7_keep_140, dX7_keep_142, dX7_keep_145, tg_145_m64, dX7_keep_148, dX7_keep_149, dX7_keep_150, dX7_keep_153, dX7_keep_154, dX7_keep_157, bc_25, dX7_keep_159, dX7_keep_160, dX7_keep_161, dX7_keep_164, dX7_keep_166, dX7_keep_167, dX7_keep_168, dX7_keep_170, dX7_keep_172, dX7_keep_174, tg_174_24, cnd2_eq, dX7_keep_177, dX7_keep_179, dX7_keep_181, tg_181_17, cnd2_lt, dX7_keep_184, dX7_keep_186, dX7_keep_188, tg_188_14, dX7_keep_191, dX7_keep_193, dX7_keep_195, tg_195_7, dX7_keep_198, dX7_keep_199, tg_199_4, dX7_keep_202, dX7_keep_203, dX7_keep_205, dX7_keep_207, tg_207_8, dX7_keep_210, dX7_keep_212, tg_212_5, dX7_keep_215, dX7_keep_217, dX7_keep_219, dX7_keep_221, tg_221_8, dX7_keep_224, dX7_keep_226, tg_226_5, dX7_keep_229, dX7_keep_231, dX7_keep_233, dX7_keep_235, tg_235_8, dX7_keep_238, dX7_keep_240, tg_240_5, dX7_keep_243, dX7_keep_245, dX7_keep_247, dX7_keep_250, tg_250_m189, dX7_keep_253, dX7_keep_255, dX7_keep_257, tg_257_6, dX7_keep_260, dX7_keep_262, dX7_keep_263, dX7_keep_264, tg_264_20, dX7_keep_267, dX7_keep_268, dX7_keep_271, dX7_keep_272, dX7_keep_275, dX7_keep_276, dX7_keep_277, dX7_keep_280, dX7_keep_281, tg_281_33, dX7_keep_284, dX7_keep_285, dX7_keep_286, tg_286_15, dX7_keep_289, dX7_keep_290, dX7_keep_293, dX7_keep_294, dX7_keep_297, dX7_keep_298, tg_298_16, dX7_keep_301, dX7_keep_302, ic_2, dX7_keep_303, tg_303_10, dX7_keep_306, dX7_keep_307, dX7_keep_310, tg_310_4, dX7_keep_313, dX7_keep_314, dX7_keep_316, dX7_keep_317, dX7_keep_318, tg_318_8, dX7_keep_321, dX7_keep_323, tg_323_24, dX7_keep_326, dX7_keep_327, bc_m2, dX7_keep_329, tg_329_8, dX7_keep_332, dX7_keep_334, tg_334_13, dX7_keep_337, dX7_keep_339, dX7_keep_341, dX7_keep_342, dX7_keep_343, dX7_keep_346, dX7_keep_347, jX7_keep_1_63, jX7_keep_0_122, jX7_keep_0_198, st_aload_n, st_bipush, st_getfield, st_goto, st_i2l, st_iadd, st_iaload, st_iastore, st_iconst, st_idiv, st_ifCond, st_if_icmp, st_iinc, st_iload, st_iload_n, st_imul, st_invokestatic, st_invokevirtual, st_irem, st_ireturn, st_istore, st_istore_n, st_isub, st_lconst, st_ldc2_w]
    exact hk
  · obtain ⟨f, ⟨f01, f02, f03⟩, ⟨fb, fg, fv⟩, hf⟩ := SkR_chain _ _ _ _ hSk
    have hK := p4_le hP
    have hKp : 0 < P * P * P * P := Nat.mul_pos (Nat.mul_pos (Nat.mul_pos hP0 hP0) hP0) hP0
    generalize hKK : P * P * P * P = KK at hf fb fg fv hK hKp
    have hPn0 : ¬ nI P = 0 := nI_ne0 hP0 (by omega)
    obtain ⟨D, hD, hJ⟩ := id pI
    obtain ⟨G, hG, hGe⟩ := hJ.2.2.2
    -- the end
    have fin : ∀ (s1 : MS) (σ1 : Hp), frm (fL lab 30) σ σ1 → Mod Γ lab (a, ad) s1 σ1 → R ψ s1 → bs ≤ 625 → YG Γ mX7_keep K 61 [(0, .ref a), (1, .int (nI N)), (2, .int y), (3, .int (nI KK)), (4, .int (nI bs)), (5, .int g), (6, .int v), (7, .int (nI KK))] [] σ1 := by
      intro s1 σ1 hf1 hM1 hR1 hbs
      have hk := h σ1 s1 hR1 hf1 hM1
      rw [hr] at hk
      have hsp : s1.1 0 = nI P := by rw [hR1.1.1, hPP]
      obtain ⟨sc1, ar1, it1⟩ := s1
      simp only at hsp
      obtain ⟨⟨m1, -⟩, e1, -⟩ := id hM1
      simp only [ME] at m1 e1
      rw [hsp] at e1
      have b4 := nI_m4 (show bs < 2 ^ 31 by omega)
      have by3 : ¬ nI (P * P * P) = 0 := nI_ne0 (Nat.mul_pos (Nat.mul_pos hP0 hP0) hP0) (by
        have : P * P * P ≤ 5 * 5 * 5 := Nat.mul_le_mul (Nat.mul_le_mul hP hP) hP
        omega)
      have hPP2 : P * P ≤ 5 * 5 := Nat.mul_le_mul hP hP
      have hPP3 : P * P * P ≤ 5 * 5 * 5 := Nat.mul_le_mul hPP2 hP
      have by2 : ¬ nI (P * P) = 0 := nI_ne0 (Nat.mul_pos hP0 hP0) (by omega)
      have by1 : ¬ (1 : Int32) = 0 := by decide
      have q3 : nI bs / nI (P * P * P) = nI (bs / (P * P * P)) := pk_div (by omega) (Nat.mul_pos (Nat.mul_pos hP0 hP0) hP0) (by omega)
      have q2 : nI bs / nI (P * P) = nI (bs / (P * P)) := pk_div (by omega) (Nat.mul_pos hP0 hP0) (by omega)
      have q1 : nI bs / nI P = nI (bs / P) := pk_div (by omega) hP0 (by omega)
      have q0 : nI bs / 1 = nI bs := by
        have := pk_div (a := bs) (d := 1) (by omega) (by decide) (by decide)
        rw [Nat.div_one] at this
        exact this
      have hrem : ∀ z, z ≤ 625 → nI z - nI z / nI P * nI P = nI (z % P) := fun z hz => pk_rem (by omega) hP0 (by omega)
      have hr0 : nI bs - nI (bs / P * P) = nI (bs % P) := by
        have := hrem bs hbs
        rw [q1, pk_mul] at this
        exact this
      have l3 : bs / (P * P * P) ≤ 625 := Nat.le_trans (Nat.div_le_self _ _) hbs
      have l2 : bs / (P * P) ≤ 625 := Nat.le_trans (Nat.div_le_self _ _) hbs
      have l1 : bs / P ≤ 625 := Nat.le_trans (Nat.div_le_self _ _) hbs
      have go : ∀ z : Int32, (z = -2 ∧ K (some (.int v)) σ1) ∨ (z = -1 ∧ K (some (.int g)) σ1) ∨ (z = 0 ∧ K (some (.int (nI (bs / (P * P * P) % P)))) σ1) ∨ (z = 1 ∧ K (some (.int (nI (bs / (P * P) % P)))) σ1) ∨ (z = 2 ∧ K (some (.int (nI (bs / P % P)))) σ1) ∨ (z = 3 ∧ K (some (.int (nI (bs % P)))) σ1) → YG Γ mX7_keep K 61 [(0, .ref a), (1, .int (nI N)), (2, .int z), (3, .int (nI KK)), (4, .int (nI bs)), (5, .int g), (6, .int v), (7, .int (nI KK))] [] σ1 := by
        intro z hz
        rcases hz with ⟨rfl, hz⟩ | ⟨rfl, hz⟩ | ⟨rfl, hz⟩ | ⟨rfl, hz⟩ | ⟨rfl, hz⟩ | ⟨rfl, hz⟩ <;>
        · refine yvc1_ok (uX7_keep Γ) (S := [61]) 90 ?_
          simp only [yvc1, geP, m1, e1, b4, pk_mul, by3, by2, by1, q3, q2, q1, q0, hPn0, hrem _ l3, hrem _ l2, hrem _ l1, hrem _ hbs, hr0, ye_m2_m1, ye_m2_0, ye_m2_1, ye_m2_2, ye_m1_m2, ye_m1_0, ye_m1_1, ye_m1_2, ye_0_m2, ye_0_m1, ye_0_1, ye_0_2, ye_1_m2, ye_1_m1, ye_1_0, ye_1_2, ye_2_m2, ye_2_m1, ye_2_0, ye_2_1, ye_3_m2, ye_3_m1, ye_3_0, ye_3_1, ye_3_2, yvc_s, s1i, s2i, s1l, s2l, sil, s1r, sir, siir, slir, srir, svr, sd1, sd2, lg, lput, ldel, isL_i, isL_r, isL_l, jmp, obj, obj1, fI, fR, arI, arL, arR, hput, f4_0, f4_1, f4_2, f4_3, lc_0, lc_1, rok_i, rok_b, rok_y, strF, fput_1, fput_2, csum_nil, csum_i, csum_l, csum_r, va_up_self, bx_uu, Int.reduceAdd, List.elem_nil, List.elem_cons, List.take_succ_cons, List.take_zero, List.drop_succ_cons, List.drop_zero, List.take_nil, List.drop_nil, List.reverse_cons, List.reverse_nil, List.nil_append, List.cons_append, List.append_nil, Option.toList_some, Option.toList_none, List.getElem?_cons_zero, List.getElem?_cons_succ, List.set_cons_zero, List.set_cons_succ, List.length_cons, List.length_nil, reduceIte, reduceCtorEq, and_true, true_and, and_self, or_true, true_or, false_and, and_false, not_true_eq_false, not_false_eq_true, true_implies, false_implies, implies_true, Nat.reduceAdd, Nat.reduceLT, Nat.reduceEqDiff, Nat.reduceLeDiff, Nat.reduceBEq, Nat.zero_add, Nat.lt_add_one, Bool.false_eq_true, Bool.or_false, Bool.or_true, Bool.or_self, Nat.zero_ne_one, Nat.one_ne_zero, ite_true, ite_false, ne_eq, Nat.reduceSub, Nat.succ_eq_add_one, Nat.zero_lt_succ, Nat.add_one_ne_zero, false_or, or_false, mX7_keep_c, mX7_keep_n, mX7_keep_r, mX7_keep_l, dX7_keep_0, dX7_keep_1, dX7_keep_2, dX7_keep_3, cl_7_201, dX7_keep_6, dX7_keep_9, tg_9_17, cnd1_eq, dX7_keep_12, dX7_keep_13, dX7_keep_14, cl_7_203, dX7_keep_17, cl_7_67, dX7_keep_20, dX7_keep_23, tg_23_5, cnd1_ne, dX7_keep_26, ic_m1, dX7_keep_27, dX7_keep_28, dX7_keep_29, fl_7_60_7, dX7_keep_32, dX7_keep_33, dX7_keep_36, dX7_keep_37, dX7_keep_38, dX7_keep_41, dX7_keep_42, dX7_keep_43, dX7_keep_46, dX7_keep_47, dX7_keep_48, bc_m4, dX7_keep_50, dX7_keep_52, ic_0, dX7_keep_53, dX7_keep_55, dX7_keep_56, dX7_keep_58, dX7_keep_59, dX7_keep_61, dX7_keep_63, dX7_keep_64, tg_64_189, cnd2_ge, dX7_keep_67, dX7_keep_68, dX7_keep_71, dX7_keep_73, dX7_keep_75, dX7_keep_76, dX7_keep_78, ic_3, dX7_keep_79, dX7_keep_81, dX7_keep_83, tg_83_65, cnd1_lt, dX7_keep_86, dX7_keep_88, dX7_keep_89, fl_7_17_7, dX7_keep_92, bc_20, dX7_keep_94, dX7_keep_96, dX7_keep_97, dX7_keep_98, dX7_keep_100, dX7_keep_101, dX7_keep_104, dX7_keep_105, tg_105_7, cnd2_ne, dX7_keep_108, dX7_keep_109, tg_109_4, dX7_keep_112, ic_1, dX7_keep_113, dX7_keep_114, dX7_keep_116, dX7_keep_117, fl_7_20_7, dX7_keep_120, dX7_keep_122, dX7_keep_124, dX7_keep_125, dX7_keep_127, dX7_keep_128, dX7_keep_131, dX7_keep_132, dX7_keep_133, dX7_keep_135, dX7_keep_136, dX7_keep_139, dX7_keep_140, dX7_keep_142, dX7_keep_145, tg_145_m64, dX7_keep_148, dX7_keep_149, dX7_keep_150, dX7_keep_153, dX7_keep_154, dX7_keep_157, bc_25, dX7_keep_159, dX7_keep_160, dX7_keep_161, dX7_keep_164, dX7_keep_166, dX7_keep_167, dX7_keep_168, dX7_keep_170, dX7_keep_172, dX7_keep_174, tg_174_24, cnd2_eq, dX7_keep_177, dX7_keep_179, dX7_keep_181, tg_181_17, cnd2_lt, dX7_keep_184, dX7_keep_186, dX7_keep_188, tg_188_14, dX7_keep_191, dX7_keep_193, dX7_keep_195, tg_195_7, dX7_keep_198, dX7_keep_199, tg_199_4, dX7_keep_202, dX7_keep_203, dX7_keep_205, dX7_keep_207, tg_207_8, dX7_keep_210, dX7_keep_212, tg_212_5, dX7_keep_215, dX7_keep_217, dX7_keep_219, dX7_keep_221, tg_221_8, dX7_keep_224, dX7_keep_226, tg_226_5, dX7_keep_229, dX7_keep_231, dX7_keep_233, dX7_keep_235, tg_235_8, dX7_keep_238, dX7_keep_240, tg_240_5, dX7_keep_243, dX7_keep_245, dX7_keep_247, dX7_keep_250, tg_250_m189, dX7_keep_253, dX7_keep_255, dX7_keep_257, tg_257_6, dX7_keep_260, dX7_keep_262, dX7_keep_263, dX7_keep_264, tg_264_20, dX7_keep_267, dX7_keep_268, dX7_keep_271, dX7_keep_272, dX7_keep_275, dX7_keep_276, dX7_keep_277, dX7_keep_280, dX7_keep_281, tg_281_33, dX7_keep_284, dX7_keep_285, dX7_keep_286, tg_286_15, dX7_keep_289, dX7_keep_290, dX7_keep_293, dX7_keep_294, dX7_keep_297, dX7_keep_298, tg_298_16, dX7_keep_301, dX7_keep_302, ic_2, dX7_keep_303, tg_303_10, dX7_keep_306, dX7_keep_307, dX7_keep_310, tg_310_4, dX7_keep_313, dX7_keep_314, dX7_keep_316, dX7_keep_317, dX7_keep_318, tg_318_8, dX7_keep_321, dX7_keep_323, tg_323_24, dX7_keep_326, dX7_keep_327, bc_m2, dX7_keep_329, tg_329_8, dX7_keep_332, dX7_keep_334, tg_334_13, dX7_keep_337, dX7_keep_339, dX7_keep_341, dX7_keep_342, dX7_keep_343, dX7_keep_346, dX7_keep_347, jX7_keep_1_63, jX7_keep_0_122, jX7_keep_0_198, st_aload_n, st_bipush, st_getfield, st_goto, st_i2l, st_iadd, st_iaload, st_iastore, st_iconst, st_idiv, st_ifCond, st_if_icmp, st_iinc, st_iload, st_iload_n, st_imul, st_invokestatic, st_invokevirtual, st_irem, st_ireturn, st_istore, st_istore_n, st_isub, st_lconst, st_ldc2_w]
          exact hz
      refine go y ?_
      rcases y_cases d with rfl | rfl | ⟨q, hq, rfl⟩
      · rw [if_pos rfl] at hk
        exact Or.inl ⟨rfl, hk⟩
      · rw [if_neg (by decide), if_pos rfl] at hk
        exact Or.inr (Or.inl ⟨rfl, hk⟩)
      · rw [if_neg (fun e => by have := congrArg Int32.toInt e; rw [nI_toInt (by omega)] at this; have e2 : (-2 : Int32).toInt = -2 := by decide
                                omega), if_neg (fun e => by have := congrArg Int32.toInt e; rw [nI_toInt (by omega)] at this; have e2 : (-1 : Int32).toInt = -1 := by decide
                                                            omega), nI_clamp (show q < 2 ^ 31 by omega)] at hk
        rcases (show q = 0 ∨ q = 1 ∨ q = 2 ∨ q = 3 by omega) with rfl | rfl | rfl | rfl
        · refine Or.inr (Or.inr (Or.inl ⟨rfl, ?_⟩))
          rw [← Nat.div_div_eq_div_mul, ← Nat.div_div_eq_div_mul]
          exact hk
        · refine Or.inr (Or.inr (Or.inr (Or.inl ⟨rfl, ?_⟩)))
          rw [← Nat.div_div_eq_div_mul]
          exact hk
        · exact Or.inr (Or.inr (Or.inr (Or.inr (Or.inl ⟨rfl, hk⟩))))
        · exact Or.inr (Or.inr (Or.inr (Or.inr (Or.inr ⟨rfl, hk⟩))))
    -- one key
    have dstep : ∀ (sc1 : Nat → Int32) (ar1 : Nat → Nat → Int32) (it1 : Nat → Int64) (d left : Nat) (giv : Int32) (w : Nat → Int32) (σ1 : Hp) (be of ma co : Int32), sc1 0 = nI P → d < 4 → left ≤ 625 → Mod Γ lab (a, ad) (sc1, updA ar1 4 w, it1) σ1 → (∀ σ2, frm (fL lab 30) σ1 σ2 → Mod Γ lab (a, ad) (sc1, updA ar1 4 (upd w (20 + d) (nI (left % P))), it1) σ2 → YG Γ mX7_keep K 81 [(0, .ref a), (1, .int (nI N)), (2, .int y), (3, .int (nI KK)), (4, .int be), (5, .int of), (6, .int ma), (7, .int co), (8, .int (nI (left / P))), (9, .int (giv + (if ar1 3 (20 + d) = nI (left % P) then 0 else 1))), (10, .int (nI d + (-1)))] [] σ2) → YG Γ mX7_keep K 81 [(0, .ref a), (1, .int (nI N)), (2, .int y), (3, .int (nI KK)), (4, .int be), (5, .int of), (6, .int ma), (7, .int co), (8, .int (nI left)), (9, .int giv), (10, .int (nI d))] [] σ1 := by
      intro sc1 ar1 it1 d left giv w σ1 be of ma co hsp hd hl hM1 hk
      obtain ⟨i1, i2⟩ := ix20 hd
      have hM2 := hM1.putA (k := 4) rfl (upd w (20 + d) (nI (left % P)))
      simp only [updA_updA] at hM2
      have hy := hk _ (hM1.frA (k := 4) rfl) hM2
      obtain ⟨⟨m1, -⟩, e1, -⟩ := id hM1
      obtain ⟨m3, e3⟩ := hM1.arr 3 rfl
      obtain ⟨m4, e4⟩ := hM1.arr 4 rfl
      simp only [ME, iA, lenM, hput, updA_at, updA_ne (show (3 : Nat) ≠ 4 by decide)] at m1 e1 m3 e3 m4 e4 hy
      rw [hsp] at e1
      have hrem : nI left - nI left / nI P * nI P = nI (left % P) := pk_rem (by omega) hP0 (by omega)
      have hdiv : nI left / nI P = nI (left / P) := pk_div (by omega) hP0 (by omega)
      rw [hdiv] at hrem
      have n1 := fun f x => hM1.neA (k := 4) rfl f x
      simp only at n1
      have n0 := nI_pos (show d < 2 ^ 31 by omega)
      refine yvc1_ok (uX7_keep Γ) (S := [81]) 60 ?_
      simp only [yvc1, m1, e1, m3, e3, m4, e4, n1, i1, i2, n0, hPn0, hrem, hdiv, yvc_s, s1i, s2i, s1l, s2l, sil, s1r, sir, siir, slir, srir, svr, sd1, sd2, lg, lput, ldel, isL_i, isL_r, isL_l, jmp, obj, obj1, fI, fR, arI, arL, arR, hput, f4_0, f4_1, f4_2, f4_3, lc_0, lc_1, rok_i, rok_b, rok_y, strF, fput_1, fput_2, csum_nil, csum_i, csum_l, csum_r, va_up_self, bx_uu, Int.reduceAdd, List.elem_nil, List.elem_cons, List.take_succ_cons, List.take_zero, List.drop_succ_cons, List.drop_zero, List.take_nil, List.drop_nil, List.reverse_cons, List.reverse_nil, List.nil_append, List.cons_append, List.append_nil, Option.toList_some, Option.toList_none, List.getElem?_cons_zero, List.getElem?_cons_succ, List.set_cons_zero, List.set_cons_succ, List.length_cons, List.length_nil, reduceIte, reduceCtorEq, and_true, true_and, and_self, or_true, true_or, false_and, and_false, not_true_eq_false, not_false_eq_true, true_implies, false_implies, implies_true, Nat.reduceAdd, Nat.reduceLT, Nat.reduceEqDiff, Nat.reduceLeDiff, Nat.reduceBEq, Nat.zero_add, Nat.lt_add_one, Bool.false_eq_true, Bool.or_false, Bool.or_true, Bool.or_self, Nat.zero_ne_one, Nat.one_ne_zero, ite_true, ite_false, ne_eq, Nat.reduceSub, Nat.succ_eq_add_one, Nat.zero_lt_succ, Nat.add_one_ne_zero, false_or, or_false, mX7_keep_c, mX7_keep_n, mX7_keep_r, mX7_keep_l, dX7_keep_0, dX7_keep_1, dX7_keep_2, dX7_keep_3, cl_7_201, dX7_keep_6, dX7_keep_9, tg_9_17, cnd1_eq, dX7_keep_12, dX7_keep_13, dX7_keep_14, cl_7_203, dX7_keep_17, cl_7_67, dX7_keep_20, dX7_keep_23, tg_23_5, cnd1_ne, dX7_keep_26, ic_m1, dX7_keep_27, dX7_keep_28, dX7_keep_29, fl_7_60_7, dX7_keep_32, dX7_keep_33, dX7_keep_36, dX7_keep_37, dX7_keep_38, dX7_keep_41, dX7_keep_42, dX7_keep_43, dX7_keep_46, dX7_keep_47, dX7_keep_48, bc_m4, dX7_keep_50, dX7_keep_52, ic_0, dX7_keep_53, dX7_keep_55, dX7_keep_56, dX7_keep_58, dX7_keep_59, dX7_keep_61, dX7_keep_63, dX7_keep_64, tg_64_189, cnd2_ge, dX7_keep_67, dX7_keep_68, dX7_keep_71, dX7_keep_73, dX7_keep_75, dX7_keep_76, dX7_keep_78, ic_3, dX7_keep_79, dX7_keep_81, dX7_keep_83, tg_83_65, cnd1_lt, dX7_keep_86, dX7_keep_88, dX7_keep_89, fl_7_17_7, dX7_keep_92, bc_20, dX7_keep_94, dX7_keep_96, dX7_keep_97, dX7_keep_98, dX7_keep_100, dX7_keep_101, dX7_keep_104, dX7_keep_105, tg_105_7, cnd2_ne, dX7_keep_108, dX7_keep_109, tg_109_4, dX7_keep_112, ic_1, dX7_keep_113, dX7_keep_114, dX7_keep_116, dX7_keep_117, fl_7_20_7, dX7_keep_120, dX7_keep_122, dX7_keep_124, dX7_keep_125, dX7_keep_127, dX7_keep_128, dX7_keep_131, dX7_keep_132, dX7_keep_133, dX7_keep_135, dX7_keep_136, dX7_keep_139, dX7_keep_140, dX7_keep_142, dX7_keep_145, tg_145_m64, dX7_keep_148, dX7_keep_149, dX7_keep_150, dX7_keep_153, dX7_keep_154, dX7_keep_157, bc_25, dX7_keep_159, dX7_keep_160, dX7_keep_161, dX7_keep_164, dX7_keep_166, dX7_keep_167, dX7_keep_168, dX7_keep_170, dX7_keep_172, dX7_keep_174, tg_174_24, cnd2_eq, dX7_keep_177, dX7_keep_179, dX7_keep_181, tg_181_17, cnd2_lt, dX7_keep_184, dX7_keep_186, dX7_keep_188, tg_188_14, dX7_keep_191, dX7_keep_193, dX7_keep_195, tg_195_7, dX7_keep_198, dX7_keep_199, tg_199_4, dX7_keep_202, dX7_keep_203, dX7_keep_205, dX7_keep_207, tg_207_8, dX7_keep_210, dX7_keep_212, tg_212_5, dX7_keep_215, dX7_keep_217, dX7_keep_219, dX7_keep_221, tg_221_8, dX7_keep_224, dX7_keep_226, tg_226_5, dX7_keep_229, dX7_keep_231, dX7_keep_233, dX7_keep_235, tg_235_8, dX7_keep_238, dX7_keep_240, tg_240_5, dX7_keep_243, dX7_keep_245, dX7_keep_247, dX7_keep_250, tg_250_m189, dX7_keep_253, dX7_keep_255, dX7_keep_257, tg_257_6, dX7_keep_260, dX7_keep_262, dX7_keep_263, dX7_keep_264, tg_264_20, dX7_keep_267, dX7_keep_268, dX7_keep_271, dX7_keep_272, dX7_keep_275, dX7_keep_276, dX7_keep_277, dX7_keep_280, dX7_keep_281, tg_281_33, dX7_keep_284, dX7_keep_285, dX7_keep_286, tg_286_15, dX7_keep_289, dX7_keep_290, dX7_keep_293, dX7_keep_294, dX7_keep_297, dX7_keep_298, tg_298_16, dX7_keep_301, dX7_keep_302, ic_2, dX7_keep_303, tg_303_10, dX7_keep_306, dX7_keep_307, dX7_keep_310, tg_310_4, dX7_keep_313, dX7_keep_314, dX7_keep_316, dX7_keep_317, dX7_keep_318, tg_318_8, dX7_keep_321, dX7_keep_323, tg_323_24, dX7_keep_326, dX7_keep_327, bc_m2, dX7_keep_329, tg_329_8, dX7_keep_332, dX7_keep_334, tg_334_13, dX7_keep_337, dX7_keep_339, dX7_keep_341, dX7_keep_342, dX7_keep_343, dX7_keep_346, dX7_keep_347, jX7_keep_1_63, jX7_keep_0_122, jX7_keep_0_198, st_aload_n, st_bipush, st_getfield, st_goto, st_i2l, st_iadd, st_iaload, st_iastore, st_iconst, st_idiv, st_ifCond, st_if_icmp, st_iinc, st_iload, st_iload_n, st_imul, st_invokestatic, st_invokevirtual, st_irem, st_ireturn, st_istore, st_istore_n, st_isub, st_lconst, st_ldc2_w]
      refine ⟨fun c => ?_, fun c => ?_⟩
      · rw [if_neg c] at hy; exact hy
      · rw [if_pos (Classical.not_not.mp c)] at hy; exact hy
    have loop : ∀ m k : Nat, k + m = KK → ∀ (be of ma : Int32) (s1 : MS) (σ1 : Hp), frm (fL lab 30) σ σ1 → Mod Γ lab (a, ad) s1 σ1 → R ψ s1 → (f k).1 ≤ k → (∃ gk, gk ≤ 121 ∧ (f k).2.1 = nI gk) → ((k = 0 ∧ be = -4) ∨ (0 < k ∧ be = nI (f k).1 ∧ of = (f k).2.1 ∧ ma = (f k).2.2.1)) → YG Γ mX7_keep K 61 [(0, .ref a), (1, .int (nI N)), (2, .int y), (3, .int (nI KK)), (4, .int be), (5, .int of), (6, .int ma), (7, .int (nI k))] [] σ1 := by
      intro m
      induction m with
      | zero =>
        intro k hk be of ma s1 σ1 hf1 hM1 hR1 hb hg hJk
        obtain rfl : k = KK := by omega
        rcases hJk with ⟨z, -⟩ | ⟨-, rfl, rfl, rfl⟩
        · omega
        · rw [fb, fg, fv]
          exact fin s1 σ1 hf1 hM1 hR1 (by omega)
      | succ m ih =>
        intro k hk be of ma s1 σ1 hf1 hM1 hR1 hb hg hJk
        have c1 := ltW (show k < KK by omega) hK
        obtain ⟨hag, hb2, hb1⟩ := hf k (by omega)
        have hi := ih (k + 1) (by omega)
        generalize (f k).2.2.2 = t at hag hb2 hb1
        obtain ⟨gk, hgk, hge⟩ := hg
        have htg : t.2.2.2.2.1 = nI G := hag.2.2.2.2.1.trans hGe
        have hbf := bet_full (s := ψ.1) (t := t) (g := gk) (n := N) (G := G) (v := (f k).2.2.1) hgk hN (by omega) hGe htg
        rw [← hge] at hbf
        obtain ⟨e, he, hgn⟩ := gone_n htg N
        -- the college that is tried
        have hR2 := hR1.asd
        have hS2 : SD (asd s1) ψ.1 := hR1.sd Like.rf
        have hsp : s1.1 0 = nI P := by rw [hR1.1.1, hPP]
        have hkp : ∀ d, d < 4 → s1.2.1 3 (20 + d) = ψ.1.2.1 d := fun d hd => hR1.1.2.2.2.2.2.2.1.2.1 d hd
        have h25 : s1.2.1 3 25 = ψ.1.2.2.2.2.1 := hR1.1.2.2.2.2.2.2.1.2.2.2.1
        have hdg : ∀ d, d < 4 → t.2.1 d = nI (dgt k P d) := fun d hd => by have := hag.2.1 d hd; rw [hPP] at this; exact this
        obtain ⟨sc1, ar1, it1⟩ := s1
        simp only at hsp hkp h25
        refine yvc1_ok (uX7_keep Γ) (S := [61]) 60 ?_
        simp only [yvc1, c1, yvc_s, s1i, s2i, s1l, s2l, sil, s1r, sir, siir, slir, srir, svr, sd1, sd2, lg, lput, ldel, isL_i, isL_r, isL_l, jmp, obj, obj1, fI, fR, arI, arL, arR, hput, f4_0, f4_1, f4_2, f4_3, lc_0, lc_1, rok_i, rok_b, rok_y, strF, fput_1, fput_2, csum_nil, csum_i, csum_l, csum_r, va_up_self, bx_uu, Int.reduceAdd, List.elem_nil, List.elem_cons, List.take_succ_cons, List.take_zero, List.drop_succ_cons, List.drop_zero, List.take_nil, List.drop_nil, List.reverse_cons, List.reverse_nil, List.nil_append, List.cons_append, List.append_nil, Option.toList_some, Option.toList_none, List.getElem?_cons_zero, List.getElem?_cons_succ, List.set_cons_zero, List.set_cons_succ, List.length_cons, List.length_nil, reduceIte, reduceCtorEq, and_true, true_and, and_self, or_true, true_or, false_and, and_false, not_true_eq_false, not_false_eq_true, true_implies, false_implies, implies_true, Nat.reduceAdd, Nat.reduceLT, Nat.reduceEqDiff, Nat.reduceLeDiff, Nat.reduceBEq, Nat.zero_add, Nat.lt_add_one, Bool.false_eq_true, Bool.or_false, Bool.or_true, Bool.or_self, Nat.zero_ne_one, Nat.one_ne_zero, ite_true, ite_false, ne_eq, Nat.reduceSub, Nat.succ_eq_add_one, Nat.zero_lt_succ, Nat.add_one_ne_zero, false_or, or_false, mX7_keep_c, mX7_keep_n, mX7_keep_r, mX7_keep_l, dX7_keep_0, dX7_keep_1, dX7_keep_2, dX7_keep_3, cl_7_201, dX7_keep_6, dX7_keep_9, tg_9_17, cnd1_eq, dX7_keep_12, dX7_keep_13, dX7_keep_14, cl_7_203, dX7_keep_17, cl_7_67, dX7_keep_20, dX7_keep_23, tg_23_5, cnd1_ne, dX7_keep_26, ic_m1, dX7_keep_27, dX7_keep_28, dX7_keep_29, fl_7_60_7, dX7_keep_32, dX7_keep_33, dX7_keep_36, dX7_keep_37, dX7_keep_38, dX7_keep_41, dX7_keep_42, dX7_keep_43, dX7_keep_46, dX7_keep_47, dX7_keep_48, bc_m4, dX7_keep_50, dX7_keep_52, ic_0, dX7_keep_53, dX7_keep_55, dX7_keep_56, dX7_keep_58, dX7_keep_59, dX7_keep_61, dX7_keep_63, dX7_keep_64, tg_64_189, cnd2_ge, dX7_keep_67, dX7_keep_68, dX7_keep_71, dX7_keep_73, dX7_keep_75, dX7_keep_76, dX7_keep_78, ic_3, dX7_keep_79, dX7_keep_81, dX7_keep_83, tg_83_65, cnd1_lt, dX7_keep_86, dX7_keep_88, dX7_keep_89, fl_7_17_7, dX7_keep_92, bc_20, dX7_keep_94, dX7_keep_96, dX7_keep_97, dX7_keep_98, dX7_keep_100, dX7_keep_101, dX7_keep_104, dX7_keep_105, tg_105_7, cnd2_ne, dX7_keep_108, dX7_keep_109, tg_109_4, dX7_keep_112, ic_1, dX7_keep_113, dX7_keep_114, dX7_keep_116, dX7_keep_117, fl_7_20_7, dX7_keep_120, dX7_keep_122, dX7_keep_124, dX7_keep_125, dX7_keep_127, dX7_keep_128, dX7_keep_131, dX7_keep_132, dX7_keep_133, dX7_keep_135, dX7_keep_136, dX7_keep_139, dX7_keep_140, dX7_keep_142, dX7_keep_145, tg_145_m64, dX7_keep_148, dX7_keep_149, dX7_keep_150, dX7_keep_153, dX7_keep_154, dX7_keep_157, bc_25, dX7_keep_159, dX7_keep_160, dX7_keep_161, dX7_keep_164, dX7_keep_166, dX7_keep_167, dX7_keep_168, dX7_keep_170, dX7_keep_172, dX7_keep_174, tg_174_24, cnd2_eq, dX7_keep_177, dX7_keep_179, dX7_keep_181, tg_181_17, cnd2_lt, dX7_keep_184, dX7_keep_186, dX7_keep_188, tg_188_14, dX7_keep_191, dX7_keep_193, dX7_keep_195, tg_195_7, dX7_keep_198, dX7_keep_199, tg_199_4, dX7_keep_202, dX7_keep_203, dX7_keep_205, dX7_keep_207, tg_207_8, dX7_keep_210, dX7_keep_212, tg_212_5, dX7_keep_215, dX7_keep_217, dX7_keep_219, dX7_keep_221, tg_221_8, dX7_keep_224, dX7_keep_226, tg_226_5, dX7_keep_229, dX7_keep_231, dX7_keep_233, dX7_keep_235, tg_235_8, dX7_keep_238, dX7_keep_240, tg_240_5, dX7_keep_243, dX7_keep_245, dX7_keep_247, dX7_keep_250, tg_250_m189, dX7_keep_253, dX7_keep_255, dX7_keep_257, tg_257_6, dX7_keep_260, dX7_keep_262, dX7_keep_263, dX7_keep_264, tg_264_20, dX7_keep_267, dX7_keep_268, dX7_keep_271, dX7_keep_272, dX7_keep_275, dX7_keep_276, dX7_keep_277, dX7_keep_280, dX7_keep_281, tg_281_33, dX7_keep_284, dX7_keep_285, dX7_keep_286, tg_286_15, dX7_keep_289, dX7_keep_290, dX7_keep_293, dX7_keep_294, dX7_keep_297, dX7_keep_298, tg_298_16, dX7_keep_301, dX7_keep_302, ic_2, dX7_keep_303, tg_303_10, dX7_keep_306, dX7_keep_307, dX7_keep_310, tg_310_4, dX7_keep_313, dX7_keep_314, dX7_keep_316, dX7_keep_317, dX7_keep_318, tg_318_8, dX7_keep_321, dX7_keep_323, tg_323_24, dX7_keep_326, dX7_keep_327, bc_m2, dX7_keep_329, tg_329_8, dX7_keep_332, dX7_keep_334, tg_334_13, dX7_keep_337, dX7_keep_339, dX7_keep_341, dX7_keep_342, dX7_keep_343, dX7_keep_346, dX7_keep_347, jX7_keep_1_63, jX7_keep_0_122, jX7_keep_0_198, st_aload_n, st_bipush, st_getfield, st_goto, st_i2l, st_iadd, st_iaload, st_iastore, st_iconst, st_idiv, st_ifCond, st_if_icmp, st_iinc, st_iload, st_iload_n, st_imul, st_invokestatic, st_invokevirtual, st_irem, st_ireturn, st_istore, st_istore_n, st_isub, st_lconst, st_ldc2_w]
        refine ⟨lab, (a, ad), _, rfl, hM1, trivial, ?_⟩
        rintro σ2 s2 r2 ⟨hs2, rfl⟩ hf2 hM2
        rw [hs2] at hM2
        refine yvc_ok (uX7_keep Γ) (S := [81]) 60 _ _ _ _ ?_
        simp only [yvc_s, s1i, s2i, s1l, s2l, sil, s1r, sir, siir, slir, srir, svr, sd1, sd2, lg, lput, ldel, isL_i, isL_r, isL_l, jmp, obj, obj1, fI, fR, arI, arL, arR, hput, f4_0, f4_1, f4_2, f4_3, lc_0, lc_1, rok_i, rok_b, rok_y, strF, fput_1, fput_2, csum_nil, csum_i, csum_l, csum_r, va_up_self, bx_uu, Int.reduceAdd, List.elem_nil, List.elem_cons, List.take_succ_cons, List.take_zero, List.drop_succ_cons, List.drop_zero, List.take_nil, List.drop_nil, List.reverse_cons, List.reverse_nil, List.nil_append, List.cons_append, List.append_nil, Option.toList_some, Option.toList_none, List.getElem?_cons_zero, List.getElem?_cons_succ, List.set_cons_zero, List.set_cons_succ, List.length_cons, List.length_nil, reduceIte, reduceCtorEq, and_true, true_and, and_self, or_true, true_or, false_and, and_false, not_true_eq_false, not_false_eq_true, true_implies, false_implies, implies_true, Nat.reduceAdd, Nat.reduceLT, Nat.reduceEqDiff, Nat.reduceLeDiff, Nat.reduceBEq, Nat.zero_add, Nat.lt_add_one, Bool.false_eq_true, Bool.or_false, Bool.or_true, Bool.or_self, Nat.zero_ne_one, Nat.one_ne_zero, ite_true, ite_false, ne_eq, Nat.reduceSub, Nat.succ_eq_add_one, Nat.zero_lt_succ, Nat.add_one_ne_zero, false_or, or_false, mX7_keep_c, mX7_keep_n, mX7_keep_r, mX7_keep_l, dX7_keep_0, dX7_keep_1, dX7_keep_2, dX7_keep_3, cl_7_201, dX7_keep_6, dX7_keep_9, tg_9_17, cnd1_eq, dX7_keep_12, dX7_keep_13, dX7_keep_14, cl_7_203, dX7_keep_17, cl_7_67, dX7_keep_20, dX7_keep_23, tg_23_5, cnd1_ne, dX7_keep_26, ic_m1, dX7_keep_27, dX7_keep_28, dX7_keep_29, fl_7_60_7, dX7_keep_32, dX7_keep_33, dX7_keep_36, dX7_keep_37, dX7_keep_38, dX7_keep_41, dX7_keep_42, dX7_keep_43, dX7_keep_46, dX7_keep_47, dX7_keep_48, bc_m4, dX7_keep_50, dX7_keep_52, ic_0, dX7_keep_53, dX7_keep_55, dX7_keep_56, dX7_keep_58, dX7_keep_59, dX7_keep_61, dX7_keep_63, dX7_keep_64, tg_64_189, cnd2_ge, dX7_keep_67, dX7_keep_68, dX7_keep_71, dX7_keep_73, dX7_keep_75, dX7_keep_76, dX7_keep_78, ic_3, dX7_keep_79, dX7_keep_81, dX7_keep_83, tg_83_65, cnd1_lt, dX7_keep_86, dX7_keep_88, dX7_keep_89, fl_7_17_7, dX7_keep_92, bc_20, dX7_keep_94, dX7_keep_96, dX7_keep_97, dX7_keep_98, dX7_keep_100, dX7_keep_101, dX7_keep_104, dX7_keep_105, tg_105_7, cnd2_ne, dX7_keep_108, dX7_keep_109, tg_109_4, dX7_keep_112, ic_1, dX7_keep_113, dX7_keep_114, dX7_keep_116, dX7_keep_117, fl_7_20_7, dX7_keep_120, dX7_keep_122, dX7_keep_124, dX7_keep_125, dX7_keep_127, dX7_keep_128, dX7_keep_131, dX7_keep_132, dX7_keep_133, dX7_keep_135, dX7_keep_136, dX7_keep_139, dX7_keep_140, dX7_keep_142, dX7_keep_145, tg_145_m64, dX7_keep_148, dX7_keep_149, dX7_keep_150, dX7_keep_153, dX7_keep_154, dX7_keep_157, bc_25, dX7_keep_159, dX7_keep_160, dX7_keep_161, dX7_keep_164, dX7_keep_166, dX7_keep_167, dX7_keep_168, dX7_keep_170, dX7_keep_172, dX7_keep_174, tg_174_24, cnd2_eq, dX7_keep_177, dX7_keep_179, dX7_keep_181, tg_181_17, cnd2_lt, dX7_keep_184, dX7_keep_186, dX7_keep_188, tg_188_14, dX7_keep_191, dX7_keep_193, dX7_keep_195, tg_195_7, dX7_keep_198, dX7_keep_199, tg_199_4, dX7_keep_202, dX7_keep_203, dX7_keep_205, dX7_keep_207, tg_207_8, dX7_keep_210, dX7_keep_212, tg_212_5, dX7_keep_215, dX7_keep_217, dX7_keep_219, dX7_keep_221, tg_221_8, dX7_keep_224, dX7_keep_226, tg_226_5, dX7_keep_229, dX7_keep_231, dX7_keep_233, dX7_keep_235, tg_235_8, dX7_keep_238, dX7_keep_240, tg_240_5, dX7_keep_243, dX7_keep_245, dX7_keep_247, dX7_keep_250, tg_250_m189, dX7_keep_253, dX7_keep_255, dX7_keep_257, tg_257_6, dX7_keep_260, dX7_keep_262, dX7_keep_263, dX7_keep_264, tg_264_20, dX7_keep_267, dX7_keep_268, dX7_keep_271, dX7_keep_272, dX7_keep_275, dX7_keep_276, dX7_keep_277, dX7_keep_280, dX7_keep_281, tg_281_33, dX7_keep_284, dX7_keep_285, dX7_keep_286, tg_286_15, dX7_keep_289, dX7_keep_290, dX7_keep_293, dX7_keep_294, dX7_keep_297, dX7_keep_298, tg_298_16, dX7_keep_301, dX7_keep_302, ic_2, dX7_keep_303, tg_303_10, dX7_keep_306, dX7_keep_307, dX7_keep_310, tg_310_4, dX7_keep_313, dX7_keep_314, dX7_keep_316, dX7_keep_317, dX7_keep_318, tg_318_8, dX7_keep_321, dX7_keep_323, tg_323_24, dX7_keep_326, dX7_keep_327, bc_m2, dX7_keep_329, tg_329_8, dX7_keep_332, dX7_keep_334, tg_334_13, dX7_keep_337, dX7_keep_339, dX7_keep_341, dX7_keep_342, dX7_keep_343, dX7_keep_346, dX7_keep_347, jX7_keep_1_63, jX7_keep_0_122, jX7_keep_0_198, st_aload_n, st_bipush, st_getfield, st_goto, st_i2l, st_iadd, st_iaload, st_iastore, st_iconst, st_idiv, st_ifCond, st_if_icmp, st_iinc, st_iload, st_iload_n, st_imul, st_invokestatic, st_invokevirtual, st_irem, st_ireturn, st_istore, st_istore_n, st_isub, st_lconst, st_ldc2_w]
        refine dstep sc1 ar1 it1 3 k 0 _ σ2 be of ma (nI k) hsp (by decide) (by omega) hM2 (fun σ3 hf3 hM3 => ?_)
        refine dstep sc1 ar1 it1 2 (k / P) _ _ σ3 be of ma (nI k) hsp (by decide) (Nat.le_trans (Nat.div_le_self _ _) (by omega)) hM3 (fun σ4 hf4 hM4 => ?_)
        refine dstep sc1 ar1 it1 1 (k / P / P) _ _ σ4 be of ma (nI k) hsp (by decide) (Nat.le_trans (Nat.div_le_self _ _) (Nat.le_trans (Nat.div_le_self _ _) (by omega))) hM4 (fun σ5 hf5 hM5 => ?_)
        refine dstep sc1 ar1 it1 0 (k / P / P / P) _ _ σ5 be of ma (nI k) hsp (by decide) (Nat.le_trans (Nat.div_le_self _ _) (Nat.le_trans (Nat.div_le_self _ _) (Nat.le_trans (Nat.div_le_self _ _) (by omega)))) hM5 (fun σ6 hf6 hM6 => ?_)
        rw [m1_e]
        have how := ow4 (kp' := t.2.1) (kp := ψ.1.2.1) (hdg 0 (by decide)) (hdg 1 (by decide)) (hdg 2 (by decide)) (hdg 3 (by decide))
        rw [hkp 3 (by decide), hkp 2 (by decide), hkp 1 (by decide), hkp 0 (by decide), show nI (k % P) = nI (dgt k P 3) from rfl, show nI (k / P % P) = nI (dgt k P 2) from rfl, show nI (k / P / P % P) = nI (dgt k P 1) from rfl, show nI (k / P / P / P % P) = nI (dgt k P 0) from rfl, how]
        have hcl : ∀ d, d < 4 → dgt k P d < P := fun d _ => dgt_lt hP0 d
        have hS6 : SD (sc1, updA ar1 4 (upd (upd (upd (upd (cpN 27 (ar1 3) (ar1 4)) (20 + 3) (nI (dgt k P 3))) (20 + 2) (nI (dgt k P 2))) (20 + 1) (nI (dgt k P 1))) (20 + 0) (nI (dgt k P 0))), it1) (ψ.1.1, upd (upd (upd (upd ψ.1.2.1 3 (nI (dgt k P 3))) 2 (nI (dgt k P 2))) 1 (nI (dgt k P 1))) 0 (nI (dgt k P 0)), ψ.1.2.2) := by
          refine hS2.fr (⟨rfl, fun _ _ => rfl, fun j h4 _ => ?_⟩) rfl rfl rfl ?_
          · simp only [asd]
            rw [updA_ne h4, updA_ne h4]
          · have hr := hS2.2
            simp only [asd, updA_at] at hr ⊢
            have hP5 : ψ.1.2.2.2.2.2.2.1 ≤ 5 := by rw [hPP]; exact hP
            exact (((hr.k hP5 (show 3 < 4 by decide) (nI (dgt k P 3))).k hP5 (show 2 < 4 by decide) (nI (dgt k P 2))).k hP5 (show 1 < 4 by decide) (nI (dgt k P 1))).k hP5 (show 0 < 4 by decide) (nI (dgt k P 0))
        have hLt : Like t (ψ.1.1, upd (upd (upd (upd ψ.1.2.1 3 (nI (dgt k P 3))) 2 (nI (dgt k P 2))) 1 (nI (dgt k P 1))) 0 (nI (dgt k P 0)), ψ.1.2.2) := by
          obtain ⟨g1, g2, g3, g4, g5, g6, g7, g8⟩ := hag
          refine ⟨fun j hj => g1 j ?_, fun d hd => ?_, fun p hp => g3 p ?_, g4, g5, g6, g7, g8⟩
          · have : j < 4 * ψ.1.2.2.2.2.2.2.1 := hj
            rw [hPP] at this
            omega
          · rw [hdg d hd]
            rcases (show d = 0 ∨ d = 1 ∨ d = 2 ∨ d = 3 by omega) with rfl | rfl | rfl | rfl <;> rfl
          · have : p < ψ.1.2.2.2.2.2.2.1 := hp
            rw [hPP] at this
            omega
        have hS7 := hS6.like hLt
        have hJt : CJ D t := by
          obtain ⟨g1, g2, g3, g4, g5, g6, g7, g8⟩ := hag
          refine ⟨⟨by rw [g7, hPP]; exact hP, fun d hd => Or.inr ⟨dgt k P d, by rw [g7, hPP]; exact dgt_lt hP0 d, hdg d hd⟩⟩, fun j hj => ?_, g4.trans hJ.2.2.1, G, hG, htg⟩
          rw [g7] at hj
          rw [g1 j (by rw [hPP] at hj; omega)]
          exact hJ.2.1 j hj
        refine yvc1_ok (uX7_keep Γ) (S := [81]) 60 ?_
        simp only [yvc1, lm1, yvc_s, s1i, s2i, s1l, s2l, sil, s1r, sir, siir, slir, srir, svr, sd1, sd2, lg, lput, ldel, isL_i, isL_r, isL_l, jmp, obj, obj1, fI, fR, arI, arL, arR, hput, f4_0, f4_1, f4_2, f4_3, lc_0, lc_1, rok_i, rok_b, rok_y, strF, fput_1, fput_2, csum_nil, csum_i, csum_l, csum_r, va_up_self, bx_uu, Int.reduceAdd, List.elem_nil, List.elem_cons, List.take_succ_cons, List.take_zero, List.drop_succ_cons, List.drop_zero, List.take_nil, List.drop_nil, List.reverse_cons, List.reverse_nil, List.nil_append, List.cons_append, List.append_nil, Option.toList_some, Option.toList_none, List.getElem?_cons_zero, List.getElem?_cons_succ, List.set_cons_zero, List.set_cons_succ, List.length_cons, List.length_nil, reduceIte, reduceCtorEq, and_true, true_and, and_self, or_true, true_or, false_and, and_false, not_true_eq_false, not_false_eq_true, true_implies, false_implies, implies_true, Nat.reduceAdd, Nat.reduceLT, Nat.reduceEqDiff, Nat.reduceLeDiff, Nat.reduceBEq, Nat.zero_add, Nat.lt_add_one, Bool.false_eq_true, Bool.or_false, Bool.or_true, Bool.or_self, Nat.zero_ne_one, Nat.one_ne_zero, ite_true, ite_false, ne_eq, Nat.reduceSub, Nat.succ_eq_add_one, Nat.zero_lt_succ, Nat.add_one_ne_zero, false_or, or_false, mX7_keep_c, mX7_keep_n, mX7_keep_r, mX7_keep_l, dX7_keep_0, dX7_keep_1, dX7_keep_2, dX7_keep_3, cl_7_201, dX7_keep_6, dX7_keep_9, tg_9_17, cnd1_eq, dX7_keep_12, dX7_keep_13, dX7_keep_14, cl_7_203, dX7_keep_17, cl_7_67, dX7_keep_20, dX7_keep_23, tg_23_5, cnd1_ne, dX7_keep_26, ic_m1, dX7_keep_27, dX7_keep_28, dX7_keep_29, fl_7_60_7, dX7_keep_32, dX7_keep_33, dX7_keep_36, dX7_keep_37, dX7_keep_38, dX7_keep_41, dX7_keep_42, dX7_keep_43, dX7_keep_46, dX7_keep_47, dX7_keep_48, bc_m4, dX7_keep_50, dX7_keep_52, ic_0, dX7_keep_53, dX7_keep_55, dX7_keep_56, dX7_keep_58, dX7_keep_59, dX7_keep_61, dX7_keep_63, dX7_keep_64, tg_64_189, cnd2_ge, dX7_keep_67, dX7_keep_68, dX7_keep_71, dX7_keep_73, dX7_keep_75, dX7_keep_76, dX7_keep_78, ic_3, dX7_keep_79, dX7_keep_81, dX7_keep_83, tg_83_65, cnd1_lt, dX7_keep_86, dX7_keep_88, dX7_keep_89, fl_7_17_7, dX7_keep_92, bc_20, dX7_keep_94, dX7_keep_96, dX7_keep_97, dX7_keep_98, dX7_keep_100, dX7_keep_101, dX7_keep_104, dX7_keep_105, tg_105_7, cnd2_ne, dX7_keep_108, dX7_keep_109, tg_109_4, dX7_keep_112, ic_1, dX7_keep_113, dX7_keep_114, dX7_keep_116, dX7_keep_117, fl_7_20_7, dX7_keep_120, dX7_keep_122, dX7_keep_124, dX7_keep_125, dX7_keep_127, dX7_keep_128, dX7_keep_131, dX7_keep_132, dX7_keep_133, dX7_keep_135, dX7_keep_136, dX7_keep_139, dX7_keep_140, dX7_keep_142, dX7_keep_145, tg_145_m64, dX7_keep_148, dX7_keep_149, dX7_keep_150, dX7_keep_153, dX7_keep_154, dX7_keep_157, bc_25, dX7_keep_159, dX7_keep_160, dX7_keep_161, dX7_keep_164, dX7_keep_166, dX7_keep_167, dX7_keep_168, dX7_keep_170, dX7_keep_172, dX7_keep_174, tg_174_24, cnd2_eq, dX7_keep_177, dX7_keep_179, dX7_keep_181, tg_181_17, cnd2_lt, dX7_keep_184, dX7_keep_186, dX7_keep_188, tg_188_14, dX7_keep_191, dX7_keep_193, dX7_keep_195, tg_195_7, dX7_keep_198, dX7_keep_199, tg_199_4, dX7_keep_202, dX7_keep_203, dX7_keep_205, dX7_keep_207, tg_207_8, dX7_keep_210, dX7_keep_212, tg_212_5, dX7_keep_215, dX7_keep_217, dX7_keep_219, dX7_keep_221, tg_221_8, dX7_keep_224, dX7_keep_226, tg_226_5, dX7_keep_229, dX7_keep_231, dX7_keep_233, dX7_keep_235, tg_235_8, dX7_keep_238, dX7_keep_240, tg_240_5, dX7_keep_243, dX7_keep_245, dX7_keep_247, dX7_keep_250, tg_250_m189, dX7_keep_253, dX7_keep_255, dX7_keep_257, tg_257_6, dX7_keep_260, dX7_keep_262, dX7_keep_263, dX7_keep_264, tg_264_20, dX7_keep_267, dX7_keep_268, dX7_keep_271, dX7_keep_272, dX7_keep_275, dX7_keep_276, dX7_keep_277, dX7_keep_280, dX7_keep_281, tg_281_33, dX7_keep_284, dX7_keep_285, dX7_keep_286, tg_286_15, dX7_keep_289, dX7_keep_290, dX7_keep_293, dX7_keep_294, dX7_keep_297, dX7_keep_298, tg_298_16, dX7_keep_301, dX7_keep_302, ic_2, dX7_keep_303, tg_303_10, dX7_keep_306, dX7_keep_307, dX7_keep_310, tg_310_4, dX7_keep_313, dX7_keep_314, dX7_keep_316, dX7_keep_317, dX7_keep_318, tg_318_8, dX7_keep_321, dX7_keep_323, tg_323_24, dX7_keep_326, dX7_keep_327, bc_m2, dX7_keep_329, tg_329_8, dX7_keep_332, dX7_keep_334, tg_334_13, dX7_keep_337, dX7_keep_339, dX7_keep_341, dX7_keep_342, dX7_keep_343, dX7_keep_346, dX7_keep_347, jX7_keep_1_63, jX7_keep_0_122, jX7_keep_0_198, st_aload_n, st_bipush, st_getfield, st_goto, st_i2l, st_iadd, st_iaload, st_iastore, st_iconst, st_idiv, st_ifCond, st_if_icmp, st_iinc, st_iload, st_iload_n, st_imul, st_invokestatic, st_invokevirtual, st_irem, st_ireturn, st_istore, st_istore_n, st_isub, st_lconst, st_ldc2_w]
        refine ⟨N, t, lab, (a, ad), _, rfl, hM6, ⟨hS7, ⟨D, hJt, by omega⟩, by omega⟩, ?_⟩
        rintro σ7 ⟨sc7, ar7, it7⟩ r7 ⟨hF7, hS8, rfl⟩ hf7 hM7
        have hF0 : SFr (sc1, ar1, it1) (sc7, ar7, it7) := SFr.side.tr hF7
        have hR7 := hR1.fr hF0
        have f25 : ar7 3 25 = ψ.1.2.2.2.2.1 := hR7.1.2.2.2.2.2.2.1.2.2.2.1
        generalize ow t.2.1 ψ.1.2.1 4 = w at hbf ⊢
        generalize daysC t N = z at hS8 hbf hgn
        have f4 : ar7 4 25 = z.2.2.2.2.1 := hS8.2.2.2.2.1
        have ho : z.2.2.2.2.1 - ψ.1.2.2.2.2.1 = nI e := by
          rw [hgn, hGe, pk_sub (by omega)]
          congr 1
          omega
        rw [ho] at hbf
        have hfr := ((((((hf1.tr hf2).tr hf3).tr hf4).tr hf5).tr hf6).tr hf7)
        obtain ⟨⟨m1, -⟩, e1, -⟩ := id hM7
        obtain ⟨m3, e3⟩ := hM7.arr 3 rfl
        obtain ⟨m4, e4⟩ := hM7.arr 4 rfl
        simp only [ME, iA, lenM] at m1 e1 m3 e3 m4 e4
        -- better, or not
        have yes : (nI e < (f k).2.1 ∨ nI e = (f k).2.1 ∧ w < (f k).2.2.1) → YG Γ mX7_keep K 61 [(0, .ref a), (1, .int (nI N)), (2, .int y), (3, .int (nI KK)), (4, .int (nI k)), (5, .int (nI e)), (6, .int w), (7, .int (nI (k + 1)))] [] σ7 := by
          intro cc
          rw [if_pos cc] at hbf
          rw [hbf] at hb2 hb1
          simp only [if_true] at hb1
          simp only [Prod.mk.injEq] at hb2
          exact hi _ _ _ _ σ7 hfr hM7 hR7 (by omega) ⟨e, by omega, hb2.1.symm⟩ (Or.inr ⟨by omega, by rw [hb1], hb2.1, hb2.2⟩)
        have nope : ¬ (nI e < (f k).2.1 ∨ nI e = (f k).2.1 ∧ w < (f k).2.2.1) → 0 < k → YG Γ mX7_keep K 61 [(0, .ref a), (1, .int (nI N)), (2, .int y), (3, .int (nI KK)), (4, .int (nI (f k).1)), (5, .int (f k).2.1), (6, .int (f k).2.2.1), (7, .int (nI (k + 1)))] [] σ7 := by
          intro cc hk0
          rw [if_neg cc] at hbf
          rw [hbf] at hb2 hb1
          simp only [Bool.false_eq_true, if_false] at hb1
          simp only [Prod.mk.injEq] at hb2
          exact hi _ _ _ _ σ7 hfr hM7 hR7 (by omega) ⟨gk, hgk, hb2.1.symm.trans hge⟩ (Or.inr ⟨by omega, by rw [hb1], hb2.1, hb2.2⟩)
        refine yvc_ok (uX7_keep Γ) (S := [61]) 90 _ _ _ _ ?_
        simp only [m1, e1, m3, e3, m4, e4, in25_27, n25, f25, f4, ho, i1e0, nI_1, yvc_s, s1i, s2i, s1l, s2l, sil, s1r, sir, siir, slir, srir, svr, sd1, sd2, lg, lput, ldel, isL_i, isL_r, isL_l, jmp, obj, obj1, fI, fR, arI, arL, arR, hput, f4_0, f4_1, f4_2, f4_3, lc_0, lc_1, rok_i, rok_b, rok_y, strF, fput_1, fput_2, csum_nil, csum_i, csum_l, csum_r, va_up_self, bx_uu, Int.reduceAdd, List.elem_nil, List.elem_cons, List.take_succ_cons, List.take_zero, List.drop_succ_cons, List.drop_zero, List.take_nil, List.drop_nil, List.reverse_cons, List.reverse_nil, List.nil_append, List.cons_append, List.append_nil, Option.toList_some, Option.toList_none, List.getElem?_cons_zero, List.getElem?_cons_succ, List.set_cons_zero, List.set_cons_succ, List.length_cons, List.length_nil, reduceIte, reduceCtorEq, and_true, true_and, and_self, or_true, true_or, false_and, and_false, not_true_eq_false, not_false_eq_true, true_implies, false_implies, implies_true, Nat.reduceAdd, Nat.reduceLT, Nat.reduceEqDiff, Nat.reduceLeDiff, Nat.reduceBEq, Nat.zero_add, Nat.lt_add_one, Bool.false_eq_true, Bool.or_false, Bool.or_true, Bool.or_self, Nat.zero_ne_one, Nat.one_ne_zero, ite_true, ite_false, ne_eq, Nat.reduceSub, Nat.succ_eq_add_one, Nat.zero_lt_succ, Nat.add_one_ne_zero, false_or, or_false, mX7_keep_c, mX7_keep_n, mX7_keep_r, mX7_keep_l, dX7_keep_0, dX7_keep_1, dX7_keep_2, dX7_keep_3, cl_7_201, dX7_keep_6, dX7_keep_9, tg_9_17, cnd1_eq, dX7_keep_12, dX7_keep_13, dX7_keep_14, cl_7_203, dX7_keep_17, cl_7_67, dX7_keep_20, dX7_keep_23, tg_23_5, cnd1_ne, dX7_keep_26, ic_m1, dX7_keep_27, dX7_keep_28, dX7_keep_29, fl_7_60_7, dX7_keep_32, dX7_keep_33, dX7_keep_36, dX7_keep_37, dX7_keep_38, dX7_keep_41, dX7_keep_42, dX7_keep_43, dX7_keep_46, dX7_keep_47, dX7_keep_48, bc_m4, dX7_keep_50, dX7_keep_52, ic_0, dX7_keep_53, dX7_keep_55, dX7_keep_56, dX7_keep_58, dX7_keep_59, dX7_keep_61, dX7_keep_63, dX7_keep_64, tg_64_189, cnd2_ge, dX7_keep_67, dX7_keep_68, dX7_keep_71, dX7_keep_73, dX7_keep_75, dX7_keep_76, dX7_keep_78, ic_3, dX7_keep_79, dX7_keep_81, dX7_keep_83, tg_83_65, cnd1_lt, dX7_keep_86, dX7_keep_88, dX7_keep_89, fl_7_17_7, dX7_keep_92, bc_20, dX7_keep_94, dX7_keep_96, dX7_keep_97, dX7_keep_98, dX7_keep_100, dX7_keep_101, dX7_keep_104, dX7_keep_105, tg_105_7, cnd2_ne, dX7_keep_108, dX7_keep_109, tg_109_4, dX7_keep_112, ic_1, dX7_keep_113, dX7_keep_114, dX7_keep_116, dX7_keep_117, fl_7_20_7, dX7_keep_120, dX7_keep_122, dX7_keep_124, dX7_keep_125, dX7_keep_127, dX7_keep_128, dX7_keep_131, dX7_keep_132, dX7_keep_133, dX7_keep_135, dX7_keep_136, dX7_keep_139, dX7_keep_140, dX7_keep_142, dX7_keep_145, tg_145_m64, dX7_keep_148, dX7_keep_149, dX7_keep_150, dX7_keep_153, dX7_keep_154, dX7_keep_157, bc_25, dX7_keep_159, dX7_keep_160, dX7_keep_161, dX7_keep_164, dX7_keep_166, dX7_keep_167, dX7_keep_168, dX7_keep_170, dX7_keep_172, dX7_keep_174, tg_174_24, cnd2_eq, dX7_keep_177, dX7_keep_179, dX7_keep_181, tg_181_17, cnd2_lt, dX7_keep_184, dX7_keep_186, dX7_keep_188, tg_188_14, dX7_keep_191, dX7_keep_193, dX7_keep_195, tg_195_7, dX7_keep_198, dX7_keep_199, tg_199_4, dX7_keep_202, dX7_keep_203, dX7_keep_205, dX7_keep_207, tg_207_8, dX7_keep_210, dX7_keep_212, tg_212_5, dX7_keep_215, dX7_keep_217, dX7_keep_219, dX7_keep_221, tg_221_8, dX7_keep_224, dX7_keep_226, tg_226_5, dX7_keep_229, dX7_keep_231, dX7_keep_233, dX7_keep_235, tg_235_8, dX7_keep_238, dX7_keep_240, tg_240_5, dX7_keep_243, dX7_keep_245, dX7_keep_247, dX7_keep_250, tg_250_m189, dX7_keep_253, dX7_keep_255, dX7_keep_257, tg_257_6, dX7_keep_260, dX7_keep_262, dX7_keep_263, dX7_keep_264, tg_264_20, dX7_keep_267, dX7_keep_268, dX7_keep_271, dX7_keep_272, dX7_keep_275, dX7_keep_276, dX7_keep_277, dX7_keep_280, dX7_keep_281, tg_281_33, dX7_keep_284, dX7_keep_285, dX7_keep_286, tg_286_15, dX7_keep_289, dX7_keep_290, dX7_keep_293, dX7_keep_294, dX7_keep_297, dX7_keep_298, tg_298_16, dX7_keep_301, dX7_keep_302, ic_2, dX7_keep_303, tg_303_10, dX7_keep_306, dX7_keep_307, dX7_keep_310, tg_310_4, dX7_keep_313, dX7_keep_314, dX7_keep_316, dX7_keep_317, dX7_keep_318, tg_318_8, dX7_keep_321, dX7_keep_323, tg_323_24, dX7_keep_326, dX7_keep_327, bc_m2, dX7_keep_329, tg_329_8, dX7_keep_332, dX7_keep_334, tg_334_13, dX7_keep_337, dX7_keep_339, dX7_keep_341, dX7_keep_342, dX7_keep_343, dX7_keep_346, dX7_keep_347, jX7_keep_1_63, jX7_keep_0_122, jX7_keep_0_198, st_aload_n, st_bipush, st_getfield, st_goto, st_i2l, st_iadd, st_iaload, st_iastore, st_iconst, st_idiv, st_ifCond, st_if_icmp, st_iinc, st_iload, st_iload_n, st_imul, st_invokestatic, st_invokevirtual, st_irem, st_ireturn, st_istore, st_istore_n, st_isub, st_lconst, st_ldc2_w]
        rcases hJk with ⟨k0, rfl⟩ | ⟨hk0, rfl, rfl, rfl⟩
        · have c0 : nI e < (f k).2.1 := by
            rw [k0, f02]
            exact (nI_ltI (b := 121) (by omega) (by decide)).mpr (by omega)
          exact ⟨fun _ => (yes (Or.inl c0)).ext [(8, _), (9, _), (10, _), (11, _)], fun z => absurd rfl z⟩
        · refine ⟨fun z => absurd z (nI_m4 (by omega)), fun _ => ⟨fun z => (yes (Or.inl z)).ext [(8, _), (9, _), (10, _), (11, _)], fun z => ⟨fun z2 => (nope (fun cc => cc.elim z (fun c => z2 c.1)) hk0).ext [(8, _), (9, _), (10, _), (11, _)], fun z2 => ⟨fun z3 => (nope (fun cc => cc.elim z (fun c => i_nlt.mpr z3 c.2)) hk0).ext [(8, _), (9, _), (10, _), (11, _)], fun z3 => (yes (Or.inr ⟨Classical.not_not.mp z2, i_nle.mp z3⟩)).ext [(8, _), (9, _), (10, _), (11, _)]⟩⟩⟩⟩
    exact loop KK 0 (by omega) _ _ _ _ σ frm.rf hM hR (by omega) ⟨121, by omega, f02⟩ (Or.inl ⟨rfl, rfl⟩)
