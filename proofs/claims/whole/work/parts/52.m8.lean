/-! ===== the reference: isValue whole ===== -/
def kyOf (q : Option Nat) : Int32 := match q with | none => -1 | some q => nI q
section
variable {d : Nat} {h : PzH} {Q : Option Value → PzH → Prop} {mo : Nat} {g : Nat → Nat → Int32} {x : Nat → Nat} {n : Nat} {w : Int32} {o k : Nat → Int32} {p dp : Nat}
theorem iv_k (H : MO h mo) (T : TX (g 1) n x) (hz : g 0 9 = nI n) (hp : p < 2 ^ 29) (hd : dp < 8) {v6 : Value} (ho : o dp = 1) (hx : x p ≠ 101) {ky : Option Nat} (hk : k dp = kyOf ky) (hq : ∀ q, ky = some q → stF x n q = none ∧ q < 2 ^ 29) : wp (d + 3) mX10_isValue 46 [.ref mo, .int (nI p), .int 1, .int (bI (x p)), .int (hwOf (dp + 1) o), .int 1, v6] [] (mh h mo (GI g w (dp + 1) o k)) Q ↔ (match stF x n p with | some w' => Q (some (.int 0)) (mh h mo (GI g (nI w') (dp + 1) (upd o dp 2) (upd k dp (nI p)))) | none => if rsk x ky p = true then wp (d + 3) mX10_isValue 281 [.ref mo, .int (nI p), .int 1, .int (bI (x p)), .int (hwOf (dp + 1) o), .int 0, .int (nI (stEnd x p))] [] (mh h mo (GI g w (dp + 1) (upd o dp 2) (upd k dp (nI p)))) Q else Q (some (.int 0)) (mh h mo (GI g (nI p) (dp + 1) o k))) := by
  have gw : ∀ w', pz_u2 (GI g w (dp + 1) o k) 0 10 w' = GI g w' (dp + 1) o k := by
    intro w'
    simp only [GI, pq_C_sI, pq_C_sJ, pq_C_sR, pq_C_sA, pq_L_sI, pq_L_sJ, pq_L_sR, pq_L_sA, pq_I_sI, pq_I_sJ, pq_I_sR, pq_I_sA, pq_J_sI, pq_J_sJ, pq_J_sR, pq_J_sA, pq_R_sI, pq_R_sJ, pq_R_sR, pq_R_sA, pq_N_sI, pq_N_sJ, pq_N_sR, pq_N_sA, pq_S_sI, pq_S_sJ, pq_S_sR, pq_S_sA, pz_rf_s, pz_cut_i, pz_cut_r, pz_cut_n, pz_cut_f, pz_cut_u, pz_cut_o, true_and, and_true, true_or, or_true, Option.toList_some, Option.toList_none, List.cons_append, List.nil_append, Nat.add_left_cancel_iff, Nat.left_eq_add, Nat.add_eq_left, Nat.reduceEqDiff, if_true, if_false, ite_true, ite_false, false_and, and_false, false_or, or_false, reduceIte, reduceCtorEq, and_self, mh_C, mh_L, mh_R, mh_J, mh_I0, mh_I, mh_Ir, mh_sI0, mh_sI, mh_sA, gu_11, gu_22, gu_r, gu_21s, gu_21c, gu_22s, gu_11s, gu_11c, gu_22c, Nat.reduceLeDiff, Nat.reduceLT, ne_eq, not_false_eq_true, not_true_eq_false, Nat.reduceEqDiff, Nat.lt_irrefl, eq_self, z_4, z_5, z_7, z_8, z_10, z_16, z_20, z_64]
  have hn := T.1
  have e0 : hwOf (dp + 1) o = 1 := by simp [hwOf, ho]
  rw [e0]
  simp only [enX10_isValue, uX10_isValue_0, uX10_isValue_0o, uX10_isValue_0f, uX10_isValue_1, uX10_isValue_2, uX10_isValue_5, uX10_isValue_6, uX10_isValue_7, uX10_isValue_8, uX10_isValue_10, uX10_isValue_13, uX10_isValue_13o, uX10_isValue_13f, uX10_isValue_14, uX10_isValue_15, uX10_isValue_18, uX10_isValue_19, uX10_isValue_19o, uX10_isValue_19f, uX10_isValue_20, uX10_isValue_23, uX10_isValue_26, uX10_isValue_27, uX10_isValue_30, uX10_isValue_30o, uX10_isValue_30f, uX10_isValue_31, uX10_isValue_34, uX10_isValue_34o, uX10_isValue_34f, uX10_isValue_35, uX10_isValue_38, uX10_isValue_39, uX10_isValue_40, uX10_isValue_41, uX10_isValue_43, uX10_isValue_44, uX10_isValue_46, uX10_isValue_48, uX10_isValue_51, uX10_isValue_53, uX10_isValue_54, uX10_isValue_57, uX10_isValue_58, uX10_isValue_60, uX10_isValue_63, uX10_isValue_63o, uX10_isValue_63f, uX10_isValue_64, uX10_isValue_65, uX10_isValue_68, uX10_isValue_69, uX10_isValue_70, uX10_isValue_73, uX10_isValue_74, uX10_isValue_75, uX10_isValue_76, uX10_isValue_78, uX10_isValue_81, uX10_isValue_83, uX10_isValue_84, uX10_isValue_87, uX10_isValue_87o, uX10_isValue_87f, uX10_isValue_88, uX10_isValue_89, uX10_isValue_92, uX10_isValue_94, uX10_isValue_96, uX10_isValue_99, uX10_isValue_99o, uX10_isValue_99f, uX10_isValue_100, uX10_isValue_103, uX10_isValue_103o, uX10_isValue_103f, uX10_isValue_104, uX10_isValue_107, uX10_isValue_108, uX10_isValue_109, uX10_isValue_110, uX10_isValue_113, uX10_isValue_113o, uX10_isValue_113f, uX10_isValue_114, uX10_isValue_114o, uX10_isValue_114f, uX10_isValue_115, uX10_isValue_118, uX10_isValue_118o, uX10_isValue_118f, uX10_isValue_119, uX10_isValue_122, uX10_isValue_123, uX10_isValue_124, uX10_isValue_125, uX10_isValue_126, uX10_isValue_129, uX10_isValue_132, uX10_isValue_132o, uX10_isValue_132f, uX10_isValue_133, uX10_isValue_134, uX10_isValue_137, uX10_isValue_138, uX10_isValue_139, uX10_isValue_139o, uX10_isValue_139f, uX10_isValue_140, uX10_isValue_143, uX10_isValue_143o, uX10_isValue_143f, uX10_isValue_144, uX10_isValue_147, uX10_isValue_148, uX10_isValue_149, uX10_isValue_150, uX10_isValue_151, uX10_isValue_151o, uX10_isValue_151f, uX10_isValue_152, uX10_isValue_155, uX10_isValue_155o, uX10_isValue_155f, uX10_isValue_156, uX10_isValue_159, uX10_isValue_160, uX10_isValue_161, uX10_isValue_162, uX10_isValue_163, uX10_isValue_164, uX10_isValue_166, uX10_isValue_170, uX10_isValue_172, uX10_isValue_175, uX10_isValue_175o, uX10_isValue_175f, uX10_isValue_176, uX10_isValue_177, uX10_isValue_180, uX10_isValue_182, uX10_isValue_185, uX10_isValue_186, uX10_isValue_189, uX10_isValue_192, uX10_isValue_192o, uX10_isValue_192f, uX10_isValue_193, uX10_isValue_194, uX10_isValue_197, uX10_isValue_199, uX10_isValue_202, uX10_isValue_203, uX10_isValue_205, uX10_isValue_208, uX10_isValue_209, uX10_isValue_211, uX10_isValue_214, uX10_isValue_214o, uX10_isValue_214f, uX10_isValue_215, uX10_isValue_218, uX10_isValue_220, uX10_isValue_223, uX10_isValue_223o, uX10_isValue_223f, uX10_isValue_224, uX10_isValue_227, uX10_isValue_227o, uX10_isValue_227f, uX10_isValue_228, uX10_isValue_231, uX10_isValue_232, uX10_isValue_234, uX10_isValue_237, uX10_isValue_238, uX10_isValue_241, uX10_isValue_242, uX10_isValue_243, uX10_isValue_243o, uX10_isValue_243f, uX10_isValue_244, uX10_isValue_247, uX10_isValue_247o, uX10_isValue_247f, uX10_isValue_248, uX10_isValue_251, uX10_isValue_252, uX10_isValue_253, uX10_isValue_253o, uX10_isValue_253f, uX10_isValue_254, uX10_isValue_255, uX10_isValue_258, uX10_isValue_259, uX10_isValue_260, uX10_isValue_263, uX10_isValue_264, uX10_isValue_265, uX10_isValue_266, uX10_isValue_268, uX10_isValue_269, uX10_isValue_271, uX10_isValue_274, uX10_isValue_274o, uX10_isValue_274f, uX10_isValue_275, uX10_isValue_276, uX10_isValue_279, uX10_isValue_280, uX10_isValue_283, uX10_isValue_286, uX10_isValue_287, uX10_isValue_288, uX10_isValue_290, uX10_isValue_291, uX10_isValue_293, uX10_isValue_296, uX10_isValue_296o, uX10_isValue_296f, uX10_isValue_297, uX10_isValue_300, uX10_isValue_303, uX10_isValue_303o, uX10_isValue_303f, uX10_isValue_304, uX10_isValue_307, uX10_isValue_307o, uX10_isValue_307f, uX10_isValue_308, uX10_isValue_311, uX10_isValue_312, uX10_isValue_313, uX10_isValue_314, uX10_isValue_315, uX10_isValue_318, uX10_isValue_318o, uX10_isValue_318f, uX10_isValue_319, uX10_isValue_322, uX10_isValue_322o, uX10_isValue_322f, uX10_isValue_323, uX10_isValue_326, uX10_isValue_327, uX10_isValue_328, uX10_isValue_329, uX10_isValue_330, uX10_isValue_332, uX10_isValue_335, uX10_isValue_335o, uX10_isValue_335f, uX10_isValue_336, uX10_isValue_339, uX10_isValue_342, uX10_isValue_343, uX10_isValue_346, uX10_isValue_347, uX10_isValue_348, uX10_isValue_351, uX10_isValue_351o, uX10_isValue_351f, uX10_isValue_352, uX10_isValue_353, uX10_isValue_356, uX10_isValue_357, uX10_isValue_357o, uX10_isValue_357f, uX10_isValue_358, uX10_isValue_361, uX10_isValue_364, uX10_isValue_365, uX10_isValue_368, uX10_isValue_369, mo_C H, mo_R_open H, mo_C_open H, mo_L_open H, mo_R_key H, mo_C_key H, mo_L_key H, pq_C_sI, pq_C_sJ, pq_C_sR, pq_C_sA, pq_L_sI, pq_L_sJ, pq_L_sR, pq_L_sA, pq_I_sI, pq_I_sJ, pq_I_sR, pq_I_sA, pq_J_sI, pq_J_sJ, pq_J_sR, pq_J_sA, pq_R_sI, pq_R_sJ, pq_R_sR, pq_R_sA, pq_N_sI, pq_N_sJ, pq_N_sR, pq_N_sA, pq_S_sI, pq_S_sJ, pq_S_sR, pq_S_sA, pz_rf_s, pz_cut_i, pz_cut_r, pz_cut_n, pz_cut_f, pz_cut_u, pz_cut_o, true_and, and_true, true_or, or_true, Option.toList_some, Option.toList_none, List.cons_append, List.nil_append, Nat.add_left_cancel_iff, Nat.left_eq_add, Nat.add_eq_left, Nat.reduceEqDiff, if_true, if_false, ite_true, ite_false, false_and, and_false, false_or, or_false, reduceIte, reduceCtorEq, and_self, mh_C, mh_L, mh_R, mh_J, mh_I0, mh_I, mh_Ir, mh_sI0, mh_sI, mh_sA, gu_11, gu_22, gu_r, gu_21s, gu_21c, gu_22s, gu_11s, gu_11c, gu_22c, Nat.reduceLeDiff, Nat.reduceLT, ne_eq, not_false_eq_true, not_true_eq_false, Nat.reduceEqDiff, Nat.lt_irrefl, eq_self, z_4, z_5, z_7, z_8, z_10, z_16, z_20, z_64]
  rw [if_neg (by decide), if_neg (by decide), if_pos (show ¬ bI (x p) = 101 from fun r => hx ((bI_eq (k := 101) (TX_le T _) (by omega)).mp r)), g_string H (GI_TX T) (GI_09.trans hz) (by omega)]
  cases hs : stF x n p with
  | some w' =>
    simp only [gw]
    simp only [enX10_isValue, uX10_isValue_0, uX10_isValue_0o, uX10_isValue_0f, uX10_isValue_1, uX10_isValue_2, uX10_isValue_5, uX10_isValue_6, uX10_isValue_7, uX10_isValue_8, uX10_isValue_10, uX10_isValue_13, uX10_isValue_13o, uX10_isValue_13f, uX10_isValue_14, uX10_isValue_15, uX10_isValue_18, uX10_isValue_19, uX10_isValue_19o, uX10_isValue_19f, uX10_isValue_20, uX10_isValue_23, uX10_isValue_26, uX10_isValue_27, uX10_isValue_30, uX10_isValue_30o, uX10_isValue_30f, uX10_isValue_31, uX10_isValue_34, uX10_isValue_34o, uX10_isValue_34f, uX10_isValue_35, uX10_isValue_38, uX10_isValue_39, uX10_isValue_40, uX10_isValue_41, uX10_isValue_43, uX10_isValue_44, uX10_isValue_46, uX10_isValue_48, uX10_isValue_51, uX10_isValue_53, uX10_isValue_54, uX10_isValue_57, uX10_isValue_58, uX10_isValue_60, uX10_isValue_63, uX10_isValue_63o, uX10_isValue_63f, uX10_isValue_64, uX10_isValue_65, uX10_isValue_68, uX10_isValue_69, uX10_isValue_70, uX10_isValue_73, uX10_isValue_74, uX10_isValue_75, uX10_isValue_76, uX10_isValue_78, uX10_isValue_81, uX10_isValue_83, uX10_isValue_84, uX10_isValue_87, uX10_isValue_87o, uX10_isValue_87f, uX10_isValue_88, uX10_isValue_89, uX10_isValue_92, uX10_isValue_94, uX10_isValue_96, uX10_isValue_99, uX10_isValue_99o, uX10_isValue_99f, uX10_isValue_100, uX10_isValue_103, uX10_isValue_103o, uX10_isValue_103f, uX10_isValue_104, uX10_isValue_107, uX10_isValue_108, uX10_isValue_109, uX10_isValue_110, uX10_isValue_113, uX10_isValue_113o, uX10_isValue_113f, uX10_isValue_114, uX10_isValue_114o, uX10_isValue_114f, uX10_isValue_115, uX10_isValue_118, uX10_isValue_118o, uX10_isValue_118f, uX10_isValue_119, uX10_isValue_122, uX10_isValue_123, uX10_isValue_124, uX10_isValue_125, uX10_isValue_126, uX10_isValue_129, uX10_isValue_132, uX10_isValue_132o, uX10_isValue_132f, uX10_isValue_133, uX10_isValue_134, uX10_isValue_137, uX10_isValue_138, uX10_isValue_139, uX10_isValue_139o, uX10_isValue_139f, uX10_isValue_140, uX10_isValue_143, uX10_isValue_143o, uX10_isValue_143f, uX10_isValue_144, uX10_isValue_147, uX10_isValue_148, uX10_isValue_149, uX10_isValue_150, uX10_isValue_151, uX10_isValue_151o, uX10_isValue_151f, uX10_isValue_152, uX10_isValue_155, uX10_isValue_155o, uX10_isValue_155f, uX10_isValue_156, uX10_isValue_159, uX10_isValue_160, uX10_isValue_161, uX10_isValue_162, uX10_isValue_163, uX10_isValue_164, uX10_isValue_166, uX10_isValue_170, uX10_isValue_172, uX10_isValue_175, uX10_isValue_175o, uX10_isValue_175f, uX10_isValue_176, uX10_isValue_177, uX10_isValue_180, uX10_isValue_182, uX10_isValue_185, uX10_isValue_186, uX10_isValue_189, uX10_isValue_192, uX10_isValue_192o, uX10_isValue_192f, uX10_isValue_193, uX10_isValue_194, uX10_isValue_197, uX10_isValue_199, uX10_isValue_202, uX10_isValue_203, uX10_isValue_205, uX10_isValue_208, uX10_isValue_209, uX10_isValue_211, uX10_isValue_214, uX10_isValue_214o, uX10_isValue_214f, uX10_isValue_215, uX10_isValue_218, uX10_isValue_220, uX10_isValue_223, uX10_isValue_223o, uX10_isValue_223f, uX10_isValue_224, uX10_isValue_227, uX10_isValue_227o, uX10_isValue_227f, uX10_isValue_228, uX10_isValue_231, uX10_isValue_232, uX10_isValue_234, uX10_isValue_237, uX10_isValue_238, uX10_isValue_241, uX10_isValue_242, uX10_isValue_243, uX10_isValue_243o, uX10_isValue_243f, uX10_isValue_244, uX10_isValue_247, uX10_isValue_247o, uX10_isValue_247f, uX10_isValue_248, uX10_isValue_251, uX10_isValue_252, uX10_isValue_253, uX10_isValue_253o, uX10_isValue_253f, uX10_isValue_254, uX10_isValue_255, uX10_isValue_258, uX10_isValue_259, uX10_isValue_260, uX10_isValue_263, uX10_isValue_264, uX10_isValue_265, uX10_isValue_266, uX10_isValue_268, uX10_isValue_269, uX10_isValue_271, uX10_isValue_274, uX10_isValue_274o, uX10_isValue_274f, uX10_isValue_275, uX10_isValue_276, uX10_isValue_279, uX10_isValue_280, uX10_isValue_283, uX10_isValue_286, uX10_isValue_287, uX10_isValue_288, uX10_isValue_290, uX10_isValue_291, uX10_isValue_293, uX10_isValue_296, uX10_isValue_296o, uX10_isValue_296f, uX10_isValue_297, uX10_isValue_300, uX10_isValue_303, uX10_isValue_303o, uX10_isValue_303f, uX10_isValue_304, uX10_isValue_307, uX10_isValue_307o, uX10_isValue_307f, uX10_isValue_308, uX10_isValue_311, uX10_isValue_312, uX10_isValue_313, uX10_isValue_314, uX10_isValue_315, uX10_isValue_318, uX10_isValue_318o, uX10_isValue_318f, uX10_isValue_319, uX10_isValue_322, uX10_isValue_322o, uX10_isValue_322f, uX10_isValue_323, uX10_isValue_326, uX10_isValue_327, uX10_isValue_328, uX10_isValue_329, uX10_isValue_330, uX10_isValue_332, uX10_isValue_335, uX10_isValue_335o, uX10_isValue_335f, uX10_isValue_336, uX10_isValue_339, uX10_isValue_342, uX10_isValue_343, uX10_isValue_346, uX10_isValue_347, uX10_isValue_348, uX10_isValue_351, uX10_isValue_351o, uX10_isValue_351f, uX10_isValue_352, uX10_isValue_353, uX10_isValue_356, uX10_isValue_357, uX10_isValue_357o, uX10_isValue_357f, uX10_isValue_358, uX10_isValue_361, uX10_isValue_364, uX10_isValue_365, uX10_isValue_368, uX10_isValue_369, mo_C H, mo_R_open H, mo_C_open H, mo_L_open H, mo_R_key H, mo_C_key H, mo_L_key H, pq_C_sI, pq_C_sJ, pq_C_sR, pq_C_sA, pq_L_sI, pq_L_sJ, pq_L_sR, pq_L_sA, pq_I_sI, pq_I_sJ, pq_I_sR, pq_I_sA, pq_J_sI, pq_J_sJ, pq_J_sR, pq_J_sA, pq_R_sI, pq_R_sJ, pq_R_sR, pq_R_sA, pq_N_sI, pq_N_sJ, pq_N_sR, pq_N_sA, pq_S_sI, pq_S_sJ, pq_S_sR, pq_S_sA, pz_rf_s, pz_cut_i, pz_cut_r, pz_cut_n, pz_cut_f, pz_cut_u, pz_cut_o, true_and, and_true, true_or, or_true, Option.toList_some, Option.toList_none, List.cons_append, List.nil_append, Nat.add_left_cancel_iff, Nat.left_eq_add, Nat.add_eq_left, Nat.reduceEqDiff, if_true, if_false, ite_true, ite_false, false_and, and_false, false_or, or_false, reduceIte, reduceCtorEq, and_self, mh_C, mh_L, mh_R, mh_J, mh_I0, mh_I, mh_Ir, mh_sI0, mh_sI, mh_sA, gu_11, gu_22, gu_r, gu_21s, gu_21c, gu_22s, gu_11s, gu_11c, gu_22c, Nat.reduceLeDiff, Nat.reduceLT, ne_eq, not_false_eq_true, not_true_eq_false, Nat.reduceEqDiff, Nat.lt_irrefl, eq_self, z_4, z_5, z_7, z_8, z_10, z_16, z_20, z_64, GI]
    rw [if_pos (by decide), nI_pred]
    simp (disch := omega) only [pz_in_nI, nI_clamp, true_and]
    exact iv_tn H (g := GI g (nI w') (dp + 1) (upd o dp 2) (upd k dp (nI p)))
  | none =>
    obtain ⟨a1, a2, a3⟩ := stF_SK hs
    simp only [enX10_isValue, uX10_isValue_0, uX10_isValue_0o, uX10_isValue_0f, uX10_isValue_1, uX10_isValue_2, uX10_isValue_5, uX10_isValue_6, uX10_isValue_7, uX10_isValue_8, uX10_isValue_10, uX10_isValue_13, uX10_isValue_13o, uX10_isValue_13f, uX10_isValue_14, uX10_isValue_15, uX10_isValue_18, uX10_isValue_19, uX10_isValue_19o, uX10_isValue_19f, uX10_isValue_20, uX10_isValue_23, uX10_isValue_26, uX10_isValue_27, uX10_isValue_30, uX10_isValue_30o, uX10_isValue_30f, uX10_isValue_31, uX10_isValue_34, uX10_isValue_34o, uX10_isValue_34f, uX10_isValue_35, uX10_isValue_38, uX10_isValue_39, uX10_isValue_40, uX10_isValue_41, uX10_isValue_43, uX10_isValue_44, uX10_isValue_46, uX10_isValue_48, uX10_isValue_51, uX10_isValue_53, uX10_isValue_54, uX10_isValue_57, uX10_isValue_58, uX10_isValue_60, uX10_isValue_63, uX10_isValue_63o, uX10_isValue_63f, uX10_isValue_64, uX10_isValue_65, uX10_isValue_68, uX10_isValue_69, uX10_isValue_70, uX10_isValue_73, uX10_isValue_74, uX10_isValue_75, uX10_isValue_76, uX10_isValue_78, uX10_isValue_81, uX10_isValue_83, uX10_isValue_84, uX10_isValue_87, uX10_isValue_87o, uX10_isValue_87f, uX10_isValue_88, uX10_isValue_89, uX10_isValue_92, uX10_isValue_94, uX10_isValue_96, uX10_isValue_99, uX10_isValue_99o, uX10_isValue_99f, uX10_isValue_100, uX10_isValue_103, uX10_isValue_103o, uX10_isValue_103f, uX10_isValue_104, uX10_isValue_107, uX10_isValue_108, uX10_isValue_109, uX10_isValue_110, uX10_isValue_113, uX10_isValue_113o, uX10_isValue_113f, uX10_isValue_114, uX10_isValue_114o, uX10_isValue_114f, uX10_isValue_115, uX10_isValue_118, uX10_isValue_118o, uX10_isValue_118f, uX10_isValue_119, uX10_isValue_122, uX10_isValue_123, uX10_isValue_124, uX10_isValue_125, uX10_isValue_126, uX10_isValue_129, uX10_isValue_132, uX10_isValue_132o, uX10_isValue_132f, uX10_isValue_133, uX10_isValue_134, uX10_isValue_137, uX10_isValue_138, uX10_isValue_139, uX10_isValue_139o, uX10_isValue_139f, uX10_isValue_140, uX10_isValue_143, uX10_isValue_143o, uX10_isValue_143f, uX10_isValue_144, uX10_isValue_147, uX10_isValue_148, uX10_isValue_149, uX10_isValue_150, uX10_isValue_151, uX10_isValue_151o, uX10_isValue_151f, uX10_isValue_152, uX10_isValue_155, uX10_isValue_155o, uX10_isValue_155f, uX10_isValue_156, uX10_isValue_159, uX10_isValue_160, uX10_isValue_161, uX10_isValue_162, uX10_isValue_163, uX10_isValue_164, uX10_isValue_166, uX10_isValue_170, uX10_isValue_172, uX10_isValue_175, uX10_isValue_175o, uX10_isValue_175f, uX10_isValue_176, uX10_isValue_177, uX10_isValue_180, uX10_isValue_182, uX10_isValue_185, uX10_isValue_186, uX10_isValue_189, uX10_isValue_192, uX10_isValue_192o, uX10_isValue_192f, uX10_isValue_193, uX10_isValue_194, uX10_isValue_197, uX10_isValue_199, uX10_isValue_202, uX10_isValue_203, uX10_isValue_205, uX10_isValue_208, uX10_isValue_209, uX10_isValue_211, uX10_isValue_214, uX10_isValue_214o, uX10_isValue_214f, uX10_isValue_215, uX10_isValue_218, uX10_isValue_220, uX10_isValue_223, uX10_isValue_223o, uX10_isValue_223f, uX10_isValue_224, uX10_isValue_227, uX10_isValue_227o, uX10_isValue_227f, uX10_isValue_228, uX10_isValue_231, uX10_isValue_232, uX10_isValue_234, uX10_isValue_237, uX10_isValue_238, uX10_isValue_241, uX10_isValue_242, uX10_isValue_243, uX10_isValue_243o, uX10_isValue_243f, uX10_isValue_244, uX10_isValue_247, uX10_isValue_247o, uX10_isValue_247f, uX10_isValue_248, uX10_isValue_251, uX10_isValue_252, uX10_isValue_253, uX10_isValue_253o, uX10_isValue_253f, uX10_isValue_254, uX10_isValue_255, uX10_isValue_258, uX10_isValue_259, uX10_isValue_260, uX10_isValue_263, uX10_isValue_264, uX10_isValue_265, uX10_isValue_266, uX10_isValue_268, uX10_isValue_269, uX10_isValue_271, uX10_isValue_274, uX10_isValue_274o, uX10_isValue_274f, uX10_isValue_275, uX10_isValue_276, uX10_isValue_279, uX10_isValue_280, uX10_isValue_283, uX10_isValue_286, uX10_isValue_287, uX10_isValue_288, uX10_isValue_290, uX10_isValue_291, uX10_isValue_293, uX10_isValue_296, uX10_isValue_296o, uX10_isValue_296f, uX10_isValue_297, uX10_isValue_300, uX10_isValue_303, uX10_isValue_303o, uX10_isValue_303f, uX10_isValue_304, uX10_isValue_307, uX10_isValue_307o, uX10_isValue_307f, uX10_isValue_308, uX10_isValue_311, uX10_isValue_312, uX10_isValue_313, uX10_isValue_314, uX10_isValue_315, uX10_isValue_318, uX10_isValue_318o, uX10_isValue_318f, uX10_isValue_319, uX10_isValue_322, uX10_isValue_322o, uX10_isValue_322f, uX10_isValue_323, uX10_isValue_326, uX10_isValue_327, uX10_isValue_328, uX10_isValue_329, uX10_isValue_330, uX10_isValue_332, uX10_isValue_335, uX10_isValue_335o, uX10_isValue_335f, uX10_isValue_336, uX10_isValue_339, uX10_isValue_342, uX10_isValue_343, uX10_isValue_346, uX10_isValue_347, uX10_isValue_348, uX10_isValue_351, uX10_isValue_351o, uX10_isValue_351f, uX10_isValue_352, uX10_isValue_353, uX10_isValue_356, uX10_isValue_357, uX10_isValue_357o, uX10_isValue_357f, uX10_isValue_358, uX10_isValue_361, uX10_isValue_364, uX10_isValue_365, uX10_isValue_368, uX10_isValue_369, mo_C H, mo_R_open H, mo_C_open H, mo_L_open H, mo_R_key H, mo_C_key H, mo_L_key H, pq_C_sI, pq_C_sJ, pq_C_sR, pq_C_sA, pq_L_sI, pq_L_sJ, pq_L_sR, pq_L_sA, pq_I_sI, pq_I_sJ, pq_I_sR, pq_I_sA, pq_J_sI, pq_J_sJ, pq_J_sR, pq_J_sA, pq_R_sI, pq_R_sJ, pq_R_sR, pq_R_sA, pq_N_sI, pq_N_sJ, pq_N_sR, pq_N_sA, pq_S_sI, pq_S_sJ, pq_S_sR, pq_S_sA, pz_rf_s, pz_cut_i, pz_cut_r, pz_cut_n, pz_cut_f, pz_cut_u, pz_cut_o, true_and, and_true, true_or, or_true, Option.toList_some, Option.toList_none, List.cons_append, List.nil_append, Nat.add_left_cancel_iff, Nat.left_eq_add, Nat.add_eq_left, Nat.reduceEqDiff, if_true, if_false, ite_true, ite_false, false_and, and_false, false_or, or_false, reduceIte, reduceCtorEq, and_self, mh_C, mh_L, mh_R, mh_J, mh_I0, mh_I, mh_Ir, mh_sI0, mh_sI, mh_sA, gu_11, gu_22, gu_r, gu_21s, gu_21c, gu_22s, gu_11s, gu_11c, gu_22c, Nat.reduceLeDiff, Nat.reduceLT, ne_eq, not_false_eq_true, not_true_eq_false, Nat.reduceEqDiff, Nat.lt_irrefl, eq_self, z_4, z_5, z_7, z_8, z_10, z_16, z_20, z_64]
    rw [if_neg (nI_pos (by omega))]
    cases ky with
    | none =>
      simp only [GI, mo_C H, mo_R_open H, mo_C_open H, mo_L_open H, mo_R_key H, mo_C_key H, mo_L_key H, pq_C_sI, pq_C_sJ, pq_C_sR, pq_C_sA, pq_L_sI, pq_L_sJ, pq_L_sR, pq_L_sA, pq_I_sI, pq_I_sJ, pq_I_sR, pq_I_sA, pq_J_sI, pq_J_sJ, pq_J_sR, pq_J_sA, pq_R_sI, pq_R_sJ, pq_R_sR, pq_R_sA, pq_N_sI, pq_N_sJ, pq_N_sR, pq_N_sA, pq_S_sI, pq_S_sJ, pq_S_sR, pq_S_sA, pz_rf_s, pz_cut_i, pz_cut_r, pz_cut_n, pz_cut_f, pz_cut_u, pz_cut_o, true_and, and_true, true_or, or_true, Option.toList_some, Option.toList_none, List.cons_append, List.nil_append, Nat.add_left_cancel_iff, Nat.left_eq_add, Nat.add_eq_left, Nat.reduceEqDiff, if_true, if_false, ite_true, ite_false, false_and, and_false, false_or, or_false, reduceIte, reduceCtorEq, and_self, mh_C, mh_L, mh_R, mh_J, mh_I0, mh_I, mh_Ir, mh_sI0, mh_sI, mh_sA, gu_11, gu_22, gu_r, gu_21s, gu_21c, gu_22s, gu_11s, gu_11c, gu_22c, Nat.reduceLeDiff, Nat.reduceLT, ne_eq, not_false_eq_true, not_true_eq_false, Nat.reduceEqDiff, Nat.lt_irrefl, eq_self, z_4, z_5, z_7, z_8, z_10, z_16, z_20, z_64]
      simp (disch := omega) only [nI_pred, pz_in_nI, nI_clamp, true_and]
      rw [hk, show kyOf none = -1 from rfl, if_pos (by decide), if_pos (show rsk x none p = true from rfl)]
    | some q =>
      obtain ⟨q1, q2⟩ := hq q rfl
      have e5 : GI g w (dp + 1) o k 8 dp = nI q := hk
      have e6 : GI g w (dp + 1) o k 0 13 = nI (dp + 1) := rfl
      simp only [e6, nI_pred]
      simp (disch := omega) only [pz_in_nI, nI_clamp, true_and]
      rw [e5, if_neg (nI_pos (by omega)), g_rises H (GI_TX T) q1 hs]
      simp only [enX10_isValue, uX10_isValue_0, uX10_isValue_0o, uX10_isValue_0f, uX10_isValue_1, uX10_isValue_2, uX10_isValue_5, uX10_isValue_6, uX10_isValue_7, uX10_isValue_8, uX10_isValue_10, uX10_isValue_13, uX10_isValue_13o, uX10_isValue_13f, uX10_isValue_14, uX10_isValue_15, uX10_isValue_18, uX10_isValue_19, uX10_isValue_19o, uX10_isValue_19f, uX10_isValue_20, uX10_isValue_23, uX10_isValue_26, uX10_isValue_27, uX10_isValue_30, uX10_isValue_30o, uX10_isValue_30f, uX10_isValue_31, uX10_isValue_34, uX10_isValue_34o, uX10_isValue_34f, uX10_isValue_35, uX10_isValue_38, uX10_isValue_39, uX10_isValue_40, uX10_isValue_41, uX10_isValue_43, uX10_isValue_44, uX10_isValue_46, uX10_isValue_48, uX10_isValue_51, uX10_isValue_53, uX10_isValue_54, uX10_isValue_57, uX10_isValue_58, uX10_isValue_60, uX10_isValue_63, uX10_isValue_63o, uX10_isValue_63f, uX10_isValue_64, uX10_isValue_65, uX10_isValue_68, uX10_isValue_69, uX10_isValue_70, uX10_isValue_73, uX10_isValue_74, uX10_isValue_75, uX10_isValue_76, uX10_isValue_78, uX10_isValue_81, uX10_isValue_83, uX10_isValue_84, uX10_isValue_87, uX10_isValue_87o, uX10_isValue_87f, uX10_isValue_88, uX10_isValue_89, uX10_isValue_92, uX10_isValue_94, uX10_isValue_96, uX10_isValue_99, uX10_isValue_99o, uX10_isValue_99f, uX10_isValue_100, uX10_isValue_103, uX10_isValue_103o, uX10_isValue_103f, uX10_isValue_104, uX10_isValue_107, uX10_isValue_108, uX10_isValue_109, uX10_isValue_110, uX10_isValue_113, uX10_isValue_113o, uX10_isValue_113f, uX10_isValue_114, uX10_isValue_114o, uX10_isValue_114f, uX10_isValue_115, uX10_isValue_118, uX10_isValue_118o, uX10_isValue_118f, uX10_isValue_119, uX10_isValue_122, uX10_isValue_123, uX10_isValue_124, uX10_isValue_125, uX10_isValue_126, uX10_isValue_129, uX10_isValue_132, uX10_isValue_132o, uX10_isValue_132f, uX10_isValue_133, uX10_isValue_134, uX10_isValue_137, uX10_isValue_138, uX10_isValue_139, uX10_isValue_139o, uX10_isValue_139f, uX10_isValue_140, uX10_isValue_143, uX10_isValue_143o, uX10_isValue_143f, uX10_isValue_144, uX10_isValue_147, uX10_isValue_148, uX10_isValue_149, uX10_isValue_150, uX10_isValue_151, uX10_isValue_151o, uX10_isValue_151f, uX10_isValue_152, uX10_isValue_155, uX10_isValue_155o, uX10_isValue_155f, uX10_isValue_156, uX10_isValue_159, uX10_isValue_160, uX10_isValue_161, uX10_isValue_162, uX10_isValue_163, uX10_isValue_164, uX10_isValue_166, uX10_isValue_170, uX10_isValue_172, uX10_isValue_175, uX10_isValue_175o, uX10_isValue_175f, uX10_isValue_176, uX10_isValue_177, uX10_isValue_180, uX10_isValue_182, uX10_isValue_185, uX10_isValue_186, uX10_isValue_189, uX10_isValue_192, uX10_isValue_192o, uX10_isValue_192f, uX10_isValue_193, uX10_isValue_194, uX10_isValue_197, uX10_isValue_199, uX10_isValue_202, uX10_isValue_203, uX10_isValue_205, uX10_isValue_208, uX10_isValue_209, uX10_isValue_211, uX10_isValue_214, uX10_isValue_214o, uX10_isValue_214f, uX10_isValue_215, uX10_isValue_218, uX10_isValue_220, uX10_isValue_223, uX10_isValue_223o, uX10_isValue_223f, uX10_isValue_224, uX10_isValue_227, uX10_isValue_227o, uX10_isValue_227f, uX10_isValue_228, uX10_isValue_231, uX10_isValue_232, uX10_isValue_234, uX10_isValue_237, uX10_isValue_238, uX10_isValue_241, uX10_isValue_242, uX10_isValue_243, uX10_isValue_243o, uX10_isValue_243f, uX10_isValue_244, uX10_isValue_247, uX10_isValue_247o, uX10_isValue_247f, uX10_isValue_248, uX10_isValue_251, uX10_isValue_252, uX10_isValue_253, uX10_isValue_253o, uX10_isValue_253f, uX10_isValue_254, uX10_isValue_255, uX10_isValue_258, uX10_isValue_259, uX10_isValue_260, uX10_isValue_263, uX10_isValue_264, uX10_isValue_265, uX10_isValue_266, uX10_isValue_268, uX10_isValue_269, uX10_isValue_271, uX10_isValue_274, uX10_isValue_274o, uX10_isValue_274f, uX10_isValue_275, uX10_isValue_276, uX10_isValue_279, uX10_isValue_280, uX10_isValue_283, uX10_isValue_286, uX10_isValue_287, uX10_isValue_288, uX10_isValue_290, uX10_isValue_291, uX10_isValue_293, uX10_isValue_296, uX10_isValue_296o, uX10_isValue_296f, uX10_isValue_297, uX10_isValue_300, uX10_isValue_303, uX10_isValue_303o, uX10_isValue_303f, uX10_isValue_304, uX10_isValue_307, uX10_isValue_307o, uX10_isValue_307f, uX10_isValue_308, uX10_isValue_311, uX10_isValue_312, uX10_isValue_313, uX10_isValue_314, uX10_isValue_315, uX10_isValue_318, uX10_isValue_318o, uX10_isValue_318f, uX10_isValue_319, uX10_isValue_322, uX10_isValue_322o, uX10_isValue_322f, uX10_isValue_323, uX10_isValue_326, uX10_isValue_327, uX10_isValue_328, uX10_isValue_329, uX10_isValue_330, uX10_isValue_332, uX10_isValue_335, uX10_isValue_335o, uX10_isValue_335f, uX10_isValue_336, uX10_isValue_339, uX10_isValue_342, uX10_isValue_343, uX10_isValue_346, uX10_isValue_347, uX10_isValue_348, uX10_isValue_351, uX10_isValue_351o, uX10_isValue_351f, uX10_isValue_352, uX10_isValue_353, uX10_isValue_356, uX10_isValue_357, uX10_isValue_357o, uX10_isValue_357f, uX10_isValue_358, uX10_isValue_361, uX10_isValue_364, uX10_isValue_365, uX10_isValue_368, uX10_isValue_369, mo_C H, mo_R_open H, mo_C_open H, mo_L_open H, mo_R_key H, mo_C_key H, mo_L_key H, pq_C_sI, pq_C_sJ, pq_C_sR, pq_C_sA, pq_L_sI, pq_L_sJ, pq_L_sR, pq_L_sA, pq_I_sI, pq_I_sJ, pq_I_sR, pq_I_sA, pq_J_sI, pq_J_sJ, pq_J_sR, pq_J_sA, pq_R_sI, pq_R_sJ, pq_R_sR, pq_R_sA, pq_N_sI, pq_N_sJ, pq_N_sR, pq_N_sA, pq_S_sI, pq_S_sJ, pq_S_sR, pq_S_sA, pz_rf_s, pz_cut_i, pz_cut_r, pz_cut_n, pz_cut_f, pz_cut_u, pz_cut_o, true_and, and_true, true_or, or_true, Option.toList_some, Option.toList_none, List.cons_append, List.nil_append, Nat.add_left_cancel_iff, Nat.left_eq_add, Nat.add_eq_left, Nat.reduceEqDiff, if_true, if_false, ite_true, ite_false, false_and, and_false, false_or, or_false, reduceIte, reduceCtorEq, and_self, mh_C, mh_L, mh_R, mh_J, mh_I0, mh_I, mh_Ir, mh_sI0, mh_sI, mh_sA, gu_11, gu_22, gu_r, gu_21s, gu_21c, gu_22s, gu_11s, gu_11c, gu_22c, Nat.reduceLeDiff, Nat.reduceLT, ne_eq, not_false_eq_true, not_true_eq_false, Nat.reduceEqDiff, Nat.lt_irrefl, eq_self, z_4, z_5, z_7, z_8, z_10, z_16, z_20, z_64]
      by_cases h5 : rsg x q p = true
      · rw [if_pos h5, if_pos (by decide), if_pos (show rsk x (some q) p = true from h5)]
        simp only [GI, mo_C H, mo_R_open H, mo_C_open H, mo_L_open H, mo_R_key H, mo_C_key H, mo_L_key H, pq_C_sI, pq_C_sJ, pq_C_sR, pq_C_sA, pq_L_sI, pq_L_sJ, pq_L_sR, pq_L_sA, pq_I_sI, pq_I_sJ, pq_I_sR, pq_I_sA, pq_J_sI, pq_J_sJ, pq_J_sR, pq_J_sA, pq_R_sI, pq_R_sJ, pq_R_sR, pq_R_sA, pq_N_sI, pq_N_sJ, pq_N_sR, pq_N_sA, pq_S_sI, pq_S_sJ, pq_S_sR, pq_S_sA, pz_rf_s, pz_cut_i, pz_cut_r, pz_cut_n, pz_cut_f, pz_cut_u, pz_cut_o, true_and, and_true, true_or, or_true, Option.toList_some, Option.toList_none, List.cons_append, List.nil_append, Nat.add_left_cancel_iff, Nat.left_eq_add, Nat.add_eq_left, Nat.reduceEqDiff, if_true, if_false, ite_true, ite_false, false_and, and_false, false_or, or_false, reduceIte, reduceCtorEq, and_self, mh_C, mh_L, mh_R, mh_J, mh_I0, mh_I, mh_Ir, mh_sI0, mh_sI, mh_sA, gu_11, gu_22, gu_r, gu_21s, gu_21c, gu_22s, gu_11s, gu_11c, gu_22c, Nat.reduceLeDiff, Nat.reduceLT, ne_eq, not_false_eq_true, not_true_eq_false, Nat.reduceEqDiff, Nat.lt_irrefl, eq_self, z_4, z_5, z_7, z_8, z_10, z_16, z_20, z_64]
        simp (disch := omega) only [nI_pred, pz_in_nI, nI_clamp, true_and]
      · rw [if_neg h5, if_neg (by decide), if_neg (show ¬ rsk x (some q) p = true from h5)]
        simp only [gw]
/-- what a value or an inside begins with -/
def ivP (x : Nat → Nat) (n : Nat) (o k : Nat → Int32) (f dp p : Nat) : Option (Bool × Option Nat) → Prop
  | none => dp ≤ 8 ∧ p ≤ n ∧ 2 * (n - p) + 1 ≤ f ∧ (dp = 0 ∨ o (dp - 1) = 2 ∨ (o (dp - 1) = 0 ∧ x p ≠ 101))
  | some (b, ky) => 0 < dp ∧ dp ≤ 8 ∧ p ≤ n ∧ 2 * (n - p) + 2 ≤ f ∧ o (dp - 1) = (if b = true then 1 else 0) ∧ (b = true → k (dp - 1) = kyOf ky ∧ ∀ q, ky = some q → stF x n q = none ∧ q < 2 ^ 29)
def ivB (dp : Nat) : Option (Bool × Option Nat) → Nat
  | none => dp
  | some _ => dp - 1
def ivFl (o : Nat → Int32) (b i : Nat) : Int32 := if i + 1 = b ∧ o i = 2 then 1 else o i
theorem ivFl_1 {i : Nat} (hi : i < dp) : (if dp = 0 then o else if o (dp - 1) = 2 then upd o (dp - 1) 1 else o) i = ivFl o dp i := by
  rw [if_neg (by omega)]
  unfold ivFl upd
  by_cases h1 : i + 1 = dp
  · have e : dp - 1 = i := by omega
    rw [e]
    by_cases h2 : o i = 2
    · rw [if_pos h2, if_pos rfl, if_pos ⟨h1, h2⟩]
    · rw [if_neg h2, if_neg (fun r => h2 r.2)]
  · rw [if_neg (show ¬ (i + 1 = dp ∧ o i = 2) from fun r => h1 r.1)]
    split
    · exact if_neg (by omega)
    · rfl
theorem upd_ne {f : Nat → Int32} {a i : Nat} {v : Int32} (h : i ≠ a) : upd f a v i = f i := if_neg h
theorem ivFl_c {o' : Nat → Int32} {b i : Nat} (h : o' i = o i) : ivFl o' b i = ivFl o b i := by
  unfold ivFl
  rw [h]
theorem pv_i {f : Nat} {b : Bool} {ky : Option Nat} : pv x n (f + 1) (some (b, ky)) dp p = (if x p = 101 then .ok (p + 1)
      else if b = true then (match stF x n p with
        | some w => .error w
        | none => if rsk x ky p = true then (match pv x n f none dp (stEnd x p) with
            | .error w => .error w
            | .ok e => pv x n f (some (b, some p)) dp e) else .error p)
      else (match pv x n f none dp p with
        | .error w => .error w
        | .ok e => pv x n f (some (b, none)) dp e)) := rfl
theorem nuF_ok (T : TX (g 1) n x) (h : nuF x p = none) : p < nuEnd x p ∧ nuEnd x p ≤ n := by
  unfold nuF at h
  split at h
  · exact absurd h (by simp)
  · by_cases h1 : dgo x (nuQ x p) 9 101 = true
    · obtain ⟨a1, a2, a3, a4⟩ := dgo_SK (by omega) h1
      have := TX_lt T (show x (dgq x (nuQ x p) 9) < 256 by omega)
      have h3 : p < nuQ x p := by
        unfold nuQ
        split <;> omega
      unfold nuEnd
      omega
    · rw [if_neg h1] at h
      exact absurd h (by simp)
theorem iv_main (H : MO h mo) (T : TX (g 1) n x) (hz : g 0 9 = nI n) : ∀ f md dp p o k v3 v4 v5 v6, pz_cut v3 = v3 → pz_cut v4 = v4 → ivP x n o k f dp p md → (∀ w' dp' o' k', pv x n f md dp p = .error w' → Q (some (.int 0)) (mh h mo (GI g (nI w') dp' o' k'))) → (∀ e o' k' c hw dn, pv x n f md dp p = .ok e → p < e → e ≤ n → (∀ i, i < ivB dp md → o' i = ivFl o (ivB dp md) i ∧ k' i = k i) → wp (d + 3) mX10_isValue 9 [.ref mo, .int (nI e), .int (if ivB dp md = 0 then 0 else 1), .int c, .int hw, .int dn, .int (nI e)] [] (mh h mo (GI g w (ivB dp md) o' k')) Q) → wp (d + 3) mX10_isValue 9 [.ref mo, .int (nI p), .int 1, v3, v4, v5, v6] [] (mh h mo (GI g w dp o k)) Q := by
  have hn := T.1
  intro f
  induction f with
  | zero =>
    intro md dp p o k v3 v4 v5 v6 c3 c4 hP
    cases md with
    | none => exact absurd hP.2.2.1 (by omega)
    | some m => exact absurd hP.2.2.2.1 (by omega)
  | succ f ih =>
    intro md dp p o k v3 v4 v5 v6 c3 c4 hP hE hK
    cases md with
    | none =>
      obtain ⟨p1, p2, p3, p4⟩ := hP
      rw [iv_h0 H T hz (by omega) p1 c3 c4, iv_val H T p4, iv_2 H T hz (by omega) p1]
      rw [pv] at hE hK
      by_cases h1 : dg (x p)
      · rw [if_pos h1]
        rw [if_pos h1] at hE hK
        cases hs : stF x n p with
        | none =>
          rw [hs] at hE hK
          obtain ⟨a1, a2, a3⟩ := stF_SK hs
          refine (iv_t1 H p1 (by omega)).mpr (hK _ _ _ _ _ _ rfl ?_ a2 (fun i hi => ⟨ivFl_1 hi, rfl⟩))
          have := a1.1
          unfold stEnd
          omega
        | some w' =>
          rw [hs] at hE
          exact hE _ _ _ _ rfl
      · rw [if_neg h1]
        rw [if_neg h1] at hE hK
        by_cases h2 : x p = 105
        · rw [if_pos h2]
          rw [if_pos h2] at hE hK
          cases hs : nuF x p with
          | none =>
            rw [hs] at hE hK
            obtain ⟨a1, a2⟩ := nuF_ok T hs
            exact (iv_t1 H p1 (by omega)).mpr (hK _ _ _ _ _ _ rfl a1 a2 (fun i hi => ⟨ivFl_1 hi, rfl⟩))
          | some w' =>
            rw [hs] at hE
            exact hE _ _ _ _ rfl
        · rw [if_neg h2]
          rw [if_neg h2] at hE hK
          by_cases h3 : (x p = 108 ∨ x p = 100) ∧ dp < 8
          · rw [if_pos h3]
            rw [if_pos h3] at hE hK
            have hpn : p < n := TX_lt T (by omega)
            refine (iv_t0 H (by omega)).mpr (ih _ (dp + 1) (p + 1) _ _ _ _ _ _ rfl rfl ?_ hE ?_)
            · refine ⟨by omega, by omega, by omega, by omega, ?_, ?_⟩
              · unfold upd
                rw [if_pos (by omega)]
                by_cases h4 : x p = 100
                · rw [if_neg (by omega), if_pos (decide_eq_true h4)]
                · rw [if_pos (by omega), if_neg (fun r => h4 (of_decide_eq_true r))]
              · intro _
                refine ⟨?_, fun q hq => by simp at hq⟩
                unfold upd
                rw [if_pos (by omega)]
                rfl
            · intro e o' k' c hw dn r1 r2 r3 r4
              refine hK e o' k' c hw dn r1 (by omega) r3 (fun i hi => ?_)
              have hi' : i < dp := hi
              obtain ⟨s1, s2⟩ := r4 i hi'
              refine ⟨?_, ?_⟩
              · rw [s1]
                exact ivFl_c (upd_ne (by omega))
              · rw [s2]
                unfold upd
                rw [if_neg (by omega)]
          · rw [if_neg h3]
            rw [if_neg h3] at hE
            exact hE _ _ _ _ rfl
    | some m =>
      obtain ⟨b, ky⟩ := m
      obtain ⟨p0, p1, p2, p3, p4, p5⟩ := hP
      obtain ⟨dq, rfl⟩ : ∃ dq, dp = dq + 1 := ⟨dp - 1, by omega⟩
      rw [show dq + 1 - 1 = dq by omega] at p4 p5
      rw [pv_i] at hE hK
      by_cases h1 : x p = 101
      · rw [if_pos h1] at hE hK
        rw [iv_h0 H T hz (by omega) p1 c3 c4, iv_e H T (by omega) (by rw [p4]; cases b <;> simp) h1]
        have hpn : p < n := TX_lt T (by omega)
        exact (iv_t1 H (by omega) (by omega)).mpr (hK _ _ _ _ _ _ rfl (by omega) (by omega) (fun i hi => ⟨ivFl_1 hi, rfl⟩))
      · rw [if_neg h1] at hE hK
        cases b with
        | true =>
          rw [if_pos rfl] at hE hK p4
          obtain ⟨p6, p7⟩ := p5 rfl
          rw [iv_h0 H T hz (by omega) p1 c3 c4, iv_k H T hz (by omega) (by omega) p4 h1 p6 p7]
          cases hs : stF x n p with
          | some w' =>
            rw [hs] at hE
            exact hE _ _ _ _ rfl
          | none =>
            rw [hs] at hE hK
            obtain ⟨a1, a2, a3⟩ := stF_SK hs
            have a4 : p + 2 ≤ stEnd x p := by
              have := a1.1
              unfold stEnd
              omega
            simp only at hE hK ⊢
            by_cases h5 : rsk x ky p = true
            · rw [if_pos h5]
              rw [if_pos h5] at hE hK
              refine (iv_t0 H (by omega)).mpr (ih none (dq + 1) (stEnd x p) _ _ _ _ _ _ rfl rfl ⟨p1, a2, by omega, Or.inr (Or.inl (by simp [upd]))⟩ ?_ ?_)
              · intro w' dp' o' k' r
                rw [r] at hE
                exact hE _ _ _ _ rfl
              · intro e o' k' c hw dn r1 r2 r3 r4
                rw [r1] at hE hK
                obtain ⟨s1, s2⟩ := r4 dq (show dq < dq + 1 by omega)
                refine ih (some (true, some p)) (dq + 1) e o' k' _ _ _ _ rfl rfl ⟨by omega, by omega, r3, by omega, ?_, fun _ => ⟨?_, ?_⟩⟩ hE ?_
                · show o' dq = _
                  rw [s1]
                  show ivFl _ (dq + 1) dq = _
                  simp [ivFl, upd]
                · show k' dq = _
                  rw [s2]
                  simp [upd, kyOf]
                · intro q hq
                  have : p = q := by simpa using hq
                  subst this
                  exact ⟨hs, by omega⟩
                · intro e2 o2 k2 c2 hw2 dn2 t1 t2 t3 t4
                  refine hK e2 o2 k2 c2 hw2 dn2 t1 (by omega) t3 (fun i hi => ?_)
                  have hi' : i < dq := hi
                  obtain ⟨u1, u2⟩ := t4 i hi'
                  obtain ⟨u3, u4⟩ := r4 i (show i < dq + 1 by omega)
                  have u5 : o' i = o i := by
                    rw [u3]
                    show ivFl _ (dq + 1) i = _
                    unfold ivFl upd
                    rw [if_neg (by omega), if_neg (by omega)]
                  have u6 : k' i = k i := by
                    rw [u4]
                    unfold upd
                    rw [if_neg (by omega)]
                  refine ⟨?_, u2.trans u6⟩
                  rw [u1]
                  exact ivFl_c u5
            · rw [if_neg h5]
              rw [if_neg h5] at hE
              exact hE _ _ _ _ rfl
        | false =>
          rw [if_neg (by decide)] at hE hK p4
          refine ih none (dq + 1) p o k v3 v4 v5 v6 c3 c4 ⟨p1, p2, by omega, Or.inr (Or.inr ⟨p4, h1⟩)⟩ ?_ ?_
          · intro w' dp' o' k' r
            rw [r] at hE
            exact hE _ _ _ _ rfl
          · intro e o' k' c hw dn r1 r2 r3 r4
            rw [r1] at hE hK
            obtain ⟨s1, s2⟩ := r4 dq (show dq < dq + 1 by omega)
            have s3 : o' dq = 0 := by
              rw [s1]
              show ivFl _ (dq + 1) dq = _
              unfold ivFl
              rw [p4, if_neg (fun r => absurd r.2 (by decide))]
            refine ih (some (false, none)) (dq + 1) e o' k' _ _ _ _ rfl rfl ⟨by omega, by omega, r3, by omega, s3, fun q => by simp at q⟩ hE ?_
            intro e2 o2 k2 c2 hw2 dn2 t1 t2 t3 t4
            refine hK e2 o2 k2 c2 hw2 dn2 t1 (by omega) t3 (fun i hi => ?_)
            have hi' : i < dq := hi
            obtain ⟨u1, u2⟩ := t4 i hi'
            obtain ⟨u3, u4⟩ := r4 i (show i < dq + 1 by omega)
            have u5 : o' i = o i := by
              rw [u3]
              show ivFl _ (dq + 1) i = _
              unfold ivFl
              rw [if_neg (by omega)]
            refine ⟨?_, u2.trans u4⟩
            rw [u1]
            exact ivFl_c u5
end
