/-! ===== the reference: isValue's answer; behind ===== -/
def ivR (x : Nat → Nat) (n : Nat) : Except Nat Nat := pv x n (2 * n + 1) none 0 0
def ivOk (x : Nat → Nat) (n : Nat) : Bool := match ivR x n with | .error _ => false | .ok e => decide (e = n)
def ivW (x : Nat → Nat) (n : Nat) : Nat := match ivR x n with | .error w => w | .ok e => e
def VL (x : Nat → Nat) (n : Nat) (md : Option (Bool × Option Nat)) (p e : Nat) : Prop := ∃ f dp, f ≤ 2 * n + 1 ∧ pv x n f md dp p = .ok e
section
variable {d : Nat} {h : PzH} {Q : Option Value → PzH → Prop} {mo : Nat} {g : Nat → Nat → Int32} {x : Nat → Nat} {n : Nat} {w : Int32} {o k : Nat → Int32} {p dp : Nat}
theorem GI_eta : GI g (g 0 10) 0 (g 7) (g 8) = pz_u2 g 0 13 0 := by
  funext a j
  unfold GI
  by_cases a8 : a = 8
  · subst a8; simp [gu_11, gu_22]
  · by_cases a7 : a = 7
    · subst a7; simp [gu_11, gu_22]
    · by_cases a0 : a = 0
      · subst a0
        by_cases j13 : j = 13
        · subst j13; simp [gu_11, gu_22, nI_0]
        · by_cases j10 : j = 10
          · subst j10; simp [gu_11, gu_22]
          · simp [gu_11, gu_22, j13, j10]
      · simp [gu_11, gu_22, a8, a7, a0]
theorem g_isValue (H : MO h mo) (T : TX (g 1) n x) (hz : g 0 9 = nI n) (K : ∀ dp o k, Q (some (.int (if ivOk x n = true then 1 else 0))) (mh h mo (GI g (nI (ivW x n)) dp o k))) : pz_M (d + 4) mX10_isValue [.ref mo] (mh h mo g) Q := by
  have hn := T.1
  simp only [enX10_isValue, uX10_isValue_0, uX10_isValue_0o, uX10_isValue_0f, uX10_isValue_1, uX10_isValue_2, uX10_isValue_5, uX10_isValue_6, uX10_isValue_7, uX10_isValue_8, uX10_isValue_10, uX10_isValue_13, uX10_isValue_13o, uX10_isValue_13f, uX10_isValue_14, uX10_isValue_15, uX10_isValue_18, uX10_isValue_19, uX10_isValue_19o, uX10_isValue_19f, uX10_isValue_20, uX10_isValue_23, uX10_isValue_26, uX10_isValue_27, uX10_isValue_30, uX10_isValue_30o, uX10_isValue_30f, uX10_isValue_31, uX10_isValue_34, uX10_isValue_34o, uX10_isValue_34f, uX10_isValue_35, uX10_isValue_38, uX10_isValue_39, uX10_isValue_40, uX10_isValue_41, uX10_isValue_43, uX10_isValue_44, uX10_isValue_46, uX10_isValue_48, uX10_isValue_51, uX10_isValue_53, uX10_isValue_54, uX10_isValue_57, uX10_isValue_58, uX10_isValue_60, uX10_isValue_63, uX10_isValue_63o, uX10_isValue_63f, uX10_isValue_64, uX10_isValue_65, uX10_isValue_68, uX10_isValue_69, uX10_isValue_70, uX10_isValue_73, uX10_isValue_74, uX10_isValue_75, uX10_isValue_76, uX10_isValue_78, uX10_isValue_81, uX10_isValue_83, uX10_isValue_84, uX10_isValue_87, uX10_isValue_87o, uX10_isValue_87f, uX10_isValue_88, uX10_isValue_89, uX10_isValue_92, uX10_isValue_94, uX10_isValue_96, uX10_isValue_99, uX10_isValue_99o, uX10_isValue_99f, uX10_isValue_100, uX10_isValue_103, uX10_isValue_103o, uX10_isValue_103f, uX10_isValue_104, uX10_isValue_107, uX10_isValue_108, uX10_isValue_109, uX10_isValue_110, uX10_isValue_113, uX10_isValue_113o, uX10_isValue_113f, uX10_isValue_114, uX10_isValue_114o, uX10_isValue_114f, uX10_isValue_115, uX10_isValue_118, uX10_isValue_118o, uX10_isValue_118f, uX10_isValue_119, uX10_isValue_122, uX10_isValue_123, uX10_isValue_124, uX10_isValue_125, uX10_isValue_126, uX10_isValue_129, uX10_isValue_132, uX10_isValue_132o, uX10_isValue_132f, uX10_isValue_133, uX10_isValue_134, uX10_isValue_137, uX10_isValue_138, uX10_isValue_139, uX10_isValue_139o, uX10_isValue_139f, uX10_isValue_140, uX10_isValue_143, uX10_isValue_143o, uX10_isValue_143f, uX10_isValue_144, uX10_isValue_147, uX10_isValue_148, uX10_isValue_149, uX10_isValue_150, uX10_isValue_151, uX10_isValue_151o, uX10_isValue_151f, uX10_isValue_152, uX10_isValue_155, uX10_isValue_155o, uX10_isValue_155f, uX10_isValue_156, uX10_isValue_159, uX10_isValue_160, uX10_isValue_161, uX10_isValue_162, uX10_isValue_163, uX10_isValue_164, uX10_isValue_166, uX10_isValue_169, uX10_isValue_170, uX10_isValue_172, uX10_isValue_175, uX10_isValue_175o, uX10_isValue_175f, uX10_isValue_176, uX10_isValue_177, uX10_isValue_180, uX10_isValue_182, uX10_isValue_185, uX10_isValue_186, uX10_isValue_189, uX10_isValue_192, uX10_isValue_192o, uX10_isValue_192f, uX10_isValue_193, uX10_isValue_194, uX10_isValue_197, uX10_isValue_199, uX10_isValue_202, uX10_isValue_203, uX10_isValue_205, uX10_isValue_208, uX10_isValue_209, uX10_isValue_211, uX10_isValue_214, uX10_isValue_214o, uX10_isValue_214f, uX10_isValue_215, uX10_isValue_218, uX10_isValue_220, uX10_isValue_223, uX10_isValue_223o, uX10_isValue_223f, uX10_isValue_224, uX10_isValue_227, uX10_isValue_227o, uX10_isValue_227f, uX10_isValue_228, uX10_isValue_231, uX10_isValue_232, uX10_isValue_234, uX10_isValue_237, uX10_isValue_238, uX10_isValue_241, uX10_isValue_242, uX10_isValue_243, uX10_isValue_243o, uX10_isValue_243f, uX10_isValue_244, uX10_isValue_247, uX10_isValue_247o, uX10_isValue_247f, uX10_isValue_248, uX10_isValue_251, uX10_isValue_252, uX10_isValue_253, uX10_isValue_253o, uX10_isValue_253f, uX10_isValue_254, uX10_isValue_255, uX10_isValue_258, uX10_isValue_259, uX10_isValue_260, uX10_isValue_263, uX10_isValue_264, uX10_isValue_265, uX10_isValue_266, uX10_isValue_268, uX10_isValue_269, uX10_isValue_271, uX10_isValue_274, uX10_isValue_274o, uX10_isValue_274f, uX10_isValue_275, uX10_isValue_276, uX10_isValue_279, uX10_isValue_280, uX10_isValue_281, uX10_isValue_283, uX10_isValue_286, uX10_isValue_287, uX10_isValue_288, uX10_isValue_290, uX10_isValue_291, uX10_isValue_293, uX10_isValue_296, uX10_isValue_296o, uX10_isValue_296f, uX10_isValue_297, uX10_isValue_300, uX10_isValue_303, uX10_isValue_303o, uX10_isValue_303f, uX10_isValue_304, uX10_isValue_307, uX10_isValue_307o, uX10_isValue_307f, uX10_isValue_308, uX10_isValue_311, uX10_isValue_312, uX10_isValue_313, uX10_isValue_314, uX10_isValue_315, uX10_isValue_318, uX10_isValue_318o, uX10_isValue_318f, uX10_isValue_319, uX10_isValue_322, uX10_isValue_322o, uX10_isValue_322f, uX10_isValue_323, uX10_isValue_326, uX10_isValue_327, uX10_isValue_328, uX10_isValue_329, uX10_isValue_330, uX10_isValue_332, uX10_isValue_335, uX10_isValue_335o, uX10_isValue_335f, uX10_isValue_336, uX10_isValue_339, uX10_isValue_342, uX10_isValue_343, uX10_isValue_346, uX10_isValue_347, uX10_isValue_348, uX10_isValue_351, uX10_isValue_351o, uX10_isValue_351f, uX10_isValue_352, uX10_isValue_353, uX10_isValue_356, uX10_isValue_357, uX10_isValue_357o, uX10_isValue_357f, uX10_isValue_358, uX10_isValue_361, uX10_isValue_364, uX10_isValue_365, uX10_isValue_368, uX10_isValue_369, mo_C H, mo_R_open H, mo_C_open H, mo_L_open H, mo_R_key H, mo_C_key H, mo_L_key H, pq_C_sI, pq_C_sJ, pq_C_sR, pq_C_sA, pq_L_sI, pq_L_sJ, pq_L_sR, pq_L_sA, pq_I_sI, pq_I_sJ, pq_I_sR, pq_I_sA, pq_J_sI, pq_J_sJ, pq_J_sR, pq_J_sA, pq_R_sI, pq_R_sJ, pq_R_sR, pq_R_sA, pq_N_sI, pq_N_sJ, pq_N_sR, pq_N_sA, pq_S_sI, pq_S_sJ, pq_S_sR, pq_S_sA, pz_rf_s, pz_cut_i, pz_cut_r, pz_cut_n, pz_cut_f, pz_cut_u, pz_cut_o, true_and, and_true, true_or, or_true, Option.toList_some, Option.toList_none, List.cons_append, List.nil_append, Nat.add_left_cancel_iff, Nat.left_eq_add, Nat.add_eq_left, Nat.reduceEqDiff, if_true, if_false, ite_true, ite_false, false_and, and_false, false_or, or_false, reduceIte, reduceCtorEq, and_self, mh_C, mh_L, mh_R, mh_J, mh_I0, mh_I, mh_Ir, mh_sI0, mh_sI, mh_sA, gu_11, gu_22, gu_r, gu_21s, gu_21c, gu_22s, gu_11s, gu_11c, gu_22c, Nat.reduceLeDiff, Nat.reduceLT, ne_eq, not_false_eq_true, not_true_eq_false, Nat.reduceEqDiff, Nat.lt_irrefl, eq_self, z_4, z_5, z_7, z_8, z_10, z_16, z_20, z_64]
  rw [← GI_eta]
  refine iv_main H T hz (2 * n + 1) none 0 0 _ _ _ _ _ _ rfl rfl ⟨by omega, by omega, by omega, Or.inl rfl⟩ ?_ ?_
  · intro w' dp' o' k' e
    have e1 : ivR x n = .error w' := e
    have := K dp' o' k'
    unfold ivOk ivW at this
    rw [e1] at this
    exact this
  · intro e o' k' c hw dn e1 _ e3 _
    have e2 : ivR x n = .ok e := e1
    rw [uX10_isValue_9]
    rw [show ivB 0 none = 0 from rfl, if_pos rfl]
    simp only [enX10_isValue, uX10_isValue_0, uX10_isValue_0o, uX10_isValue_0f, uX10_isValue_1, uX10_isValue_2, uX10_isValue_5, uX10_isValue_6, uX10_isValue_7, uX10_isValue_8, uX10_isValue_10, uX10_isValue_13, uX10_isValue_13o, uX10_isValue_13f, uX10_isValue_14, uX10_isValue_15, uX10_isValue_18, uX10_isValue_19, uX10_isValue_19o, uX10_isValue_19f, uX10_isValue_20, uX10_isValue_23, uX10_isValue_26, uX10_isValue_27, uX10_isValue_30, uX10_isValue_30o, uX10_isValue_30f, uX10_isValue_31, uX10_isValue_34, uX10_isValue_34o, uX10_isValue_34f, uX10_isValue_35, uX10_isValue_38, uX10_isValue_39, uX10_isValue_40, uX10_isValue_41, uX10_isValue_43, uX10_isValue_44, uX10_isValue_46, uX10_isValue_48, uX10_isValue_51, uX10_isValue_53, uX10_isValue_54, uX10_isValue_57, uX10_isValue_58, uX10_isValue_60, uX10_isValue_63, uX10_isValue_63o, uX10_isValue_63f, uX10_isValue_64, uX10_isValue_65, uX10_isValue_68, uX10_isValue_69, uX10_isValue_70, uX10_isValue_73, uX10_isValue_74, uX10_isValue_75, uX10_isValue_76, uX10_isValue_78, uX10_isValue_81, uX10_isValue_83, uX10_isValue_84, uX10_isValue_87, uX10_isValue_87o, uX10_isValue_87f, uX10_isValue_88, uX10_isValue_89, uX10_isValue_92, uX10_isValue_94, uX10_isValue_96, uX10_isValue_99, uX10_isValue_99o, uX10_isValue_99f, uX10_isValue_100, uX10_isValue_103, uX10_isValue_103o, uX10_isValue_103f, uX10_isValue_104, uX10_isValue_107, uX10_isValue_108, uX10_isValue_109, uX10_isValue_110, uX10_isValue_113, uX10_isValue_113o, uX10_isValue_113f, uX10_isValue_114, uX10_isValue_114o, uX10_isValue_114f, uX10_isValue_115, uX10_isValue_118, uX10_isValue_118o, uX10_isValue_118f, uX10_isValue_119, uX10_isValue_122, uX10_isValue_123, uX10_isValue_124, uX10_isValue_125, uX10_isValue_126, uX10_isValue_129, uX10_isValue_132, uX10_isValue_132o, uX10_isValue_132f, uX10_isValue_133, uX10_isValue_134, uX10_isValue_137, uX10_isValue_138, uX10_isValue_139, uX10_isValue_139o, uX10_isValue_139f, uX10_isValue_140, uX10_isValue_143, uX10_isValue_143o, uX10_isValue_143f, uX10_isValue_144, uX10_isValue_147, uX10_isValue_148, uX10_isValue_149, uX10_isValue_150, uX10_isValue_151, uX10_isValue_151o, uX10_isValue_151f, uX10_isValue_152, uX10_isValue_155, uX10_isValue_155o, uX10_isValue_155f, uX10_isValue_156, uX10_isValue_159, uX10_isValue_160, uX10_isValue_161, uX10_isValue_162, uX10_isValue_163, uX10_isValue_164, uX10_isValue_166, uX10_isValue_169, uX10_isValue_170, uX10_isValue_172, uX10_isValue_175, uX10_isValue_175o, uX10_isValue_175f, uX10_isValue_176, uX10_isValue_177, uX10_isValue_180, uX10_isValue_182, uX10_isValue_185, uX10_isValue_186, uX10_isValue_189, uX10_isValue_192, uX10_isValue_192o, uX10_isValue_192f, uX10_isValue_193, uX10_isValue_194, uX10_isValue_197, uX10_isValue_199, uX10_isValue_202, uX10_isValue_203, uX10_isValue_205, uX10_isValue_208, uX10_isValue_209, uX10_isValue_211, uX10_isValue_214, uX10_isValue_214o, uX10_isValue_214f, uX10_isValue_215, uX10_isValue_218, uX10_isValue_220, uX10_isValue_223, uX10_isValue_223o, uX10_isValue_223f, uX10_isValue_224, uX10_isValue_227, uX10_isValue_227o, uX10_isValue_227f, uX10_isValue_228, uX10_isValue_231, uX10_isValue_232, uX10_isValue_234, uX10_isValue_237, uX10_isValue_238, uX10_isValue_241, uX10_isValue_242, uX10_isValue_243, uX10_isValue_243o, uX10_isValue_243f, uX10_isValue_244, uX10_isValue_247, uX10_isValue_247o, uX10_isValue_247f, uX10_isValue_248, uX10_isValue_251, uX10_isValue_252, uX10_isValue_253, uX10_isValue_253o, uX10_isValue_253f, uX10_isValue_254, uX10_isValue_255, uX10_isValue_258, uX10_isValue_259, uX10_isValue_260, uX10_isValue_263, uX10_isValue_264, uX10_isValue_265, uX10_isValue_266, uX10_isValue_268, uX10_isValue_269, uX10_isValue_271, uX10_isValue_274, uX10_isValue_274o, uX10_isValue_274f, uX10_isValue_275, uX10_isValue_276, uX10_isValue_279, uX10_isValue_280, uX10_isValue_281, uX10_isValue_283, uX10_isValue_286, uX10_isValue_287, uX10_isValue_288, uX10_isValue_290, uX10_isValue_291, uX10_isValue_293, uX10_isValue_296, uX10_isValue_296o, uX10_isValue_296f, uX10_isValue_297, uX10_isValue_300, uX10_isValue_303, uX10_isValue_303o, uX10_isValue_303f, uX10_isValue_304, uX10_isValue_307, uX10_isValue_307o, uX10_isValue_307f, uX10_isValue_308, uX10_isValue_311, uX10_isValue_312, uX10_isValue_313, uX10_isValue_314, uX10_isValue_315, uX10_isValue_318, uX10_isValue_318o, uX10_isValue_318f, uX10_isValue_319, uX10_isValue_322, uX10_isValue_322o, uX10_isValue_322f, uX10_isValue_323, uX10_isValue_326, uX10_isValue_327, uX10_isValue_328, uX10_isValue_329, uX10_isValue_330, uX10_isValue_332, uX10_isValue_335, uX10_isValue_335o, uX10_isValue_335f, uX10_isValue_336, uX10_isValue_339, uX10_isValue_342, uX10_isValue_343, uX10_isValue_346, uX10_isValue_347, uX10_isValue_348, uX10_isValue_351, uX10_isValue_351o, uX10_isValue_351f, uX10_isValue_352, uX10_isValue_353, uX10_isValue_356, uX10_isValue_357, uX10_isValue_357o, uX10_isValue_357f, uX10_isValue_358, uX10_isValue_361, uX10_isValue_364, uX10_isValue_365, uX10_isValue_368, uX10_isValue_369, mo_C H, mo_R_open H, mo_C_open H, mo_L_open H, mo_R_key H, mo_C_key H, mo_L_key H, pq_C_sI, pq_C_sJ, pq_C_sR, pq_C_sA, pq_L_sI, pq_L_sJ, pq_L_sR, pq_L_sA, pq_I_sI, pq_I_sJ, pq_I_sR, pq_I_sA, pq_J_sI, pq_J_sJ, pq_J_sR, pq_J_sA, pq_R_sI, pq_R_sJ, pq_R_sR, pq_R_sA, pq_N_sI, pq_N_sJ, pq_N_sR, pq_N_sA, pq_S_sI, pq_S_sJ, pq_S_sR, pq_S_sA, pz_rf_s, pz_cut_i, pz_cut_r, pz_cut_n, pz_cut_f, pz_cut_u, pz_cut_o, true_and, and_true, true_or, or_true, Option.toList_some, Option.toList_none, List.cons_append, List.nil_append, Nat.add_left_cancel_iff, Nat.left_eq_add, Nat.add_eq_left, Nat.reduceEqDiff, if_true, if_false, ite_true, ite_false, false_and, and_false, false_or, or_false, reduceIte, reduceCtorEq, and_self, mh_C, mh_L, mh_R, mh_J, mh_I0, mh_I, mh_Ir, mh_sI0, mh_sI, mh_sA, gu_11, gu_22, gu_r, gu_21s, gu_21c, gu_22s, gu_11s, gu_11c, gu_22c, Nat.reduceLeDiff, Nat.reduceLT, ne_eq, not_false_eq_true, not_true_eq_false, Nat.reduceEqDiff, Nat.lt_irrefl, eq_self, z_4, z_5, z_7, z_8, z_10, z_16, z_20, z_64]
    have := K 0 o' k'
    unfold ivOk ivW at this
    rw [e2] at this
    simp only [GI, pq_C_sI, pq_C_sJ, pq_C_sR, pq_C_sA, pq_L_sI, pq_L_sJ, pq_L_sR, pq_L_sA, pq_I_sI, pq_I_sJ, pq_I_sR, pq_I_sA, pq_J_sI, pq_J_sJ, pq_J_sR, pq_J_sA, pq_R_sI, pq_R_sJ, pq_R_sR, pq_R_sA, pq_N_sI, pq_N_sJ, pq_N_sR, pq_N_sA, pq_S_sI, pq_S_sJ, pq_S_sR, pq_S_sA, pz_rf_s, pz_cut_i, pz_cut_r, pz_cut_n, pz_cut_f, pz_cut_u, pz_cut_o, true_and, and_true, true_or, or_true, Option.toList_some, Option.toList_none, List.cons_append, List.nil_append, Nat.add_left_cancel_iff, Nat.left_eq_add, Nat.add_eq_left, Nat.reduceEqDiff, if_true, if_false, ite_true, ite_false, false_and, and_false, false_or, or_false, reduceIte, reduceCtorEq, and_self, mh_C, mh_L, mh_R, mh_J, mh_I0, mh_I, mh_Ir, mh_sI0, mh_sI, mh_sA, gu_11, gu_22, gu_r, gu_21s, gu_21c, gu_22s, gu_11s, gu_11c, gu_22c, Nat.reduceLeDiff, Nat.reduceLT, ne_eq, not_false_eq_true, not_true_eq_false, Nat.reduceEqDiff, Nat.lt_irrefl, eq_self, z_4, z_5, z_7, z_8, z_10, z_16, z_20, z_64, hz] at this ⊢
    by_cases h1 : e = n
    · rw [if_pos (decide_eq_true h1)] at this
      rw [if_neg (fun r => r (by rw [h1]))]
      exact this
    · rw [if_neg (fun r => h1 (of_decide_eq_true r))] at this
      rw [if_pos (fun r => h1 ((nI_eq (by omega) (by omega)).mp r))]
      exact this
/-- an end is one -/
theorem pv_det : ∀ f1 f2 md d1 d2 p e1 e2, pv x n f1 md d1 p = .ok e1 → pv x n f2 md d2 p = .ok e2 → e1 = e2 := by
  intro f1
  induction f1 with
  | zero =>
    intro f2 md d1 d2 p e1 e2 h1
    exact absurd h1 (by cases md <;> simp [pv])
  | succ f1 ih =>
    intro f2 md d1 d2 p e1 e2 h1 h2
    cases f2 with
    | zero => exact absurd h2 (by cases md <;> simp [pv])
    | succ f2 =>
      cases md with
      | none =>
        rw [pv] at h1 h2
        by_cases a1 : dg (x p)
        · rw [if_pos a1] at h1 h2
          rw [h1] at h2
          exact Except.ok.inj h2
        · rw [if_neg a1] at h1 h2
          by_cases a2 : x p = 105
          · rw [if_pos a2] at h1 h2
            rw [h1] at h2
            exact Except.ok.inj h2
          · rw [if_neg a2] at h1 h2
            by_cases a3 : (x p = 108 ∨ x p = 100) ∧ d1 < 8
            · by_cases a4 : (x p = 108 ∨ x p = 100) ∧ d2 < 8
              · rw [if_pos a3] at h1
                rw [if_pos a4] at h2
                exact ih _ _ _ _ _ _ _ h1 h2
              · rw [if_neg a4] at h2
                exact absurd h2 (by simp)
            · rw [if_neg a3] at h1
              exact absurd h1 (by simp)
      | some m =>
        obtain ⟨b, ky⟩ := m
        rw [pv_i] at h1 h2
        by_cases a1 : x p = 101
        · rw [if_pos a1] at h1 h2
          rw [h1] at h2
          exact Except.ok.inj h2
        · rw [if_neg a1] at h1 h2
          by_cases a2 : b = true
          · rw [if_pos a2] at h1 h2
            cases hs : stF x n p with
            | some w' =>
              rw [hs] at h1
              exact absurd h1 (by simp)
            | none =>
              rw [hs] at h1 h2
              simp only at h1 h2
              by_cases a3 : rsk x ky p = true
              · rw [if_pos a3] at h1 h2
                cases q1 : pv x n f1 none d1 (stEnd x p) with
                | error w' =>
                  rw [q1] at h1
                  exact absurd h1 (by simp)
                | ok u1 =>
                  cases q2 : pv x n f2 none d2 (stEnd x p) with
                  | error w' =>
                    rw [q2] at h2
                    exact absurd h2 (by simp)
                  | ok u2 =>
                    rw [q1] at h1
                    rw [q2] at h2
                    have := ih _ _ _ _ _ _ _ q1 q2
                    subst this
                    exact ih _ _ _ _ _ _ _ h1 h2
              · rw [if_neg a3] at h1
                exact absurd h1 (by simp)
          · rw [if_neg a2] at h1 h2
            cases q1 : pv x n f1 none d1 p with
            | error w' =>
              rw [q1] at h1
              exact absurd h1 (by simp)
            | ok u1 =>
              cases q2 : pv x n f2 none d2 p with
              | error w' =>
                rw [q2] at h2
                exact absurd h2 (by simp)
              | ok u2 =>
                rw [q1] at h1
                rw [q2] at h2
                have := ih _ _ _ _ _ _ _ q1 q2
                subst this
                exact ih _ _ _ _ _ _ _ h1 h2
theorem VL_det {md : Option (Bool × Option Nat)} {e1 e2 : Nat} (h1 : VL x n md p e1) (h2 : VL x n md p e2) : e1 = e2 := by
  obtain ⟨f1, d1, _, q1⟩ := h1
  obtain ⟨f2, d2, _, q2⟩ := h2
  exact pv_det _ _ _ _ _ _ _ _ q1 q2
end
