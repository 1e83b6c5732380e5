/-! ===== the reference: make, from its entry ===== -/
section
variable {d : Nat} {h : PzH} {Q : Option Value → PzH → Prop} {mo : Nat} {g : Tb} {A : St}
theorem nPc_64 {n c : Nat} (hc : 0 < c) (hn : 1 ≤ n) : nPc n c ≤ 64 ↔ n ≤ 64 * c := by
  obtain ⟨a1, a2, a3⟩ := nPc_sp hc hn
  constructor
  · intro z
    have := Nat.mul_le_mul_right c z
    omega
  · intro z
    have h1 : (nPc n c - 1) * c < 64 * c := by omega
    have := Nat.lt_of_mul_lt_mul_right h1
    omega
theorem TN_mk {n c : Nat} (h1 : 1 ≤ n) (h2 : n ≤ 4096) (h3 : 32 ≤ c) (h4 : c ≤ 1024) (h5 : n ≤ 64 * c) {B : Tb} {X : (Nat → List Int8) × (Nat → List Int8) × (Nat → List Int8) × (Nat → List Nat) × List (Nat × Nat)} (e18 : B 0 18 = nI n) (e19 : B 0 19 = nI c) (e20 : B 0 20 = nI (nPc n c)) : TN (B, X) n c (nPc n c) := by
  obtain ⟨a1, a2, a3⟩ := nPc_sp (show 0 < c by omega) h1
  exact ⟨e18, e19, e20, h2, h4, (nPc_64 (by omega) h1).mpr h5, fun _ => ⟨h3, a2, a1⟩⟩
theorem mkI_len1 {K0 K1 K2 K3 K6 D1 D2 D3 hs : List Int8} (k0 : K0.length ≤ 17) (k1 : K1.length ≤ 17) (k2 : K2.length ≤ 17) (k3 : K3.length ≤ 17) (k6 : K6.length ≤ 17) (d1 : D1.length ≤ 4) (d2 : D2.length ≤ 4) (d3 : D3.length ≤ 4) (h : hs.length ≤ 1280) : (lit [100] ++ K0).length + (lit [100] ++ (K3 ++ (lit [105] ++ (D1 ++ (lit [101] ++ (K1 ++ (lit [49] ++ (lit [58] ++ (lit [97] ++ (K2 ++ (lit [105] ++ (D2 ++ (lit [101] ++ (K6 ++ (D3 ++ (lit [58] ++ (hs ++ lit [101]))))))))))))))))).length ≤ 5000 := by
  simp only [List.length_append, lit_len]
  generalize K0.length = x0 at *
  generalize K1.length = x1 at *
  generalize K2.length = x2 at *
  generalize K3.length = x3 at *
  generalize K6.length = x6 at *
  generalize D1.length = y1 at *
  generalize D2.length = y2 at *
  generalize D3.length = y3 at *
  generalize hs.length = z at *
  have a1 : z + 1 ≤ 1281 := by omega
  have a2 : y3 + (1 + (z + 1)) ≤ 1286 := by omega
  generalize y3 + (1 + (z + 1)) = w1 at *
  have a3 : x6 + w1 ≤ 1303 := by omega
  generalize x6 + w1 = w2 at *
  have a4 : y2 + (1 + w2) ≤ 1308 := by omega
  generalize y2 + (1 + w2) = w3 at *
  have a5 : x2 + (1 + w3) ≤ 1326 := by omega
  generalize x2 + (1 + w3) = w4 at *
  have a6 : x1 + (1 + (1 + (1 + w4))) ≤ 1346 := by omega
  generalize x1 + (1 + (1 + (1 + w4))) = w5 at *
  have a7 : y1 + (1 + w5) ≤ 1351 := by omega
  generalize y1 + (1 + w5) = w6 at *
  omega
theorem mkI_len {n c P : Nat} {hs : List Int8} (h : hs.length ≤ 1280) : (lit [100] ++ keyL 0).length + (mkI n c P hs).length ≤ 5000 := by
  unfold mkI
  exact mkI_len1 (key_len (by decide)) (key_len (by decide)) (key_len (by decide)) (key_len (by decide)) (key_len (by decide)) dec_len dec_len dec_len h
theorem stV_c {i j : Nat} {l m : List Int8} (hij : i ≠ j) : stV (stV A i l) j m = stV (stV A j m) i l := by
  have e : upf (upf (sV A) i l) j m = upf (upf (sV A) j m) i l := by
    funext k
    unfold upf
    by_cases h1 : k = j
    · rw [if_pos h1, if_neg (fun z => hij (z.symm.trans h1)), if_pos h1]
    · rw [if_neg h1]
      by_cases h2 : k = i
      · rw [if_pos h2, if_pos h2]
      · rw [if_neg h2, if_neg h2, if_neg h1]
  unfold stV
  simp only [sB, sW, sV] at e ⊢
  rw [e]
theorem anA_V : ∀ n, sV (anA A n) = sV A ∧ sD (anA A n) = sD A ∧ sF (anA A n) = sF A
  | 0 => ⟨rfl, rfl, rfl⟩
  | n + 1 => by
    obtain ⟨i1, i2, i3⟩ := anA_V n
    obtain ⟨p1, p2, p3, p4⟩ := paA_V (A := (pz_u2 (sB (anA A n)) 18 n 0, (anA A n).2)) (x := n) 5
    exact ⟨p1.trans i1, p2.trans i2, p3.trans i3⟩
theorem an50 (h0 : g 0 50 = 0) : ∀ n, anG g n 0 50 = 0
  | 0 => h0
  | n + 1 => by
    show paG (pz_u2 (anG g n) 18 n 0) n 5 0 50 = 0
    rw [paG_r (by decide)]
    exact an50 h0 n
theorem mak_7 (H : MO h mo) {pre mi : List Int8} (R : RM g (stV A 1 (pre ++ mi)) []) (hle : pre.length + mi.length ≤ 5000) {v1 v2 : Int32} {v4 v5 : Value} (K : ∀ g', RM g' (anA (stV (stV A 2 (shaL mi)) 1 (pre ++ (mi ++ lit [101]))) 4) [] → Q (some (.int (nI (pre ++ (mi ++ lit [101])).length))) (mh h mo g')) : wp (d + 3) mX10_make 372 [.ref mo, .int v1, .int v2, .int (nI pre.length), v4, v5] [] (mh h mo g) Q := by
  have e3 : g 0 3 = nI (pre.length + mi.length) := by
    have := R.1.1.2.1.1
    rwa [stV_1, List.length_append] at this
  have s2 : SEG (g 2) 0 (pre ++ mi) := by
    have := R.1.1.2.1.2
    rwa [stV_1] at this
  have sI : ∀ j, j < mi.length → g 2 (pre.length + j) = (mi.getD j 0).toInt32 := fun j hj => by
    have := s2 (pre.length + j) (by rw [List.length_append]; omega)
    rw [Nat.zero_add, getD_app2] at this
    exact this
  rw [uX10_make_372, uX10_make_373]
  simp only [pz_cut_i]
  have e0 : mh h mo g = mh h mo (pz_u1 g 3 (g 3)) := by rw [gu_1e]
  rw [e0, mak_4 H (by omega) e3 (fun j hj => by rw [sI j hj, vb8])]
  simp only [enX10_make, uX10_make_0, uX10_make_0o, uX10_make_0f, uX10_make_1, uX10_make_4, uX10_make_5, uX10_make_6, uX10_make_7, uX10_make_10, uX10_make_11, uX10_make_14, uX10_make_17, uX10_make_18, uX10_make_20, uX10_make_23, uX10_make_24, uX10_make_27, uX10_make_30, uX10_make_31, uX10_make_32, uX10_make_33, uX10_make_34, uX10_make_35, uX10_make_36, uX10_make_37, uX10_make_39, uX10_make_42, uX10_make_43, uX10_make_44, uX10_make_44o, uX10_make_44f, uX10_make_45, uX10_make_46, uX10_make_49, uX10_make_49o, uX10_make_49f, uX10_make_50, uX10_make_51, uX10_make_54, uX10_make_54o, uX10_make_54f, uX10_make_55, uX10_make_56, uX10_make_56o, uX10_make_56f, uX10_make_57, uX10_make_60, uX10_make_61, uX10_make_62, uX10_make_63, uX10_make_63o, uX10_make_63f, uX10_make_64, uX10_make_67, uX10_make_68, uX10_make_71, uX10_make_71o, uX10_make_71f, uX10_make_72, uX10_make_73, uX10_make_76, uX10_make_77, uX10_make_78, uX10_make_79, uX10_make_80, uX10_make_83, uX10_make_83o, uX10_make_83f, uX10_make_84, uX10_make_87, uX10_make_88, uX10_make_88o, uX10_make_88f, uX10_make_89, uX10_make_92, uX10_make_93, uX10_make_94, uX10_make_95, uX10_make_98, uX10_make_101, uX10_make_101o, uX10_make_101f, uX10_make_102, uX10_make_103, uX10_make_106, uX10_make_107, uX10_make_108, uX10_make_109, uX10_make_109o, uX10_make_109f, uX10_make_110, uX10_make_113, uX10_make_116, uX10_make_116o, uX10_make_116f, uX10_make_117, uX10_make_118, uX10_make_121, uX10_make_123, uX10_make_124, uX10_make_126, uX10_make_128, uX10_make_130, uX10_make_133, uX10_make_133o, uX10_make_133f, uX10_make_134, uX10_make_137, uX10_make_139, uX10_make_139o, uX10_make_139f, uX10_make_140, uX10_make_143, uX10_make_144, uX10_make_144o, uX10_make_144f, uX10_make_145, uX10_make_148, uX10_make_149, uX10_make_151, uX10_make_152, uX10_make_153, uX10_make_154, uX10_make_157, uX10_make_160, uX10_make_160o, uX10_make_160f, uX10_make_161, uX10_make_163, uX10_make_166, uX10_make_166o, uX10_make_166f, uX10_make_167, uX10_make_170, uX10_make_171, uX10_make_173, uX10_make_175, uX10_make_177, uX10_make_180, uX10_make_180o, uX10_make_180f, uX10_make_181, uX10_make_184, uX10_make_186, uX10_make_187, uX10_make_188, uX10_make_190, uX10_make_191, uX10_make_191o, uX10_make_191f, uX10_make_192, uX10_make_195, uX10_make_197, uX10_make_198, uX10_make_199, uX10_make_202, uX10_make_205, uX10_make_208, uX10_make_211, uX10_make_211o, uX10_make_211f, uX10_make_212, uX10_make_213, uX10_make_216, uX10_make_216o, uX10_make_216f, uX10_make_217, uX10_make_219, uX10_make_222, uX10_make_222o, uX10_make_222f, uX10_make_223, uX10_make_224, uX10_make_227, uX10_make_227o, uX10_make_227f, uX10_make_228, uX10_make_231, uX10_make_232, uX10_make_232o, uX10_make_232f, uX10_make_233, uX10_make_235, uX10_make_238, uX10_make_238o, uX10_make_238f, uX10_make_239, uX10_make_240, uX10_make_243, uX10_make_243o, uX10_make_243f, uX10_make_244, uX10_make_246, uX10_make_249, uX10_make_249o, uX10_make_249f, uX10_make_250, uX10_make_250o, uX10_make_250f, uX10_make_251, uX10_make_254, uX10_make_257, uX10_make_257o, uX10_make_257f, uX10_make_258, uX10_make_260, uX10_make_263, uX10_make_263o, uX10_make_263f, uX10_make_264, uX10_make_265, uX10_make_268, uX10_make_268o, uX10_make_268f, uX10_make_269, uX10_make_271, uX10_make_274, uX10_make_274o, uX10_make_274f, uX10_make_275, uX10_make_277, uX10_make_280, uX10_make_280o, uX10_make_280f, uX10_make_281, uX10_make_283, uX10_make_286, uX10_make_286o, uX10_make_286f, uX10_make_287, uX10_make_288, uX10_make_291, uX10_make_291o, uX10_make_291f, uX10_make_292, uX10_make_294, uX10_make_297, uX10_make_297o, uX10_make_297f, uX10_make_298, uX10_make_298o, uX10_make_298f, uX10_make_299, uX10_make_302, uX10_make_305, uX10_make_305o, uX10_make_305f, uX10_make_306, uX10_make_308, uX10_make_311, uX10_make_311o, uX10_make_311f, uX10_make_312, uX10_make_314, uX10_make_317, uX10_make_317o, uX10_make_317f, uX10_make_318, uX10_make_320, uX10_make_320o, uX10_make_320f, uX10_make_321, uX10_make_324, uX10_make_325, uX10_make_328, uX10_make_328o, uX10_make_328f, uX10_make_329, uX10_make_331, uX10_make_334, uX10_make_335, uX10_make_337, uX10_make_339, uX10_make_341, uX10_make_341o, uX10_make_341f, uX10_make_342, uX10_make_345, uX10_make_346, uX10_make_349, uX10_make_349o, uX10_make_349f, uX10_make_350, uX10_make_350o, uX10_make_350f, uX10_make_351, uX10_make_354, uX10_make_356, uX10_make_357, uX10_make_360, uX10_make_363, uX10_make_366, uX10_make_366o, uX10_make_366f, uX10_make_367, uX10_make_369, uX10_make_372, uX10_make_373, uX10_make_375, uX10_make_377, uX10_make_377o, uX10_make_377f, uX10_make_378, uX10_make_381, uX10_make_384, uX10_make_384o, uX10_make_384f, uX10_make_385, uX10_make_388, uX10_make_390, uX10_make_391, uX10_make_392, uX10_make_392o, uX10_make_392f, uX10_make_393, uX10_make_396, uX10_make_398, uX10_make_399, uX10_make_400, uX10_make_403, uX10_make_406, uX10_make_406o, uX10_make_406f, uX10_make_407, uX10_make_407o, uX10_make_407f, uX10_make_408, uX10_make_411, uX10_make_412, uX10_make_413, uX10_make_416, uX10_make_416o, uX10_make_416f, uX10_make_417, uX10_make_420, uX10_make_421, uX10_make_425, uX10_make_427, uX10_make_430, uX10_make_430o, uX10_make_430f, uX10_make_431, uX10_make_434, uX10_make_436, uX10_make_436o, uX10_make_436f, uX10_make_437, uX10_make_440, uX10_make_442, uX10_make_443, uX10_make_444, uX10_make_447, uX10_make_450, uX10_make_450o, uX10_make_450f, uX10_make_451, uX10_make_453, uX10_make_456, uX10_make_456o, uX10_make_456f, uX10_make_457, uX10_make_460, uX10_make_460o, uX10_make_460f, uX10_make_461, uX10_make_464, mo_C H, mo_R_out H, mo_C_out H, mo_L_out H, mo_R_row H, mo_C_row H, mo_L_row H, pq_C_sI, pq_C_sJ, pq_C_sR, pq_C_sA, pq_L_sI, pq_L_sJ, pq_L_sR, pq_L_sA, pq_I_sI, pq_I_sJ, pq_I_sR, pq_I_sA, pq_J_sI, pq_J_sJ, pq_J_sR, pq_J_sA, pq_R_sI, pq_R_sJ, pq_R_sR, pq_R_sA, pq_N_sI, pq_N_sJ, pq_N_sR, pq_N_sA, pq_S_sI, pq_S_sJ, pq_S_sR, pq_S_sA, pz_rf_s, pz_cut_i, pz_cut_r, pz_cut_n, pz_cut_f, pz_cut_u, pz_cut_o, true_and, and_true, true_or, or_true, Option.toList_some, Option.toList_none, List.cons_append, List.nil_append, Nat.add_left_cancel_iff, Nat.left_eq_add, Nat.add_eq_left, Nat.reduceEqDiff, if_true, if_false, ite_true, ite_false, false_and, and_false, false_or, or_false, reduceIte, reduceCtorEq, and_self, mh_C, mh_L, mh_R, mh_J, mh_I0, mh_I, mh_Ir, mh_sI0, mh_sI, mh_sA, gu_11, gu_22, gu_r, gu_21s, gu_21c, gu_22s, gu_11s, gu_11c, gu_22c, Nat.reduceLeDiff, Nat.reduceLT, ne_eq, not_false_eq_true, not_true_eq_false, Nat.reduceEqDiff, Nat.lt_irrefl, eq_self, z_4, z_5, z_7, z_8, z_10, z_16, z_20, z_64, g_rowFrom H, e3]
  rw [pk_sub (by omega), Nat.add_sub_cancel_left]
  refine g_shaR (l := mi) H (by omega) rfl ?_ (fun g2 F2 S2 => ?_)
  · intro j hj
    rw [gu_11, if_pos rfl, Nat.zero_add]
    have := put_in (f := g 3) (u := fun j => g 2 (pre.length + j)) (a := 0) hj
    rw [Nat.zero_add] at this
    rw [this, sI j hj]
  · have R2 : RM g2 (stV A 1 (pre ++ mi)) [] := by
      refine RM_fr (rs := [3, 4, 5, 6]) (ss := [5]) R (FR_trans ?_ F2) (by decide) (by decide)
      first
        | exact FR_trans (FR_1 (by decide) (by decide)) (FR_2 (by decide))
        | exact FR_trans (FR_2 (by decide)) (FR_1 (by decide) (by decide))
    have sl : (shaL mi).length = 20 := ofF_len
    have f6 : ∀ j, j < 20 → g2 6 j = ((shaL mi).getD j 0).toInt32 := fun j hj => by
      have := S2 j (by rw [sl]; exact hj)
      rwa [Nat.zero_add] at this
    simp only [enX10_make, uX10_make_0, uX10_make_0o, uX10_make_0f, uX10_make_1, uX10_make_4, uX10_make_5, uX10_make_6, uX10_make_7, uX10_make_10, uX10_make_11, uX10_make_14, uX10_make_17, uX10_make_18, uX10_make_20, uX10_make_23, uX10_make_24, uX10_make_27, uX10_make_30, uX10_make_31, uX10_make_32, uX10_make_33, uX10_make_34, uX10_make_35, uX10_make_36, uX10_make_37, uX10_make_39, uX10_make_42, uX10_make_43, uX10_make_44, uX10_make_44o, uX10_make_44f, uX10_make_45, uX10_make_46, uX10_make_49, uX10_make_49o, uX10_make_49f, uX10_make_50, uX10_make_51, uX10_make_54, uX10_make_54o, uX10_make_54f, uX10_make_55, uX10_make_56, uX10_make_56o, uX10_make_56f, uX10_make_57, uX10_make_60, uX10_make_61, uX10_make_62, uX10_make_63, uX10_make_63o, uX10_make_63f, uX10_make_64, uX10_make_67, uX10_make_68, uX10_make_71, uX10_make_71o, uX10_make_71f, uX10_make_72, uX10_make_73, uX10_make_76, uX10_make_77, uX10_make_78, uX10_make_79, uX10_make_80, uX10_make_83, uX10_make_83o, uX10_make_83f, uX10_make_84, uX10_make_87, uX10_make_88, uX10_make_88o, uX10_make_88f, uX10_make_89, uX10_make_92, uX10_make_93, uX10_make_94, uX10_make_95, uX10_make_98, uX10_make_101, uX10_make_101o, uX10_make_101f, uX10_make_102, uX10_make_103, uX10_make_106, uX10_make_107, uX10_make_108, uX10_make_109, uX10_make_109o, uX10_make_109f, uX10_make_110, uX10_make_113, uX10_make_116, uX10_make_116o, uX10_make_116f, uX10_make_117, uX10_make_118, uX10_make_121, uX10_make_123, uX10_make_124, uX10_make_126, uX10_make_128, uX10_make_130, uX10_make_133, uX10_make_133o, uX10_make_133f, uX10_make_134, uX10_make_137, uX10_make_139, uX10_make_139o, uX10_make_139f, uX10_make_140, uX10_make_143, uX10_make_144, uX10_make_144o, uX10_make_144f, uX10_make_145, uX10_make_148, uX10_make_149, uX10_make_151, uX10_make_152, uX10_make_153, uX10_make_154, uX10_make_157, uX10_make_160, uX10_make_160o, uX10_make_160f, uX10_make_161, uX10_make_163, uX10_make_166, uX10_make_166o, uX10_make_166f, uX10_make_167, uX10_make_170, uX10_make_171, uX10_make_173, uX10_make_175, uX10_make_177, uX10_make_180, uX10_make_180o, uX10_make_180f, uX10_make_181, uX10_make_184, uX10_make_186, uX10_make_187, uX10_make_188, uX10_make_190, uX10_make_191, uX10_make_191o, uX10_make_191f, uX10_make_192, uX10_make_195, uX10_make_197, uX10_make_198, uX10_make_199, uX10_make_202, uX10_make_205, uX10_make_208, uX10_make_211, uX10_make_211o, uX10_make_211f, uX10_make_212, uX10_make_213, uX10_make_216, uX10_make_216o, uX10_make_216f, uX10_make_217, uX10_make_219, uX10_make_222, uX10_make_222o, uX10_make_222f, uX10_make_223, uX10_make_224, uX10_make_227, uX10_make_227o, uX10_make_227f, uX10_make_228, uX10_make_231, uX10_make_232, uX10_make_232o, uX10_make_232f, uX10_make_233, uX10_make_235, uX10_make_238, uX10_make_238o, uX10_make_238f, uX10_make_239, uX10_make_240, uX10_make_243, uX10_make_243o, uX10_make_243f, uX10_make_244, uX10_make_246, uX10_make_249, uX10_make_249o, uX10_make_249f, uX10_make_250, uX10_make_250o, uX10_make_250f, uX10_make_251, uX10_make_254, uX10_make_257, uX10_make_257o, uX10_make_257f, uX10_make_258, uX10_make_260, uX10_make_263, uX10_make_263o, uX10_make_263f, uX10_make_264, uX10_make_265, uX10_make_268, uX10_make_268o, uX10_make_268f, uX10_make_269, uX10_make_271, uX10_make_274, uX10_make_274o, uX10_make_274f, uX10_make_275, uX10_make_277, uX10_make_280, uX10_make_280o, uX10_make_280f, uX10_make_281, uX10_make_283, uX10_make_286, uX10_make_286o, uX10_make_286f, uX10_make_287, uX10_make_288, uX10_make_291, uX10_make_291o, uX10_make_291f, uX10_make_292, uX10_make_294, uX10_make_297, uX10_make_297o, uX10_make_297f, uX10_make_298, uX10_make_298o, uX10_make_298f, uX10_make_299, uX10_make_302, uX10_make_305, uX10_make_305o, uX10_make_305f, uX10_make_306, uX10_make_308, uX10_make_311, uX10_make_311o, uX10_make_311f, uX10_make_312, uX10_make_314, uX10_make_317, uX10_make_317o, uX10_make_317f, uX10_make_318, uX10_make_320, uX10_make_320o, uX10_make_320f, uX10_make_321, uX10_make_324, uX10_make_325, uX10_make_328, uX10_make_328o, uX10_make_328f, uX10_make_329, uX10_make_331, uX10_make_334, uX10_make_335, uX10_make_337, uX10_make_339, uX10_make_341, uX10_make_341o, uX10_make_341f, uX10_make_342, uX10_make_345, uX10_make_346, uX10_make_349, uX10_make_349o, uX10_make_349f, uX10_make_350, uX10_make_350o, uX10_make_350f, uX10_make_351, uX10_make_354, uX10_make_356, uX10_make_357, uX10_make_360, uX10_make_363, uX10_make_366, uX10_make_366o, uX10_make_366f, uX10_make_367, uX10_make_369, uX10_make_372, uX10_make_373, uX10_make_375, uX10_make_377, uX10_make_377o, uX10_make_377f, uX10_make_378, uX10_make_381, uX10_make_384, uX10_make_384o, uX10_make_384f, uX10_make_385, uX10_make_388, uX10_make_390, uX10_make_391, uX10_make_392, uX10_make_392o, uX10_make_392f, uX10_make_393, uX10_make_396, uX10_make_398, uX10_make_399, uX10_make_400, uX10_make_403, uX10_make_406, uX10_make_406o, uX10_make_406f, uX10_make_407, uX10_make_407o, uX10_make_407f, uX10_make_408, uX10_make_411, uX10_make_412, uX10_make_413, uX10_make_416, uX10_make_416o, uX10_make_416f, uX10_make_417, uX10_make_420, uX10_make_421, uX10_make_425, uX10_make_427, uX10_make_430, uX10_make_430o, uX10_make_430f, uX10_make_431, uX10_make_434, uX10_make_436, uX10_make_436o, uX10_make_436f, uX10_make_437, uX10_make_440, uX10_make_442, uX10_make_443, uX10_make_444, uX10_make_447, uX10_make_450, uX10_make_450o, uX10_make_450f, uX10_make_451, uX10_make_453, uX10_make_456, uX10_make_456o, uX10_make_456f, uX10_make_457, uX10_make_460, uX10_make_460o, uX10_make_460f, uX10_make_461, uX10_make_464, mo_C H, mo_R_out H, mo_C_out H, mo_L_out H, mo_R_row H, mo_C_row H, mo_L_row H, pq_C_sI, pq_C_sJ, pq_C_sR, pq_C_sA, pq_L_sI, pq_L_sJ, pq_L_sR, pq_L_sA, pq_I_sI, pq_I_sJ, pq_I_sR, pq_I_sA, pq_J_sI, pq_J_sJ, pq_J_sR, pq_J_sA, pq_R_sI, pq_R_sJ, pq_R_sR, pq_R_sA, pq_N_sI, pq_N_sJ, pq_N_sR, pq_N_sA, pq_S_sI, pq_S_sJ, pq_S_sR, pq_S_sA, pz_rf_s, pz_cut_i, pz_cut_r, pz_cut_n, pz_cut_f, pz_cut_u, pz_cut_o, true_and, and_true, true_or, or_true, Option.toList_some, Option.toList_none, List.cons_append, List.nil_append, Nat.add_left_cancel_iff, Nat.left_eq_add, Nat.add_eq_left, Nat.reduceEqDiff, if_true, if_false, ite_true, ite_false, false_and, and_false, false_or, or_false, reduceIte, reduceCtorEq, and_self, mh_C, mh_L, mh_R, mh_J, mh_I0, mh_I, mh_Ir, mh_sI0, mh_sI, mh_sA, gu_11, gu_22, gu_r, gu_21s, gu_21c, gu_22s, gu_11s, gu_11c, gu_22c, Nat.reduceLeDiff, Nat.reduceLT, ne_eq, not_false_eq_true, not_true_eq_false, Nat.reduceEqDiff, Nat.lt_irrefl, eq_self, z_4, z_5, z_7, z_8, z_10, z_16, z_20, z_64]
    have e1 : mh h mo g2 = mh h mo (pz_u1 g2 14 (g2 14)) := by rw [gu_1e]
    rw [e1, mak_5 H (fun j hj => by rw [f6 j hj, vb8])]
    have R3 := RM_V2 (t := put (g2 14) 0 20 (g2 6)) (l := shaL mi) R2 (fun j hj => by
      rw [put_in (by rw [sl] at hj; exact hj)]
      rw [sl] at hj
      exact f6 j hj)
    rw [stV_c (by decide)] at R3
    simp only [enX10_make, uX10_make_0, uX10_make_0o, uX10_make_0f, uX10_make_1, uX10_make_4, uX10_make_5, uX10_make_6, uX10_make_7, uX10_make_10, uX10_make_11, uX10_make_14, uX10_make_17, uX10_make_18, uX10_make_20, uX10_make_23, uX10_make_24, uX10_make_27, uX10_make_30, uX10_make_31, uX10_make_32, uX10_make_33, uX10_make_34, uX10_make_35, uX10_make_36, uX10_make_37, uX10_make_39, uX10_make_42, uX10_make_43, uX10_make_44, uX10_make_44o, uX10_make_44f, uX10_make_45, uX10_make_46, uX10_make_49, uX10_make_49o, uX10_make_49f, uX10_make_50, uX10_make_51, uX10_make_54, uX10_make_54o, uX10_make_54f, uX10_make_55, uX10_make_56, uX10_make_56o, uX10_make_56f, uX10_make_57, uX10_make_60, uX10_make_61, uX10_make_62, uX10_make_63, uX10_make_63o, uX10_make_63f, uX10_make_64, uX10_make_67, uX10_make_68, uX10_make_71, uX10_make_71o, uX10_make_71f, uX10_make_72, uX10_make_73, uX10_make_76, uX10_make_77, uX10_make_78, uX10_make_79, uX10_make_80, uX10_make_83, uX10_make_83o, uX10_make_83f, uX10_make_84, uX10_make_87, uX10_make_88, uX10_make_88o, uX10_make_88f, uX10_make_89, uX10_make_92, uX10_make_93, uX10_make_94, uX10_make_95, uX10_make_98, uX10_make_101, uX10_make_101o, uX10_make_101f, uX10_make_102, uX10_make_103, uX10_make_106, uX10_make_107, uX10_make_108, uX10_make_109, uX10_make_109o, uX10_make_109f, uX10_make_110, uX10_make_113, uX10_make_116, uX10_make_116o, uX10_make_116f, uX10_make_117, uX10_make_118, uX10_make_121, uX10_make_123, uX10_make_124, uX10_make_126, uX10_make_128, uX10_make_130, uX10_make_133, uX10_make_133o, uX10_make_133f, uX10_make_134, uX10_make_137, uX10_make_139, uX10_make_139o, uX10_make_139f, uX10_make_140, uX10_make_143, uX10_make_144, uX10_make_144o, uX10_make_144f, uX10_make_145, uX10_make_148, uX10_make_149, uX10_make_151, uX10_make_152, uX10_make_153, uX10_make_154, uX10_make_157, uX10_make_160, uX10_make_160o, uX10_make_160f, uX10_make_161, uX10_make_163, uX10_make_166, uX10_make_166o, uX10_make_166f, uX10_make_167, uX10_make_170, uX10_make_171, uX10_make_173, uX10_make_175, uX10_make_177, uX10_make_180, uX10_make_180o, uX10_make_180f, uX10_make_181, uX10_make_184, uX10_make_186, uX10_make_187, uX10_make_188, uX10_make_190, uX10_make_191, uX10_make_191o, uX10_make_191f, uX10_make_192, uX10_make_195, uX10_make_197, uX10_make_198, uX10_make_199, uX10_make_202, uX10_make_205, uX10_make_208, uX10_make_211, uX10_make_211o, uX10_make_211f, uX10_make_212, uX10_make_213, uX10_make_216, uX10_make_216o, uX10_make_216f, uX10_make_217, uX10_make_219, uX10_make_222, uX10_make_222o, uX10_make_222f, uX10_make_223, uX10_make_224, uX10_make_227, uX10_make_227o, uX10_make_227f, uX10_make_228, uX10_make_231, uX10_make_232, uX10_make_232o, uX10_make_232f, uX10_make_233, uX10_make_235, uX10_make_238, uX10_make_238o, uX10_make_238f, uX10_make_239, uX10_make_240, uX10_make_243, uX10_make_243o, uX10_make_243f, uX10_make_244, uX10_make_246, uX10_make_249, uX10_make_249o, uX10_make_249f, uX10_make_250, uX10_make_250o, uX10_make_250f, uX10_make_251, uX10_make_254, uX10_make_257, uX10_make_257o, uX10_make_257f, uX10_make_258, uX10_make_260, uX10_make_263, uX10_make_263o, uX10_make_263f, uX10_make_264, uX10_make_265, uX10_make_268, uX10_make_268o, uX10_make_268f, uX10_make_269, uX10_make_271, uX10_make_274, uX10_make_274o, uX10_make_274f, uX10_make_275, uX10_make_277, uX10_make_280, uX10_make_280o, uX10_make_280f, uX10_make_281, uX10_make_283, uX10_make_286, uX10_make_286o, uX10_make_286f, uX10_make_287, uX10_make_288, uX10_make_291, uX10_make_291o, uX10_make_291f, uX10_make_292, uX10_make_294, uX10_make_297, uX10_make_297o, uX10_make_297f, uX10_make_298, uX10_make_298o, uX10_make_298f, uX10_make_299, uX10_make_302, uX10_make_305, uX10_make_305o, uX10_make_305f, uX10_make_306, uX10_make_308, uX10_make_311, uX10_make_311o, uX10_make_311f, uX10_make_312, uX10_make_314, uX10_make_317, uX10_make_317o, uX10_make_317f, uX10_make_318, uX10_make_320, uX10_make_320o, uX10_make_320f, uX10_make_321, uX10_make_324, uX10_make_325, uX10_make_328, uX10_make_328o, uX10_make_328f, uX10_make_329, uX10_make_331, uX10_make_334, uX10_make_335, uX10_make_337, uX10_make_339, uX10_make_341, uX10_make_341o, uX10_make_341f, uX10_make_342, uX10_make_345, uX10_make_346, uX10_make_349, uX10_make_349o, uX10_make_349f, uX10_make_350, uX10_make_350o, uX10_make_350f, uX10_make_351, uX10_make_354, uX10_make_356, uX10_make_357, uX10_make_360, uX10_make_363, uX10_make_366, uX10_make_366o, uX10_make_366f, uX10_make_367, uX10_make_369, uX10_make_372, uX10_make_373, uX10_make_375, uX10_make_377, uX10_make_377o, uX10_make_377f, uX10_make_378, uX10_make_381, uX10_make_384, uX10_make_384o, uX10_make_384f, uX10_make_385, uX10_make_388, uX10_make_390, uX10_make_391, uX10_make_392, uX10_make_392o, uX10_make_392f, uX10_make_393, uX10_make_396, uX10_make_398, uX10_make_399, uX10_make_400, uX10_make_403, uX10_make_406, uX10_make_406o, uX10_make_406f, uX10_make_407, uX10_make_407o, uX10_make_407f, uX10_make_408, uX10_make_411, uX10_make_412, uX10_make_413, uX10_make_416, uX10_make_416o, uX10_make_416f, uX10_make_417, uX10_make_420, uX10_make_421, uX10_make_425, uX10_make_427, uX10_make_430, uX10_make_430o, uX10_make_430f, uX10_make_431, uX10_make_434, uX10_make_436, uX10_make_436o, uX10_make_436f, uX10_make_437, uX10_make_440, uX10_make_442, uX10_make_443, uX10_make_444, uX10_make_447, uX10_make_450, uX10_make_450o, uX10_make_450f, uX10_make_451, uX10_make_453, uX10_make_456, uX10_make_456o, uX10_make_456f, uX10_make_457, uX10_make_460, uX10_make_460o, uX10_make_460f, uX10_make_461, uX10_make_464, mo_C H, mo_R_out H, mo_C_out H, mo_L_out H, mo_R_row H, mo_C_row H, mo_L_row H, pq_C_sI, pq_C_sJ, pq_C_sR, pq_C_sA, pq_L_sI, pq_L_sJ, pq_L_sR, pq_L_sA, pq_I_sI, pq_I_sJ, pq_I_sR, pq_I_sA, pq_J_sI, pq_J_sJ, pq_J_sR, pq_J_sA, pq_R_sI, pq_R_sJ, pq_R_sR, pq_R_sA, pq_N_sI, pq_N_sJ, pq_N_sR, pq_N_sA, pq_S_sI, pq_S_sJ, pq_S_sR, pq_S_sA, pz_rf_s, pz_cut_i, pz_cut_r, pz_cut_n, pz_cut_f, pz_cut_u, pz_cut_o, true_and, and_true, true_or, or_true, Option.toList_some, Option.toList_none, List.cons_append, List.nil_append, Nat.add_left_cancel_iff, Nat.left_eq_add, Nat.add_eq_left, Nat.reduceEqDiff, if_true, if_false, ite_true, ite_false, false_and, and_false, false_or, or_false, reduceIte, reduceCtorEq, and_self, mh_C, mh_L, mh_R, mh_J, mh_I0, mh_I, mh_Ir, mh_sI0, mh_sI, mh_sA, gu_11, gu_22, gu_r, gu_21s, gu_21c, gu_22s, gu_11s, gu_11c, gu_22c, Nat.reduceLeDiff, Nat.reduceLT, ne_eq, not_false_eq_true, not_true_eq_false, Nat.reduceEqDiff, Nat.lt_irrefl, eq_self, z_4, z_5, z_7, z_8, z_10, z_16, z_20, z_64]
    refine g_ink H R3 (by rw [List.length_append]; omega) (fun g4 R4 => ?_)
    rw [show pre ++ mi ++ [Int32.toInt8 101] = pre ++ (mi ++ lit [101]) by rw [List.append_assoc]; rfl] at R4
    generalize hX : stV (stV A 2 (shaL mi)) 1 (pre ++ (mi ++ lit [101])) = X at R4 K
    have RA := RG_an R4.1.1
    have a50 := an50 R4.2.1 4
    have eV : sV (anA X 4) 1 = pre ++ (mi ++ lit [101]) := by rw [(anA_V (A := X) 4).1, ← hX, stV_1]
    simp only [enX10_make, uX10_make_0, uX10_make_0o, uX10_make_0f, uX10_make_1, uX10_make_4, uX10_make_5, uX10_make_6, uX10_make_7, uX10_make_10, uX10_make_11, uX10_make_14, uX10_make_17, uX10_make_18, uX10_make_20, uX10_make_23, uX10_make_24, uX10_make_27, uX10_make_30, uX10_make_31, uX10_make_32, uX10_make_33, uX10_make_34, uX10_make_35, uX10_make_36, uX10_make_37, uX10_make_39, uX10_make_42, uX10_make_43, uX10_make_44, uX10_make_44o, uX10_make_44f, uX10_make_45, uX10_make_46, uX10_make_49, uX10_make_49o, uX10_make_49f, uX10_make_50, uX10_make_51, uX10_make_54, uX10_make_54o, uX10_make_54f, uX10_make_55, uX10_make_56, uX10_make_56o, uX10_make_56f, uX10_make_57, uX10_make_60, uX10_make_61, uX10_make_62, uX10_make_63, uX10_make_63o, uX10_make_63f, uX10_make_64, uX10_make_67, uX10_make_68, uX10_make_71, uX10_make_71o, uX10_make_71f, uX10_make_72, uX10_make_73, uX10_make_76, uX10_make_77, uX10_make_78, uX10_make_79, uX10_make_80, uX10_make_83, uX10_make_83o, uX10_make_83f, uX10_make_84, uX10_make_87, uX10_make_88, uX10_make_88o, uX10_make_88f, uX10_make_89, uX10_make_92, uX10_make_93, uX10_make_94, uX10_make_95, uX10_make_98, uX10_make_101, uX10_make_101o, uX10_make_101f, uX10_make_102, uX10_make_103, uX10_make_106, uX10_make_107, uX10_make_108, uX10_make_109, uX10_make_109o, uX10_make_109f, uX10_make_110, uX10_make_113, uX10_make_116, uX10_make_116o, uX10_make_116f, uX10_make_117, uX10_make_118, uX10_make_121, uX10_make_123, uX10_make_124, uX10_make_126, uX10_make_128, uX10_make_130, uX10_make_133, uX10_make_133o, uX10_make_133f, uX10_make_134, uX10_make_137, uX10_make_139, uX10_make_139o, uX10_make_139f, uX10_make_140, uX10_make_143, uX10_make_144, uX10_make_144o, uX10_make_144f, uX10_make_145, uX10_make_148, uX10_make_149, uX10_make_151, uX10_make_152, uX10_make_153, uX10_make_154, uX10_make_157, uX10_make_160, uX10_make_160o, uX10_make_160f, uX10_make_161, uX10_make_163, uX10_make_166, uX10_make_166o, uX10_make_166f, uX10_make_167, uX10_make_170, uX10_make_171, uX10_make_173, uX10_make_175, uX10_make_177, uX10_make_180, uX10_make_180o, uX10_make_180f, uX10_make_181, uX10_make_184, uX10_make_186, uX10_make_187, uX10_make_188, uX10_make_190, uX10_make_191, uX10_make_191o, uX10_make_191f, uX10_make_192, uX10_make_195, uX10_make_197, uX10_make_198, uX10_make_199, uX10_make_202, uX10_make_205, uX10_make_208, uX10_make_211, uX10_make_211o, uX10_make_211f, uX10_make_212, uX10_make_213, uX10_make_216, uX10_make_216o, uX10_make_216f, uX10_make_217, uX10_make_219, uX10_make_222, uX10_make_222o, uX10_make_222f, uX10_make_223, uX10_make_224, uX10_make_227, uX10_make_227o, uX10_make_227f, uX10_make_228, uX10_make_231, uX10_make_232, uX10_make_232o, uX10_make_232f, uX10_make_233, uX10_make_235, uX10_make_238, uX10_make_238o, uX10_make_238f, uX10_make_239, uX10_make_240, uX10_make_243, uX10_make_243o, uX10_make_243f, uX10_make_244, uX10_make_246, uX10_make_249, uX10_make_249o, uX10_make_249f, uX10_make_250, uX10_make_250o, uX10_make_250f, uX10_make_251, uX10_make_254, uX10_make_257, uX10_make_257o, uX10_make_257f, uX10_make_258, uX10_make_260, uX10_make_263, uX10_make_263o, uX10_make_263f, uX10_make_264, uX10_make_265, uX10_make_268, uX10_make_268o, uX10_make_268f, uX10_make_269, uX10_make_271, uX10_make_274, uX10_make_274o, uX10_make_274f, uX10_make_275, uX10_make_277, uX10_make_280, uX10_make_280o, uX10_make_280f, uX10_make_281, uX10_make_283, uX10_make_286, uX10_make_286o, uX10_make_286f, uX10_make_287, uX10_make_288, uX10_make_291, uX10_make_291o, uX10_make_291f, uX10_make_292, uX10_make_294, uX10_make_297, uX10_make_297o, uX10_make_297f, uX10_make_298, uX10_make_298o, uX10_make_298f, uX10_make_299, uX10_make_302, uX10_make_305, uX10_make_305o, uX10_make_305f, uX10_make_306, uX10_make_308, uX10_make_311, uX10_make_311o, uX10_make_311f, uX10_make_312, uX10_make_314, uX10_make_317, uX10_make_317o, uX10_make_317f, uX10_make_318, uX10_make_320, uX10_make_320o, uX10_make_320f, uX10_make_321, uX10_make_324, uX10_make_325, uX10_make_328, uX10_make_328o, uX10_make_328f, uX10_make_329, uX10_make_331, uX10_make_334, uX10_make_335, uX10_make_337, uX10_make_339, uX10_make_341, uX10_make_341o, uX10_make_341f, uX10_make_342, uX10_make_345, uX10_make_346, uX10_make_349, uX10_make_349o, uX10_make_349f, uX10_make_350, uX10_make_350o, uX10_make_350f, uX10_make_351, uX10_make_354, uX10_make_356, uX10_make_357, uX10_make_360, uX10_make_363, uX10_make_366, uX10_make_366o, uX10_make_366f, uX10_make_367, uX10_make_369, uX10_make_372, uX10_make_373, uX10_make_375, uX10_make_377, uX10_make_377o, uX10_make_377f, uX10_make_378, uX10_make_381, uX10_make_384, uX10_make_384o, uX10_make_384f, uX10_make_385, uX10_make_388, uX10_make_390, uX10_make_391, uX10_make_392, uX10_make_392o, uX10_make_392f, uX10_make_393, uX10_make_396, uX10_make_398, uX10_make_399, uX10_make_400, uX10_make_403, uX10_make_406, uX10_make_406o, uX10_make_406f, uX10_make_407, uX10_make_407o, uX10_make_407f, uX10_make_408, uX10_make_411, uX10_make_412, uX10_make_413, uX10_make_416, uX10_make_416o, uX10_make_416f, uX10_make_417, uX10_make_420, uX10_make_421, uX10_make_425, uX10_make_427, uX10_make_430, uX10_make_430o, uX10_make_430f, uX10_make_431, uX10_make_434, uX10_make_436, uX10_make_436o, uX10_make_436f, uX10_make_437, uX10_make_440, uX10_make_442, uX10_make_443, uX10_make_444, uX10_make_447, uX10_make_450, uX10_make_450o, uX10_make_450f, uX10_make_451, uX10_make_453, uX10_make_456, uX10_make_456o, uX10_make_456f, uX10_make_457, uX10_make_460, uX10_make_460o, uX10_make_460f, uX10_make_461, uX10_make_464, mo_C H, mo_R_out H, mo_C_out H, mo_L_out H, mo_R_row H, mo_C_row H, mo_L_row H, pq_C_sI, pq_C_sJ, pq_C_sR, pq_C_sA, pq_L_sI, pq_L_sJ, pq_L_sR, pq_L_sA, pq_I_sI, pq_I_sJ, pq_I_sR, pq_I_sA, pq_J_sI, pq_J_sJ, pq_J_sR, pq_J_sA, pq_R_sI, pq_R_sJ, pq_R_sR, pq_R_sA, pq_N_sI, pq_N_sJ, pq_N_sR, pq_N_sA, pq_S_sI, pq_S_sJ, pq_S_sR, pq_S_sA, pz_rf_s, pz_cut_i, pz_cut_r, pz_cut_n, pz_cut_f, pz_cut_u, pz_cut_o, true_and, and_true, true_or, or_true, Option.toList_some, Option.toList_none, List.cons_append, List.nil_append, Nat.add_left_cancel_iff, Nat.left_eq_add, Nat.add_eq_left, Nat.reduceEqDiff, if_true, if_false, ite_true, ite_false, false_and, and_false, false_or, or_false, reduceIte, reduceCtorEq, and_self, mh_C, mh_L, mh_R, mh_J, mh_I0, mh_I, mh_Ir, mh_sI0, mh_sI, mh_sA, gu_11, gu_22, gu_r, gu_21s, gu_21c, gu_22s, gu_11s, gu_11c, gu_22c, Nat.reduceLeDiff, Nat.reduceLT, ne_eq, not_false_eq_true, not_true_eq_false, Nat.reduceEqDiff, Nat.lt_irrefl, eq_self, z_4, z_5, z_7, z_8, z_10, z_16, z_20, z_64, g_anew H]
    generalize anG g4 4 = G4 at RA a50
    have e33 : G4 0 3 = nI (pre ++ (mi ++ lit [101])).length := by
      have := RA.1.2.1.1
      rwa [eV] at this
    simp only [uX10_make_460, uX10_make_461, uX10_make_464, mh_C, mo_C H, true_and, mh_I0, e33]
    generalize anA X 4 = Y at RA K
    exact K G4 ⟨RA, a50, SEG_nil⟩
theorem g_make (H : MO h mo) (R : RM g A []) (hl : (sV A 0).length ≤ 6000) {c : Int32} (K : ∀ g', RM g' (makA A c).2 [] → Q (some (.int (makA A c).1)) (mh h mo g')) : pz_M (d + 4) mX10_make [.ref mo, .int c] (mh h mo g) Q := by
  have t2 : g 0 2 = nI (sV A 0).length := R.1.1.1.1
  have R0 := RM_used R
  unfold makA at K
  have no : (¬ (1 ≤ (sV A 0).length ∧ (sV A 0).length ≤ 4096 ∧ 32 ≤ c ∧ c ≤ 1024 ∧ (sV A 0).length ≤ 64 * c.toNatClampNeg)) → Q (some (.int (-1))) (mh h mo (pz_u2 g 0 2 0)) := by
    intro z
    rw [if_neg z] at K
    exact K _ R0
  rw [enX10_make, uX10_make_0, uX10_make_1]
  simp only [mh_C, mo_C H, true_and, g_used H, t2, Option.toList_some, List.cons_append, List.nil_append, uX10_make_4, uX10_make_5, uX10_make_6, uX10_make_7, uX10_make_10, uX10_make_11, uX10_make_14, uX10_make_17, uX10_make_18, uX10_make_20, uX10_make_23, uX10_make_24, uX10_make_27, uX10_make_30, uX10_make_31, uX10_make_32, uX10_make_33, uX10_make_34, uX10_make_35, uX10_make_42, uX10_make_43, pq_C_sI, pq_C_sJ, pq_C_sR, pq_C_sA, pq_L_sI, pq_L_sJ, pq_L_sR, pq_L_sA, pq_I_sI, pq_I_sJ, pq_I_sR, pq_I_sA, pq_J_sI, pq_J_sJ, pq_J_sR, pq_J_sA, pq_R_sI, pq_R_sJ, pq_R_sR, pq_R_sA, pq_N_sI, pq_N_sJ, pq_N_sR, pq_N_sA, pq_S_sI, pq_S_sJ, pq_S_sR, pq_S_sA, pz_rf_s, pz_cut_i, pz_cut_r, pz_cut_n, pz_cut_f, pz_cut_u, pz_cut_o, true_and, and_true, true_or, or_true, Option.toList_some, Option.toList_none, List.cons_append, List.nil_append, Nat.add_left_cancel_iff, Nat.left_eq_add, Nat.add_eq_left, Nat.reduceEqDiff, if_true, if_false, ite_true, ite_false, false_and, and_false, false_or, or_false, reduceIte, reduceCtorEq, and_self]
  generalize hV : (sV A 0).length = n at *
  by_cases q1 : 1 ≤ n
  · rw [if_neg (show ¬ nI n < 1 from nI_nlt (b := 1) q1 (by omega))]
    by_cases q2 : n ≤ 4096
    · rw [if_neg (show ¬ 4096 < nI n from nI_nlt (a := 4096) q2 (by decide))]
      by_cases q3 : c < 32
      · rw [if_pos q3]
        exact no (fun z => absurd z.2.2.1 (i32_nle.mpr q3))
      · rw [if_neg q3]
        by_cases q4 : 1024 < c
        · rw [if_pos q4]
          exact no (fun z => absurd z.2.2.2.1 (i32_nle.mpr q4))
        · rw [if_neg q4]
          have h32 : 32 ≤ c := i32_nlt.mp q3
          have h1024 : c ≤ 1024 := i32_nlt.mp q4
          obtain ⟨cc, hcc, rfl⟩ := nI_of (x := c) (fun z => by
            have z1 := Int32.lt_iff_toInt_lt.mp z
            have z2 := Int32.le_iff_toInt_le.mp h32
            have e0 : (0 : Int32).toInt = 0 := by decide
            have e1 : (32 : Int32).toInt = 32 := by decide
            omega)
          have c1 : 32 ≤ cc := (nI_leI (a := 32) (by decide) hcc).mp h32
          have c2 : cc ≤ 1024 := (nI_leI (b := 1024) hcc (by decide)).mp h1024
          rw [nI_clamp hcc] at K no
          have hy : ¬ nI cc = 0 := nI_ne0 (by omega) (by omega)
          obtain ⟨a1, a2, a3⟩ := nPc_sp (show 0 < cc by omega) q1
          have p64 := nPc_64 (show 0 < cc by omega) q1
          have ed : (nI n + nI cc - 1) / nI cc = nI (nPc n cc) := by
            rw [nI_add, show n + cc = (n + cc - 1) + 1 by omega, nI_pred, pk_div (by omega) (by omega) (by omega)]
            rfl
          have hple : nPc n cc ≤ n + cc - 1 := Nat.div_le_self _ _
          rw [uX10_make_36 hy, uX10_make_37, uX10_make_39, ed]
          by_cases q5 : n ≤ 64 * cc
          · rw [if_pos ⟨q1, q2, h32, h1024, q5⟩] at K
            have hp := p64.mpr q5
            rw [if_pos (show nI (nPc n cc) ≤ 64 from nI_le (b := 64) hp (by decide))]
            have R1 := RM_0 (j := 18) (v := nI n) R0 (by decide)
            have R2 := RM_0 (j := 19) (v := nI cc) R1 (by decide)
            simp only [uX10_make_44, uX10_make_45, uX10_make_46, uX10_make_49, uX10_make_50, uX10_make_51, uX10_make_54, uX10_make_55, uX10_make_56, uX10_make_57, uX10_make_60, uX10_make_61, uX10_make_62, uX10_make_63, uX10_make_64, uX10_make_67 hy, uX10_make_68, uX10_make_71, uX10_make_72, uX10_make_73, uX10_make_76, uX10_make_77, mo_C H, pq_C_sI, pq_C_sJ, pq_C_sR, pq_C_sA, pq_L_sI, pq_L_sJ, pq_L_sR, pq_L_sA, pq_I_sI, pq_I_sJ, pq_I_sR, pq_I_sA, pq_J_sI, pq_J_sJ, pq_J_sR, pq_J_sA, pq_R_sI, pq_R_sJ, pq_R_sR, pq_R_sA, pq_N_sI, pq_N_sJ, pq_N_sR, pq_N_sA, pq_S_sI, pq_S_sJ, pq_S_sR, pq_S_sA, pz_rf_s, pz_cut_i, pz_cut_r, pz_cut_n, pz_cut_f, pz_cut_u, pz_cut_o, true_and, and_true, true_or, or_true, Option.toList_some, Option.toList_none, List.cons_append, List.nil_append, Nat.add_left_cancel_iff, Nat.left_eq_add, Nat.add_eq_left, Nat.reduceEqDiff, if_true, if_false, ite_true, ite_false, false_and, and_false, false_or, or_false, reduceIte, reduceCtorEq, and_self, mh_C, mh_I0, mh_sI0, gu_22, Nat.reduceEqDiff, and_true, if_true, ed]
            have R3 := RM_0 (j := 20) (v := nI (nPc n cc)) R2 (by decide)
            have R4 := RM_F (RM_0 (j := 21) (v := 0) R3 (by decide))
            have g1 : pz_u2 (pz_u2 (pz_u2 (pz_u2 (pz_u2 g 0 2 0) 0 18 (nI n)) 0 19 (nI cc)) 0 20 (nI (nPc n cc))) 0 21 0 1 = g 1 := rfl
            generalize pz_u2 (pz_u2 (pz_u2 (pz_u2 (pz_u2 g 0 2 0) 0 18 (nI n)) 0 19 (nI cc)) 0 20 (nI (nPc n cc))) 0 21 0 = G at R4 g1
            have tb : ∀ i, i < n → G 1 i = ((sV A 0).getD i 0).toInt32 := fun i hi => by
              rw [g1]
              have := R.1.1.1.2 i (by omega)
              rwa [Nat.zero_add] at this
            have e0 : mh h mo G = mh h mo (pz_u1 G 15 (G 15)) := by rw [gu_1e]
            rw [e0, mak_1 H q2 (fun i hi => by rw [tb i hi, vb8])]
            have R5 := RM_0 (j := 17) (v := 1) (RM_V4 (t := put (G 15) 0 n (G 1)) (l := sV A 0) R4 (fun i hi => by
              rw [put_in (by omega)]
              exact tb i (by omega))) (by decide)
            have R6 : RM (pz_u2 (pz_u1 G 15 (put (G 15) 0 n (G 1))) 0 17 1) (stV (mk1 A n cc) 3 []) [] := by
              have := RM_V3 (l := []) (t := pz_u2 (pz_u1 G 15 (put (G 15) 0 n (G 1))) 0 17 1 13) R5 SEG_nil
              rw [gu_1e] at this
              exact this
            have T1 : TN (mk1 A n cc) n cc (nPc n cc) := TN_mk q1 q2 c1 c2 q5 rfl rfl rfl
            have hc4 : (sV (mk1 A n cc) 4).length = n := hV
            simp only [uX10_make_101, uX10_make_102, uX10_make_103, uX10_make_106, uX10_make_107, mo_C H, pq_C_sI, pq_C_sJ, pq_C_sR, pq_C_sA, pq_L_sI, pq_L_sJ, pq_L_sR, pq_L_sA, pq_I_sI, pq_I_sJ, pq_I_sR, pq_I_sA, pq_J_sI, pq_J_sJ, pq_J_sR, pq_J_sA, pq_R_sI, pq_R_sJ, pq_R_sR, pq_R_sA, pq_N_sI, pq_N_sJ, pq_N_sR, pq_N_sA, pq_S_sI, pq_S_sJ, pq_S_sR, pq_S_sA, pz_rf_s, pz_cut_i, pz_cut_r, pz_cut_n, pz_cut_f, pz_cut_u, pz_cut_o, true_and, and_true, true_or, or_true, Option.toList_some, Option.toList_none, List.cons_append, List.nil_append, Nat.add_left_cancel_iff, Nat.left_eq_add, Nat.add_eq_left, Nat.reduceEqDiff, if_true, if_false, ite_true, ite_false, false_and, and_false, false_or, or_false, reduceIte, reduceCtorEq, and_self, mh_C, mh_I0, mh_sI0]
            have e17 : pz_u2 (pz_u1 G 15 (put (G 15) 0 n (G 1))) 0 17 1 = pz_u1 (pz_u2 G 0 17 1) 15 (put (G 15) 0 n (G 1)) := gu_21c (by decide)
            refine mak_2 (d := d) H R6 T1 hc4 (fun g2 v4 v5 c4 R7 => ?_) rfl
            have eV4 : sV (mk1 A n cc) 4 = sV A 0 := rfl
            rw [eV4] at R7
            generalize hph : phL (sV A 0) n cc (nPc n cc) (nPc n cc) = hs at R7 K
            have lhs : hs.length = 20 * nPc n cc := by rw [← hph, phL_len]
            have T2 : TN (stV (mk1 A n cc) 3 hs) n cc (nPc n cc) := T1
            refine mak_6 H R7 T2 (by rw [stV_1]; exact lhs) (fun g3 v4 v5 R8 => ?_)
            rw [stV_1] at R8
            rw [← List.append_assoc] at R8
            refine mak_7 H R8 (mkI_len (by omega)) (fun g4 R9 => ?_)
            have eA : stV (stV (stV (mk1 A n cc) 3 hs) 2 (shaL (mkI n cc (nPc n cc) hs))) 1 (lit [100] ++ keyL 0 ++ (mkI n cc (nPc n cc) hs ++ lit [101])) = mk2 A n cc hs := by
              rw [stV_c (by decide), List.append_assoc]
              rfl
            have eL : lit [100] ++ keyL 0 ++ (mkI n cc (nPc n cc) hs ++ lit [101]) = mkL n cc (nPc n cc) hs := by
              rw [List.append_assoc]
              rfl
            rw [eA] at R9
            rw [eL]
            generalize mkL n cc (nPc n cc) hs = ml at K
            generalize anA (mk2 A n cc hs) 4 = Y at R9 K
            exact K g4 R9
          · rw [if_neg (show ¬ nI (nPc n cc) ≤ 64 from nI_ge (a := 64) (by omega) (by omega))]
            simp only [uX10_make_42, uX10_make_43]
            exact no (fun z => q5 z.2.2.2.2)
    · rw [if_pos (show 4096 < nI n from nI_lt (a := 4096) (by omega) (by omega))]
      exact no (fun z => q2 z.2.1)
  · rw [if_pos (show nI n < 1 from nI_lt (b := 1) (by omega) (by decide))]
    exact no (fun z => q1 z.1)
end
