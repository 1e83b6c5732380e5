/-! ===== the class: readFiles whole, readLength, readPieces ===== -/
/-- the draft holds that length and these files -/
def DL (h : PzH) (dr l : Nat) (fs : List (Nat × Nat)) : Prop := pz_I h dr 0 = nI l ∧ pz_I h dr 3 = nI fs.length ∧ ∀ j, j < fs.length → pz_I h (dr + 1) j = nI (fs.getD j (0, 0)).1 ∧ pz_I h (dr + 2) j = nI (fsum (fs.take j)) ∧ pz_I h (dr + 3) j = nI (fs.getD j (0, 0)).2
section
variable {d : Nat} {h h' : PzH} {Q : Option Value → PzH → Prop} {r a cap : Nat} {V : List Int8}
theorem c_readLength (B : BT h r a cap V) {dr : Nat} (L : LD h dr) (hr : r < 10 ∧ a < 10) {b u : Nat} (HV : VE h V b u) (K1 : ∀ h' l, natO (tx V) (some b) = some l → 1 ≤ l ∧ l ≤ 4096 → HF [dr] h h' → DL h' dr l [] → pz_I h' dr 1 = pz_I h dr 1 → Q (some (.int 1)) h') (K0 : ∀ h', ¬ (∃ l, natO (tx V) (some b) = some l ∧ 1 ≤ l ∧ l ≤ 4096) → HF [dr] h h' → Q (some (.int 0)) h') : pz_M (d + 4) mX4_readLength [.ref 10, .int (nI b)] h Q := by
  have B' := B
  have L' := L
  obtain ⟨⟨b1, b2, b3, b4, b5⟩, W, n1, n2, n3, n4⟩ := B
  obtain ⟨⟨l1, l2, l3, l4⟩, ⟨t1, _⟩, hd⟩ := L
  simp only [enX4_readLength, uX4_readLength_0, uX4_readLength_0o, uX4_readLength_0f, uX4_readLength_1, uX4_readLength_4, uX4_readLength_5, uX4_readLength_8, uX4_readLength_8o, uX4_readLength_8f, uX4_readLength_9, uX4_readLength_12, uX4_readLength_12o, uX4_readLength_12f, uX4_readLength_13, uX4_readLength_16, uX4_readLength_17, uX4_readLength_20, uX4_readLength_23, uX4_readLength_23o, uX4_readLength_23f, uX4_readLength_24, uX4_readLength_27, uX4_readLength_30, uX4_readLength_31, uX4_readLength_34, uX4_readLength_37, pq_C_sI, pq_C_sJ, pq_C_sR, pq_C_sA, pq_L_sI, pq_L_sJ, pq_L_sR, pq_L_sA, pq_I_sI, pq_I_sJ, pq_I_sR, pq_I_sA, pq_J_sI, pq_J_sJ, pq_J_sR, pq_J_sA, pq_R_sI, pq_R_sJ, pq_R_sR, pq_R_sA, pq_N_sI, pq_N_sJ, pq_N_sR, pq_N_sA, pq_S_sI, pq_S_sJ, pq_S_sR, pq_S_sA, pz_rf_s, pz_cut_i, pz_cut_r, pz_cut_n, pz_cut_f, pz_cut_u, pz_cut_o, true_and, and_true, true_or, or_true, Option.toList_some, Option.toList_none, List.cons_append, List.nil_append, Nat.add_left_cancel_iff, Nat.left_eq_add, Nat.add_eq_left, Nat.reduceEqDiff, if_true, if_false, ite_true, ite_false, false_and, and_false, false_or, or_false, reduceIte, reduceCtorEq, and_self, z_4, z_5, z_7, z_8, z_10, z_16, z_20, z_64, not_false_eq_true, l1, l3, l4, t1, b1]
  have F1 : HF (drC dr) h (pz_sI h dr 3 0) := HF_sI (by simp [drC])
  have F1' : HF [dr] h (pz_sI h dr 3 0) := HF_sI (by simp)
  have B1 := BT_dr B' hd hr F1
  have HV1 := VE_dr hd F1 HV
  have L1 := LD_fr L' F1
  have i3 : pz_I (pz_sI h dr 3 0) dr 3 = 0 := by rw [pq_I_sI, if_pos ⟨rfl, rfl⟩]
  have i1' : pz_I (pz_sI h dr 3 0) dr 1 = pz_I h dr 1 := by rw [pq_I_sI, if_neg (fun z => by omega)]
  generalize pz_sI h dr 3 0 = h1 at F1 F1' B1 HV1 L1 i3 i1'
  refine c_numberAt (r' := some b) B1 (fun i z => by have e := Option.some.inj z; subst e; exact ⟨_, VE_VL HV1⟩) (fun v hv => ?_)
  obtain ⟨⟨l1, l2, l3, l4⟩, ⟨t1, _⟩, _⟩ := L1
  simp only [enX4_readLength, uX4_readLength_0, uX4_readLength_0o, uX4_readLength_0f, uX4_readLength_1, uX4_readLength_4, uX4_readLength_5, uX4_readLength_8, uX4_readLength_8o, uX4_readLength_8f, uX4_readLength_9, uX4_readLength_12, uX4_readLength_12o, uX4_readLength_12f, uX4_readLength_13, uX4_readLength_16, uX4_readLength_17, uX4_readLength_20, uX4_readLength_23, uX4_readLength_23o, uX4_readLength_23f, uX4_readLength_24, uX4_readLength_27, uX4_readLength_30, uX4_readLength_31, uX4_readLength_34, uX4_readLength_37, pq_C_sI, pq_C_sJ, pq_C_sR, pq_C_sA, pq_L_sI, pq_L_sJ, pq_L_sR, pq_L_sA, pq_I_sI, pq_I_sJ, pq_I_sR, pq_I_sA, pq_J_sI, pq_J_sJ, pq_J_sR, pq_J_sA, pq_R_sI, pq_R_sJ, pq_R_sR, pq_R_sA, pq_N_sI, pq_N_sJ, pq_N_sR, pq_N_sA, pq_S_sI, pq_S_sJ, pq_S_sR, pq_S_sA, pz_rf_s, pz_cut_i, pz_cut_r, pz_cut_n, pz_cut_f, pz_cut_u, pz_cut_o, true_and, and_true, true_or, or_true, Option.toList_some, Option.toList_none, List.cons_append, List.nil_append, Nat.add_left_cancel_iff, Nat.left_eq_add, Nat.add_eq_left, Nat.reduceEqDiff, if_true, if_false, ite_true, ite_false, false_and, and_false, false_or, or_false, reduceIte, reduceCtorEq, and_self, z_4, z_5, z_7, z_8, z_10, z_16, z_20, z_64, not_false_eq_true, l1, l4, t1, c_isWithin]
  have F2 : HF [dr] h (pz_sI h1 dr 0 v) := HF_trans F1' (HF_sI (by simp))
  have i3' : pz_I (pz_sI h1 dr 0 v) dr 3 = 0 := by rw [pq_I_sI, if_neg (fun z => by omega)]; exact i3
  have i0 : pz_I (pz_sI h1 dr 0 v) dr 0 = v := by rw [pq_I_sI, if_pos ⟨rfl, rfl⟩]
  rcases hv with ⟨l, hl, ll, rfl⟩ | ⟨hl, hv⟩
  · have a1 := nI_leI (a := 1) (b := l) (by decide) (by omega)
    have a2 := nI_leI (a := l) (b := 4096) (by omega) (by decide)
    by_cases z : 1 ≤ l ∧ l ≤ 4096
    · rw [if_pos (show 1 ≤ nI l ∧ nI l ≤ 4096 from ⟨a1.mpr z.1, a2.mpr z.2⟩)]
      exact ⟨Or.inr rfl, K1 _ l hl z F2 ⟨i0, i3', fun j hj => by simp at hj⟩ (by rw [pq_I_sI, if_neg (fun z => by omega)]; exact i1')⟩
    · rw [if_neg (show ¬ (1 ≤ nI l ∧ nI l ≤ 4096) from fun y => z ⟨a1.mp y.1, a2.mp y.2⟩)]
      exact ⟨Or.inl rfl, K0 _ (fun ⟨l', y, y2⟩ => z (by rw [hl] at y; rw [← Option.some.inj y] at y2; exact y2)) F2⟩
  · rw [if_neg (show ¬ (1 ≤ v ∧ v ≤ 4096) from fun y => by
      have y1 := Int32.le_iff_toInt_le.mp y.1
      have y2 := Int32.lt_iff_toInt_lt.mp hv
      have e0 : (0 : Int32).toInt = 0 := by decide
      have e1 : (1 : Int32).toInt = 1 := by decide
      omega)]
    exact ⟨Or.inl rfl, K0 _ (fun ⟨l', y, _⟩ => by rw [hl] at y; exact absurd y (by simp)) F2⟩
theorem fsum_0 : fsum [] = 0 := rfl
theorem c_readFiles (B : BT h r a cap V) {dr : Nat} (L : LD h dr) (hr : r < 10 ∧ a < 10) {b u : Nat} (HV : VE h V b u) (K1 : ∀ h' fs, tx V b = 108 → flO (tx V) V.length (2 * V.length + 1) (b + 1) [] = some fs → fs.length ≤ 16 → 1 ≤ fsum fs ∧ fsum fs ≤ 4096 → HF (drC dr) h h' → DF h' dr fs → pz_I h' dr 1 = pz_I h dr 1 → Q (some (.int 1)) h') (K0 : ∀ h', ¬ (∃ fs, tx V b = 108 ∧ flO (tx V) V.length (2 * V.length + 1) (b + 1) [] = some fs ∧ 1 ≤ fsum fs ∧ fsum fs ≤ 4096) → HF (drC dr) h h' → Q (some (.int 0)) h') : pz_M (d + 7) mX4_readFiles [.ref 10, .int (nI b)] h Q := by
  have B' := B
  have L' := L
  obtain ⟨⟨b1, b2, b3, b4, b5⟩, W, n1, n2, n3, n4⟩ := B
  obtain ⟨⟨l1, l2, l3, l4⟩, ⟨t1, _⟩, hd⟩ := L
  have w6 := W.2.2.2.2.2.1
  have w8 := W.2.2.2.2.2.2.2.1
  have vl := VE_lt HV
  have ik : ∀ {Q : Option Value → PzH → Prop}, pz_M (d + 6) mX1_isKind [.ref 11, .int (nI b), .int 108] h Q ↔ Q (some (.int (if decide (tx V b = 108) = true then 1 else 0))) h := fun {Q} => c_isKind (r' := some b) (k := 108) B' (fun i z => by have := Option.some.inj z; omega) (by decide)
  by_cases q : tx V b = 108
  · have ik1 : ∀ {Q : Option Value → PzH → Prop}, pz_M (d + 6) mX1_isKind [.ref 11, .int (nI b), .int 108] h Q ↔ Q (some (.int 1)) h := fun {Q} => by rw [ik, decide_eq_true q, if_pos rfl]
    simp only [enX4_readFiles, uX4_readFiles_0, uX4_readFiles_0o, uX4_readFiles_0f, uX4_readFiles_1, uX4_readFiles_4, uX4_readFiles_5, uX4_readFiles_7, uX4_readFiles_10, uX4_readFiles_13, uX4_readFiles_14, uX4_readFiles_15, uX4_readFiles_15o, uX4_readFiles_15f, uX4_readFiles_16, uX4_readFiles_19, uX4_readFiles_20, uX4_readFiles_23, uX4_readFiles_23o, uX4_readFiles_23f, uX4_readFiles_24, uX4_readFiles_27, uX4_readFiles_28, uX4_readFiles_31, uX4_readFiles_32, uX4_readFiles_33, uX4_readFiles_34, uX4_readFiles_35, uX4_readFiles_36, uX4_readFiles_38, uX4_readFiles_40, uX4_readFiles_43, uX4_readFiles_43o, uX4_readFiles_43f, uX4_readFiles_44, uX4_readFiles_47, uX4_readFiles_48, uX4_readFiles_50, uX4_readFiles_53, uX4_readFiles_56, uX4_readFiles_56o, uX4_readFiles_56f, uX4_readFiles_57, uX4_readFiles_60, uX4_readFiles_60o, uX4_readFiles_60f, uX4_readFiles_61, uX4_readFiles_64, uX4_readFiles_65, uX4_readFiles_67, uX4_readFiles_70, uX4_readFiles_73, uX4_readFiles_75, uX4_readFiles_75o, uX4_readFiles_75f, uX4_readFiles_76, uX4_readFiles_76o, uX4_readFiles_76f, uX4_readFiles_77, uX4_readFiles_80, uX4_readFiles_81, uX4_readFiles_83, uX4_readFiles_86, uX4_readFiles_89, uX4_readFiles_91, uX4_readFiles_93, uX4_readFiles_94, uX4_readFiles_97, uX4_readFiles_100, uX4_readFiles_103, uX4_readFiles_105, uX4_readFiles_106, uX4_readFiles_109, uX4_readFiles_110, uX4_readFiles_111, uX4_readFiles_111o, uX4_readFiles_111f, uX4_readFiles_112, uX4_readFiles_115, uX4_readFiles_118, uX4_readFiles_119, uX4_readFiles_121, uX4_readFiles_122, uX4_readFiles_122o, uX4_readFiles_122f, uX4_readFiles_123, uX4_readFiles_126, uX4_readFiles_129, uX4_readFiles_130, uX4_readFiles_130o, uX4_readFiles_130f, uX4_readFiles_131, uX4_readFiles_134, uX4_readFiles_137, uX4_readFiles_138, uX4_readFiles_138o, uX4_readFiles_138f, uX4_readFiles_139, uX4_readFiles_142, uX4_readFiles_145, uX4_readFiles_146, uX4_readFiles_148, uX4_readFiles_149, uX4_readFiles_149o, uX4_readFiles_149f, uX4_readFiles_150, uX4_readFiles_153, uX4_readFiles_154, uX4_readFiles_157, uX4_readFiles_159, uX4_readFiles_160, uX4_readFiles_163, uX4_readFiles_163o, uX4_readFiles_163f, uX4_readFiles_164, uX4_readFiles_167, uX4_readFiles_168, uX4_readFiles_169, uX4_readFiles_170, uX4_readFiles_173, uX4_readFiles_173o, uX4_readFiles_173f, uX4_readFiles_174, uX4_readFiles_177, uX4_readFiles_178, uX4_readFiles_181, uX4_readFiles_182, uX4_readFiles_185, uX4_readFiles_188, uX4_readFiles_188o, uX4_readFiles_188f, uX4_readFiles_189, uX4_readFiles_192, uX4_readFiles_193, uX4_readFiles_195, uX4_readFiles_198, uX4_readFiles_201, uX4_readFiles_201o, uX4_readFiles_201f, uX4_readFiles_202, uX4_readFiles_205, uX4_readFiles_208, uX4_readFiles_209, uX4_readFiles_212, uX4_readFiles_215, uX4_readFiles_218, uX4_readFiles_219, uX4_readFiles_222, uX4_readFiles_223, pq_C_sI, pq_C_sJ, pq_C_sR, pq_C_sA, pq_L_sI, pq_L_sJ, pq_L_sR, pq_L_sA, pq_I_sI, pq_I_sJ, pq_I_sR, pq_I_sA, pq_J_sI, pq_J_sJ, pq_J_sR, pq_J_sA, pq_R_sI, pq_R_sJ, pq_R_sR, pq_R_sA, pq_N_sI, pq_N_sJ, pq_N_sR, pq_N_sA, pq_S_sI, pq_S_sJ, pq_S_sR, pq_S_sA, pz_rf_s, pz_cut_i, pz_cut_r, pz_cut_n, pz_cut_f, pz_cut_u, pz_cut_o, true_and, and_true, true_or, or_true, Option.toList_some, Option.toList_none, List.cons_append, List.nil_append, Nat.add_left_cancel_iff, Nat.left_eq_add, Nat.add_eq_left, Nat.reduceEqDiff, if_true, if_false, ite_true, ite_false, false_and, and_false, false_or, or_false, reduceIte, reduceCtorEq, and_self, z_4, z_5, z_7, z_8, z_10, z_16, z_20, z_64, not_false_eq_true, l1, l3, l4, b1, t1, ik1, show ¬ (1 : Int32) = 0 by decide, nI_1]
    have F1 : HF (drC dr) h (pz_sI (pz_sI h dr 3 0) dr 0 0) := HF_trans (HF_sI (by simp [drC])) (HF_sI (by simp [drC]))
    have D1 : DF (pz_sI (pz_sI h dr 3 0) dr 0 0) dr [] := ⟨by simp [pq_I_sI, fsum_0]; rfl, by simp [pq_I_sI]; rfl, fun j hj => by simp at hj⟩
    have kc : pz_I (pz_sI (pz_sI h dr 3 0) dr 0 0) dr 1 = pz_I h dr 1 := by simp [pq_I_sI]
    generalize pz_sI (pz_sI h dr 3 0) dr 0 0 = h1 at F1 D1 kc
    have HD := VE_in HV (Or.inl q)
    rw [decide_eq_false (show ¬ tx V b = 100 by omega)] at HD
    refine rf_l (dr := dr) hr V.length (b + 1) (2 * V.length + 1) u [] h1 (.retAddr 0) (.retAddr 0) Q _ (by omega) (BT_dr B' hd hr F1) (LD_fr L' F1) (DE_dr hd F1 HD) (by simp) (by simp [fsum_0]) (by omega) D1 kc rfl (fun h' fs' z y F2 D2 k2 => ?_) (fun h' z F2 => ?_)
    · by_cases s : 1 ≤ fsum fs' ∧ fsum fs' ≤ 4096
      · rw [if_pos s]
        exact K1 h' fs' q z y s (HF_trans F1 F2) D2 k2
      · rw [if_neg s]
        refine K0 h' ?_ (HF_trans F1 F2)
        rintro ⟨fs2, _, y2, y3⟩
        rw [z] at y2
        rw [← Option.some.inj y2] at y3
        exact s y3
    · refine K0 h' ?_ (HF_trans F1 F2)
      rintro ⟨fs2, _, y2, y3⟩
      rw [z] at y2
      exact absurd y2 (by simp)
  · have ik0 : ∀ {Q : Option Value → PzH → Prop}, pz_M (d + 6) mX1_isKind [.ref 11, .int (nI b), .int 108] h Q ↔ Q (some (.int 0)) h := fun {Q} => by rw [ik, decide_eq_false q, if_neg (show ¬ (false = true) by decide)]
    simp only [enX4_readFiles, uX4_readFiles_0, uX4_readFiles_0o, uX4_readFiles_0f, uX4_readFiles_1, uX4_readFiles_4, uX4_readFiles_5, uX4_readFiles_7, uX4_readFiles_10, uX4_readFiles_13, uX4_readFiles_14, uX4_readFiles_15, uX4_readFiles_15o, uX4_readFiles_15f, uX4_readFiles_16, uX4_readFiles_19, uX4_readFiles_20, uX4_readFiles_23, uX4_readFiles_23o, uX4_readFiles_23f, uX4_readFiles_24, uX4_readFiles_27, uX4_readFiles_28, uX4_readFiles_31, uX4_readFiles_32, uX4_readFiles_33, uX4_readFiles_34, uX4_readFiles_35, uX4_readFiles_36, uX4_readFiles_38, uX4_readFiles_40, uX4_readFiles_43, uX4_readFiles_43o, uX4_readFiles_43f, uX4_readFiles_44, uX4_readFiles_47, uX4_readFiles_48, uX4_readFiles_50, uX4_readFiles_53, uX4_readFiles_56, uX4_readFiles_56o, uX4_readFiles_56f, uX4_readFiles_57, uX4_readFiles_60, uX4_readFiles_60o, uX4_readFiles_60f, uX4_readFiles_61, uX4_readFiles_64, uX4_readFiles_65, uX4_readFiles_67, uX4_readFiles_70, uX4_readFiles_73, uX4_readFiles_75, uX4_readFiles_75o, uX4_readFiles_75f, uX4_readFiles_76, uX4_readFiles_76o, uX4_readFiles_76f, uX4_readFiles_77, uX4_readFiles_80, uX4_readFiles_81, uX4_readFiles_83, uX4_readFiles_86, uX4_readFiles_89, uX4_readFiles_91, uX4_readFiles_93, uX4_readFiles_94, uX4_readFiles_97, uX4_readFiles_100, uX4_readFiles_103, uX4_readFiles_105, uX4_readFiles_106, uX4_readFiles_109, uX4_readFiles_110, uX4_readFiles_111, uX4_readFiles_111o, uX4_readFiles_111f, uX4_readFiles_112, uX4_readFiles_115, uX4_readFiles_118, uX4_readFiles_119, uX4_readFiles_121, uX4_readFiles_122, uX4_readFiles_122o, uX4_readFiles_122f, uX4_readFiles_123, uX4_readFiles_126, uX4_readFiles_129, uX4_readFiles_130, uX4_readFiles_130o, uX4_readFiles_130f, uX4_readFiles_131, uX4_readFiles_134, uX4_readFiles_137, uX4_readFiles_138, uX4_readFiles_138o, uX4_readFiles_138f, uX4_readFiles_139, uX4_readFiles_142, uX4_readFiles_145, uX4_readFiles_146, uX4_readFiles_148, uX4_readFiles_149, uX4_readFiles_149o, uX4_readFiles_149f, uX4_readFiles_150, uX4_readFiles_153, uX4_readFiles_154, uX4_readFiles_157, uX4_readFiles_159, uX4_readFiles_160, uX4_readFiles_163, uX4_readFiles_163o, uX4_readFiles_163f, uX4_readFiles_164, uX4_readFiles_167, uX4_readFiles_168, uX4_readFiles_169, uX4_readFiles_170, uX4_readFiles_173, uX4_readFiles_173o, uX4_readFiles_173f, uX4_readFiles_174, uX4_readFiles_177, uX4_readFiles_178, uX4_readFiles_181, uX4_readFiles_182, uX4_readFiles_185, uX4_readFiles_188, uX4_readFiles_188o, uX4_readFiles_188f, uX4_readFiles_189, uX4_readFiles_192, uX4_readFiles_193, uX4_readFiles_195, uX4_readFiles_198, uX4_readFiles_201, uX4_readFiles_201o, uX4_readFiles_201f, uX4_readFiles_202, uX4_readFiles_205, uX4_readFiles_208, uX4_readFiles_209, uX4_readFiles_212, uX4_readFiles_215, uX4_readFiles_218, uX4_readFiles_219, uX4_readFiles_222, uX4_readFiles_223, pq_C_sI, pq_C_sJ, pq_C_sR, pq_C_sA, pq_L_sI, pq_L_sJ, pq_L_sR, pq_L_sA, pq_I_sI, pq_I_sJ, pq_I_sR, pq_I_sA, pq_J_sI, pq_J_sJ, pq_J_sR, pq_J_sA, pq_R_sI, pq_R_sJ, pq_R_sR, pq_R_sA, pq_N_sI, pq_N_sJ, pq_N_sR, pq_N_sA, pq_S_sI, pq_S_sJ, pq_S_sR, pq_S_sA, pz_rf_s, pz_cut_i, pz_cut_r, pz_cut_n, pz_cut_f, pz_cut_u, pz_cut_o, true_and, and_true, true_or, or_true, Option.toList_some, Option.toList_none, List.cons_append, List.nil_append, Nat.add_left_cancel_iff, Nat.left_eq_add, Nat.add_eq_left, Nat.reduceEqDiff, if_true, if_false, ite_true, ite_false, false_and, and_false, false_or, or_false, reduceIte, reduceCtorEq, and_self, z_4, z_5, z_7, z_8, z_10, z_16, z_20, z_64, not_false_eq_true, l1, l3, b1, ik0, not_true_eq_false]
    exact K0 h (fun ⟨fs, z, _⟩ => q z) HF_refl
theorem BT_f2 {cs : List Nat} (B : BT h r a cap V) (f : HF cs h h') (hc : r ∉ cs ∧ a ∉ cs) : BT h' r a cap V := by
  obtain ⟨⟨b1, b2, b3, b4, b5⟩, W, n1, n2, n3, n4⟩ := B
  refine ⟨?_, ROW_fr W f hc.1 hc.2, n1, n2, n3, n4⟩
  rw [f.1, f.2.1, f.2.2.1]
  exact ⟨b1, b2, b3, b4, b5⟩
theorem tl_20 {r' : Option Nat} (hr : ∀ i, r' = some i → ∃ u, VL (tx V) V.length none i u) {s : Nat} (hs : s < 2 ^ 30) : tlO V r' = nI s ↔ ∃ q, r' = some q ∧ dg (tx V q) ∧ stN (tx V) q = s := by
  cases r' with
  | none =>
    constructor
    · intro z
      exact absurd z.symm (nm1 (by omega))
    · rintro ⟨q, z, _⟩
      exact absurd z (by simp)
  | some i =>
    obtain ⟨u, hu⟩ := hr i rfl
    have et : tlO V (some i) = if dg (tx V i) then nI (stN (tx V) i) else -1 := rfl
    rw [et]
    by_cases z : dg (tx V i)
    · have hsF : stF (tx V) V.length i = none := by
        rcases VL_kind hu with y | y | y
        · exact y.2.1
        · have := z.2; omega
        · have := z.2; omega
      have sN := (stF_SK hsF).2.2
      rw [if_pos z]
      constructor
      · intro y
        exact ⟨i, rfl, z, (nI_eq (by omega) (by omega)).mp y⟩
      · rintro ⟨q, y, _, y2⟩
        rw [← Option.some.inj y] at y2
        rw [y2]
    · rw [if_neg z]
      constructor
      · intro y
        exact absurd y.symm (nm1 (by omega))
      · rintro ⟨q, y, y2, _⟩
        rw [← Option.some.inj y] at y2
        exact absurd y2 z
theorem c_readPieces (B : BT h r a cap V) {dr l c : Nat} (L : LD h dr) (hr : r < 10 ∧ a < 10) {r' : Option Nat} (hV : ∀ i, r' = some i → ∃ u, VE h V i u) (i0 : pz_I h dr 0 = nI l) (i1 : pz_I h dr 1 = nI c) (hl : 1 ≤ l ∧ l ≤ 4096) (hc : 32 ≤ c ∧ c ≤ 1024) {l6 : List Int8} (W6 : ROW h (dr + 6) (dr + 7) 1280 l6)
    (K1 : ∀ h' q, r' = some q → nPc l c ≤ 64 → dg (tx V q) → stN (tx V) q = 20 * nPc l c → HF [dr, dr + 6, dr + 7] h h' → pz_I h' dr = upd (pz_I h dr) 2 (nI (nPc l c)) → ROW h' (dr + 6) (dr + 7) 1280 (ofF (fun j => V.getD (stE (tx V) q + 1 + j) 0) (20 * nPc l c)) → Q (some (.int 1)) h')
    (K0 : ∀ h', ¬ (∃ q, r' = some q ∧ nPc l c ≤ 64 ∧ dg (tx V q) ∧ stN (tx V) q = 20 * nPc l c) → HF [dr] h h' → Q (some (.int 0)) h') : pz_M (d + 4) mX4_readPieces [.ref 10, .ref r, .int (kyOf r')] h Q := by
  have B' := B
  have L' := L
  obtain ⟨⟨b1, b2, b3, b4, b5⟩, W, n1, n2, n3, n4⟩ := B
  obtain ⟨⟨l1, l2, l3, l4⟩, ⟨t1, _, _, _, t7, t8⟩, hd⟩ := L
  have W1 := W.1
  have w6 := W.2.2.2.2.2.1
  have w8 := W.2.2.2.2.2.2.2.1
  have np : nPc l c ≤ 4096 := by
    unfold nPc
    have : (l + c - 1) / c ≤ (l + c - 1) / 32 := Nat.div_le_div_left hc.1 (by decide)
    omega
  have cp : ∀ {Q : Option Value → PzH → Prop}, pz_M (d + 3) mX9_countParts [.int (nI l), .int (nI c)] h Q ↔ Q (some (.int (nI (nPc l c)))) h := fun {Q} => c_countParts (by omega) (by omega) (by omega)
  have F1 : HF [dr] h (pz_sI h dr 2 (nI (nPc l c))) := HF_sI (by simp)
  have B1 := BT_f2 B' F1 ⟨by simp; omega, by simp; omega⟩
  have hV1 : ∀ i, r' = some i → ∃ u, VE (pz_sI h dr 2 (nI (nPc l c))) V i u := fun i z => by
    obtain ⟨u, hu⟩ := hV i z
    exact ⟨u, VE_dr hd (HF_up F1 (by simp [drC])) hu⟩
  have e20 : (20 : Int32) * nI (nPc l c) = nI (20 * nPc l c) := pk_mul 20 _
  have tl : ∀ {Q : Option Value → PzH → Prop}, pz_M (d + 3) mX1_textLength [.ref 11, .int (kyOf r')] (pz_sI h dr 2 (nI (nPc l c))) Q ↔ Q (some (.int (tlO V r'))) (pz_sI h dr 2 (nI (nPc l c))) := fun {Q} => c_textLength B1 (fun i z => by obtain ⟨u, hu⟩ := hV1 i z; exact ⟨u, VE_VL hu⟩)
  have t20 := tl_20 (V := V) (r' := r') (fun i z => by obtain ⟨u, hu⟩ := hV1 i z; exact ⟨u, VE_VL hu⟩) (s := 20 * nPc l c) (by omega)
  simp only [enX4_readPieces, uX4_readPieces_0, uX4_readPieces_0o, uX4_readPieces_0f, uX4_readPieces_1, uX4_readPieces_4, uX4_readPieces_4o, uX4_readPieces_4f, uX4_readPieces_5, uX4_readPieces_8, uX4_readPieces_11, uX4_readPieces_11o, uX4_readPieces_11f, uX4_readPieces_12, uX4_readPieces_15, uX4_readPieces_18, uX4_readPieces_21, uX4_readPieces_24, uX4_readPieces_26, uX4_readPieces_26o, uX4_readPieces_26f, uX4_readPieces_27, uX4_readPieces_30, uX4_readPieces_33, uX4_readPieces_34, uX4_readPieces_35, uX4_readPieces_35o, uX4_readPieces_35f, uX4_readPieces_36, uX4_readPieces_39, uX4_readPieces_42, uX4_readPieces_44, uX4_readPieces_47, uX4_readPieces_47o, uX4_readPieces_47f, uX4_readPieces_48, uX4_readPieces_51, uX4_readPieces_52, uX4_readPieces_55, uX4_readPieces_56, uX4_readPieces_59, uX4_readPieces_60, uX4_readPieces_61, uX4_readPieces_61o, uX4_readPieces_61f, uX4_readPieces_62, uX4_readPieces_65, uX4_readPieces_68, uX4_readPieces_69, uX4_readPieces_72, uX4_readPieces_72o, uX4_readPieces_72f, uX4_readPieces_73, uX4_readPieces_76, uX4_readPieces_79, uX4_readPieces_79o, uX4_readPieces_79f, uX4_readPieces_80, uX4_readPieces_80o, uX4_readPieces_80f, uX4_readPieces_81, uX4_readPieces_84, uX4_readPieces_85, uX4_readPieces_88, uX4_readPieces_89, uX4_readPieces_90, uX4_readPieces_91, uX4_readPieces_94, uX4_readPieces_95, pq_C_sI, pq_C_sJ, pq_C_sR, pq_C_sA, pq_L_sI, pq_L_sJ, pq_L_sR, pq_L_sA, pq_I_sI, pq_I_sJ, pq_I_sR, pq_I_sA, pq_J_sI, pq_J_sJ, pq_J_sR, pq_J_sA, pq_R_sI, pq_R_sJ, pq_R_sR, pq_R_sA, pq_N_sI, pq_N_sJ, pq_N_sR, pq_N_sA, pq_S_sI, pq_S_sJ, pq_S_sR, pq_S_sA, pz_rf_s, pz_cut_i, pz_cut_r, pz_cut_n, pz_cut_f, pz_cut_u, pz_cut_o, true_and, and_true, true_or, or_true, Option.toList_some, Option.toList_none, List.cons_append, List.nil_append, Nat.add_left_cancel_iff, Nat.left_eq_add, Nat.add_eq_left, Nat.reduceEqDiff, if_true, if_false, ite_true, ite_false, false_and, and_false, false_or, or_false, reduceIte, reduceCtorEq, and_self, z_4, z_5, z_7, z_8, z_10, z_16, z_20, z_64, not_false_eq_true, l1, l3, l4, t1, i0, i1, cp, b1, e20, tl]
  by_cases q1 : nPc l c ≤ 64
  · rw [if_neg (show ¬ (64 : Int32) < nI (nPc l c) from nI_nlt (a := 64) q1 (by decide))]
    by_cases q2 : tlO V r' = nI (20 * nPc l c)
    · rw [if_pos q2]
      obtain ⟨q, rfl, hdq, hN⟩ := t20.mp q2
      obtain ⟨u, hu⟩ := hV1 q rfl
      have hs : stF (tx V) V.length q = none := by
        rcases VL_kind (VE_VL hu) with y | y | y
        · exact y.2.1
        · have := hdq.2; omega
        · have := hdq.2; omega
      have sg := stEnd_gt hs
      have eu : u = stEnd (tx V) q := VL_det (VE_VL hu) (VL_str hs)
      subst eu
      have W6' := ROW_fr W6 F1 (by simp) (by simp)
      have L1 := LD_fr L' F1
      have t8o := t8
      have iv : pz_I (pz_sI h dr 2 (nI (nPc l c))) dr = upd (pz_I h dr) 2 (nI (nPc l c)) := by rw [pq_sI_A, pq_I_sA, if_pos rfl]
      generalize pz_sI h dr 2 (nI (nPc l c)) = h1 at F1 B1 hV1 hu W6' L1 iv
      obtain ⟨⟨l1, l2, l3, l4⟩, ⟨t1, _, _, _, t7, t8⟩, _⟩ := L1
      have Y1 := W6'.1
      simp only [enX4_readPieces, uX4_readPieces_0, uX4_readPieces_0o, uX4_readPieces_0f, uX4_readPieces_1, uX4_readPieces_4, uX4_readPieces_4o, uX4_readPieces_4f, uX4_readPieces_5, uX4_readPieces_8, uX4_readPieces_11, uX4_readPieces_11o, uX4_readPieces_11f, uX4_readPieces_12, uX4_readPieces_15, uX4_readPieces_18, uX4_readPieces_21, uX4_readPieces_24, uX4_readPieces_26, uX4_readPieces_26o, uX4_readPieces_26f, uX4_readPieces_27, uX4_readPieces_30, uX4_readPieces_33, uX4_readPieces_34, uX4_readPieces_35, uX4_readPieces_35o, uX4_readPieces_35f, uX4_readPieces_36, uX4_readPieces_39, uX4_readPieces_42, uX4_readPieces_44, uX4_readPieces_47, uX4_readPieces_47o, uX4_readPieces_47f, uX4_readPieces_48, uX4_readPieces_51, uX4_readPieces_52, uX4_readPieces_55, uX4_readPieces_56, uX4_readPieces_59, uX4_readPieces_60, uX4_readPieces_61, uX4_readPieces_61o, uX4_readPieces_61f, uX4_readPieces_62, uX4_readPieces_65, uX4_readPieces_68, uX4_readPieces_69, uX4_readPieces_72, uX4_readPieces_72o, uX4_readPieces_72f, uX4_readPieces_73, uX4_readPieces_76, uX4_readPieces_79, uX4_readPieces_79o, uX4_readPieces_79f, uX4_readPieces_80, uX4_readPieces_80o, uX4_readPieces_80f, uX4_readPieces_81, uX4_readPieces_84, uX4_readPieces_85, uX4_readPieces_88, uX4_readPieces_89, uX4_readPieces_90, uX4_readPieces_91, uX4_readPieces_94, uX4_readPieces_95, pq_C_sI, pq_C_sJ, pq_C_sR, pq_C_sA, pq_L_sI, pq_L_sJ, pq_L_sR, pq_L_sA, pq_I_sI, pq_I_sJ, pq_I_sR, pq_I_sA, pq_J_sI, pq_J_sJ, pq_J_sR, pq_J_sA, pq_R_sI, pq_R_sJ, pq_R_sR, pq_R_sA, pq_N_sI, pq_N_sJ, pq_N_sR, pq_N_sA, pq_S_sI, pq_S_sJ, pq_S_sR, pq_S_sA, pz_rf_s, pz_cut_i, pz_cut_r, pz_cut_n, pz_cut_f, pz_cut_u, pz_cut_o, true_and, and_true, true_or, or_true, Option.toList_some, Option.toList_none, List.cons_append, List.nil_append, Nat.add_left_cancel_iff, Nat.left_eq_add, Nat.add_eq_left, Nat.reduceEqDiff, if_true, if_false, ite_true, ite_false, false_and, and_false, false_or, or_false, reduceIte, reduceCtorEq, and_self, z_4, z_5, z_7, z_8, z_10, z_16, z_20, z_64, not_false_eq_true, t8o, Y1]
      refine c_cut0 W6' (fun h2 F2 X2 => ?_)
      have F12 : HF [dr, dr + 6, dr + 7] h h2 := HF_trans (HF_up F1 (by simp)) (HF_up F2 (by simp))
      have B2 := BT_f2 B' F12 ⟨by simp; omega, by simp; omega⟩
      have hE : pz_I h2 14 q = nI (stEnd (tx V) q) := by
        rw [F2.2.2.2.2.2.2.2.1 14 (by simp; omega)]
        exact VE_E hu
      have eo : ∀ {Q : Option Value → PzH → Prop}, pz_M (d + 3) mX1_endOf [.ref 11, .int (kyOf (some q))] h2 Q ↔ Q (some (.int (nI (stEnd (tx V) q)))) h2 := fun {Q} => by
        have := c_endOf (d := d + 2) (Q := Q) B2 (p := q) (by omega)
        rw [hE] at this
        exact this
      have e1 : nI (stEnd (tx V) q) - nI (20 * nPc l c) = nI (stE (tx V) q + 1) := by
        rw [← hN, pk_sub (show stN (tx V) q ≤ stEnd (tx V) q by show _ ≤ stE (tx V) q + 1 + stN (tx V) q; omega)]
        congr 1
        show stE (tx V) q + 1 + stN (tx V) q - stN (tx V) q = _
        omega
      have g2 : stE (tx V) q + 1 + 20 * nPc l c ≤ V.length := by rw [← hN]; exact sg.2
      have c2 : pz_C h2 10 = 4 ∧ pz_R h2 10 1 = some 11 ∧ pz_R h2 10 2 = some dr ∧ pz_C h2 dr = 8 ∧ pz_R h2 dr 8 = some (dr + 6) := by rw [F2.1, F2.2.2.1]; exact ⟨l1, l3, l4, t1, t8⟩
      have b12 := B2.1.1
      have Y2 := X2.1
      have Y3 := B2.2.1.1
      simp only [enX4_readPieces, uX4_readPieces_0, uX4_readPieces_0o, uX4_readPieces_0f, uX4_readPieces_1, uX4_readPieces_4, uX4_readPieces_4o, uX4_readPieces_4f, uX4_readPieces_5, uX4_readPieces_8, uX4_readPieces_11, uX4_readPieces_11o, uX4_readPieces_11f, uX4_readPieces_12, uX4_readPieces_15, uX4_readPieces_18, uX4_readPieces_21, uX4_readPieces_24, uX4_readPieces_26, uX4_readPieces_26o, uX4_readPieces_26f, uX4_readPieces_27, uX4_readPieces_30, uX4_readPieces_33, uX4_readPieces_34, uX4_readPieces_35, uX4_readPieces_35o, uX4_readPieces_35f, uX4_readPieces_36, uX4_readPieces_39, uX4_readPieces_42, uX4_readPieces_44, uX4_readPieces_47, uX4_readPieces_47o, uX4_readPieces_47f, uX4_readPieces_48, uX4_readPieces_51, uX4_readPieces_52, uX4_readPieces_55, uX4_readPieces_56, uX4_readPieces_59, uX4_readPieces_60, uX4_readPieces_61, uX4_readPieces_61o, uX4_readPieces_61f, uX4_readPieces_62, uX4_readPieces_65, uX4_readPieces_68, uX4_readPieces_69, uX4_readPieces_72, uX4_readPieces_72o, uX4_readPieces_72f, uX4_readPieces_73, uX4_readPieces_76, uX4_readPieces_79, uX4_readPieces_79o, uX4_readPieces_79f, uX4_readPieces_80, uX4_readPieces_80o, uX4_readPieces_80f, uX4_readPieces_81, uX4_readPieces_84, uX4_readPieces_85, uX4_readPieces_88, uX4_readPieces_89, uX4_readPieces_90, uX4_readPieces_91, uX4_readPieces_94, uX4_readPieces_95, pq_C_sI, pq_C_sJ, pq_C_sR, pq_C_sA, pq_L_sI, pq_L_sJ, pq_L_sR, pq_L_sA, pq_I_sI, pq_I_sJ, pq_I_sR, pq_I_sA, pq_J_sI, pq_J_sJ, pq_J_sR, pq_J_sA, pq_R_sI, pq_R_sJ, pq_R_sR, pq_R_sA, pq_N_sI, pq_N_sJ, pq_N_sR, pq_N_sA, pq_S_sI, pq_S_sJ, pq_S_sR, pq_S_sA, pz_rf_s, pz_cut_i, pz_cut_r, pz_cut_n, pz_cut_f, pz_cut_u, pz_cut_o, true_and, and_true, true_or, or_true, Option.toList_some, Option.toList_none, List.cons_append, List.nil_append, Nat.add_left_cancel_iff, Nat.left_eq_add, Nat.add_eq_left, Nat.reduceEqDiff, if_true, if_false, ite_true, ite_false, false_and, and_false, false_or, or_false, reduceIte, reduceCtorEq, and_self, z_4, z_5, z_7, z_8, z_10, z_16, z_20, z_64, not_false_eq_true, c2, b12, eo, e1, Y2, Y3]
      refine c_addPart X2 B2.2.1 ⟨by omega, by omega⟩ g2 (by simp; omega) (fun h3 F3 X3 => ?_)
      simp only [enX4_readPieces, uX4_readPieces_0, uX4_readPieces_0o, uX4_readPieces_0f, uX4_readPieces_1, uX4_readPieces_4, uX4_readPieces_4o, uX4_readPieces_4f, uX4_readPieces_5, uX4_readPieces_8, uX4_readPieces_11, uX4_readPieces_11o, uX4_readPieces_11f, uX4_readPieces_12, uX4_readPieces_15, uX4_readPieces_18, uX4_readPieces_21, uX4_readPieces_24, uX4_readPieces_26, uX4_readPieces_26o, uX4_readPieces_26f, uX4_readPieces_27, uX4_readPieces_30, uX4_readPieces_33, uX4_readPieces_34, uX4_readPieces_35, uX4_readPieces_35o, uX4_readPieces_35f, uX4_readPieces_36, uX4_readPieces_39, uX4_readPieces_42, uX4_readPieces_44, uX4_readPieces_47, uX4_readPieces_47o, uX4_readPieces_47f, uX4_readPieces_48, uX4_readPieces_51, uX4_readPieces_52, uX4_readPieces_55, uX4_readPieces_56, uX4_readPieces_59, uX4_readPieces_60, uX4_readPieces_61, uX4_readPieces_61o, uX4_readPieces_61f, uX4_readPieces_62, uX4_readPieces_65, uX4_readPieces_68, uX4_readPieces_69, uX4_readPieces_72, uX4_readPieces_72o, uX4_readPieces_72f, uX4_readPieces_73, uX4_readPieces_76, uX4_readPieces_79, uX4_readPieces_79o, uX4_readPieces_79f, uX4_readPieces_80, uX4_readPieces_80o, uX4_readPieces_80f, uX4_readPieces_81, uX4_readPieces_84, uX4_readPieces_85, uX4_readPieces_88, uX4_readPieces_89, uX4_readPieces_90, uX4_readPieces_91, uX4_readPieces_94, uX4_readPieces_95, pq_C_sI, pq_C_sJ, pq_C_sR, pq_C_sA, pq_L_sI, pq_L_sJ, pq_L_sR, pq_L_sA, pq_I_sI, pq_I_sJ, pq_I_sR, pq_I_sA, pq_J_sI, pq_J_sJ, pq_J_sR, pq_J_sA, pq_R_sI, pq_R_sJ, pq_R_sR, pq_R_sA, pq_N_sI, pq_N_sJ, pq_N_sR, pq_N_sA, pq_S_sI, pq_S_sJ, pq_S_sR, pq_S_sA, pz_rf_s, pz_cut_i, pz_cut_r, pz_cut_n, pz_cut_f, pz_cut_u, pz_cut_o, true_and, and_true, true_or, or_true, Option.toList_some, Option.toList_none, List.cons_append, List.nil_append, Nat.add_left_cancel_iff, Nat.left_eq_add, Nat.add_eq_left, Nat.reduceEqDiff, if_true, if_false, ite_true, ite_false, false_and, and_false, false_or, or_false, reduceIte, reduceCtorEq, and_self, z_4, z_5, z_7, z_8, z_10, z_16, z_20, z_64, not_false_eq_true]
      rw [List.nil_append] at X3
      refine K1 h3 q rfl q1 hdq hN (HF_trans F12 (HF_up F3 (by simp))) ?_ X3
      rw [F3.2.2.2.2.2.2.2.1 dr (by simp), F2.2.2.2.2.2.2.2.1 dr (by simp)]
      exact iv
    · rw [if_neg q2]
      exact K0 _ (fun ⟨q, z1, z2, z3, z4⟩ => q2 (t20.mpr ⟨q, z1, z3, z4⟩)) F1
  · rw [if_pos (show (64 : Int32) < nI (nPc l c) from nI_lt (a := 64) (by omega) (by omega))]
    exact K0 _ (fun ⟨q, z1, z2, z3, z4⟩ => q1 z2) F1
end
