/-! ===== the class: what METAINFO tells ===== -/
section
variable {d : Nat} {h : PzH} {Q : Option Value → PzH → Prop} {A : St} {l c p t : Nat}
theorem c_countParts {x y : Nat} (hx : x < 2 ^ 30) (hy : y < 2 ^ 30) (hy0 : 0 < y) : pz_M (d + 1) mX9_countParts [.int (nI x), .int (nI y)] h Q ↔ Q (some (.int (nI ((x + y - 1) / y)))) h := by
  have e : ¬ nI y = 0 := nI_ne0 hy0 (by omega)
  simp only [enX9_countParts, uX9_countParts_0, uX9_countParts_1, uX9_countParts_8, uX9_countParts_9, uX9_countParts_10, uX9_countParts_11, uX9_countParts_12, uX9_countParts_13, uX9_countParts_14 e, uX9_countParts_15, pq_C_sI, pq_C_sJ, pq_C_sR, pq_C_sA, pq_L_sI, pq_L_sJ, pq_L_sR, pq_L_sA, pq_I_sI, pq_I_sJ, pq_I_sR, pq_I_sA, pq_J_sI, pq_J_sJ, pq_J_sR, pq_J_sA, pq_R_sI, pq_R_sJ, pq_R_sR, pq_R_sA, pq_N_sI, pq_N_sJ, pq_N_sR, pq_N_sA, pq_S_sI, pq_S_sJ, pq_S_sR, pq_S_sA, pz_rf_s, pz_cut_i, pz_cut_r, pz_cut_n, pz_cut_f, pz_cut_u, pz_cut_o, true_and, and_true, true_or, or_true, Option.toList_some, Option.toList_none, List.cons_append, List.nil_append, Nat.add_left_cancel_iff, Nat.left_eq_add, Nat.add_eq_left, Nat.reduceEqDiff, if_true, if_false, ite_true, ite_false, false_and, and_false, false_or, or_false, reduceIte, reduceCtorEq, and_self]
  rw [if_pos (show (0 : Int32) < nI y from nI_lt (a := 0) hy0 (by omega)), nI_add, show x + y = (x + y - 1) + 1 by omega, nI_pred, pk_div (by omega) hy0 (by omega)]
  rfl
theorem c_isWithin {x a b : Int32} : pz_M (d + 1) mX9_isWithin [.int x, .int a, .int b] h Q ↔ Q (some (.int (if a ≤ x ∧ x ≤ b then 1 else 0))) h := by
  simp only [enX9_isWithin, uX9_isWithin_0, uX9_isWithin_1, uX9_isWithin_2, uX9_isWithin_5, uX9_isWithin_6, uX9_isWithin_7, uX9_isWithin_10, uX9_isWithin_11, uX9_isWithin_14, uX9_isWithin_15, pq_C_sI, pq_C_sJ, pq_C_sR, pq_C_sA, pq_L_sI, pq_L_sJ, pq_L_sR, pq_L_sA, pq_I_sI, pq_I_sJ, pq_I_sR, pq_I_sA, pq_J_sI, pq_J_sJ, pq_J_sR, pq_J_sA, pq_R_sI, pq_R_sJ, pq_R_sR, pq_R_sA, pq_N_sI, pq_N_sJ, pq_N_sR, pq_N_sA, pq_S_sI, pq_S_sJ, pq_S_sR, pq_S_sA, pz_rf_s, pz_cut_i, pz_cut_r, pz_cut_n, pz_cut_f, pz_cut_u, pz_cut_o, true_and, and_true, true_or, or_true, Option.toList_some, Option.toList_none, List.cons_append, List.nil_append, Nat.add_left_cancel_iff, Nat.left_eq_add, Nat.add_eq_left, Nat.reduceEqDiff, if_true, if_false, ite_true, ite_false, false_and, and_false, false_or, or_false, reduceIte, reduceCtorEq, and_self, z_4, z_5, z_7, z_8, z_10, z_16, z_20, z_64, not_false_eq_true]
  by_cases h1 : x < a
  · rw [if_pos h1, if_neg (fun z => absurd z.1 (i32_nle.mpr h1))]
  · rw [if_neg h1]
    by_cases h2 : b < x
    · rw [if_pos h2, if_neg (fun z => absurd z.2 (i32_nle.mpr h2))]
    · rw [if_neg h2, if_pos ⟨i32_nlt.mp h1, i32_nlt.mp h2⟩]
variable (hC : pz_C h t = 8) (T : TR h A t) (N : TN A l c p)
theorem c_isSet (hC : pz_C h t = 8) (T : TR h A t) (N : TN A l c p) : pz_M (d + 1) mX8_isSet [.ref t] h Q ↔ Q (some (.int (if p = 0 then 0 else 1))) h := by
  have e := T.2.2.1.trans N.2.2.1
  have t6 := N.2.2.2.2.2.1
  simp only [enX8_isSet, uX8_isSet_0, uX8_isSet_0o, uX8_isSet_0f, uX8_isSet_1, uX8_isSet_4, uX8_isSet_7, uX8_isSet_8, uX8_isSet_11, uX8_isSet_12, pq_C_sI, pq_C_sJ, pq_C_sR, pq_C_sA, pq_L_sI, pq_L_sJ, pq_L_sR, pq_L_sA, pq_I_sI, pq_I_sJ, pq_I_sR, pq_I_sA, pq_J_sI, pq_J_sJ, pq_J_sR, pq_J_sA, pq_R_sI, pq_R_sJ, pq_R_sR, pq_R_sA, pq_N_sI, pq_N_sJ, pq_N_sR, pq_N_sA, pq_S_sI, pq_S_sJ, pq_S_sR, pq_S_sA, pz_rf_s, pz_cut_i, pz_cut_r, pz_cut_n, pz_cut_f, pz_cut_u, pz_cut_o, true_and, and_true, true_or, or_true, Option.toList_some, Option.toList_none, List.cons_append, List.nil_append, Nat.add_left_cancel_iff, Nat.left_eq_add, Nat.add_eq_left, Nat.reduceEqDiff, if_true, if_false, ite_true, ite_false, false_and, and_false, false_or, or_false, reduceIte, reduceCtorEq, and_self, z_4, z_5, z_7, z_8, z_10, z_16, z_20, z_64, not_false_eq_true, hC, e]
  by_cases z : p = 0
  · rw [if_pos z, if_pos (by rw [z]; decide)]
  · rw [if_neg z, if_neg (nI_nle (by omega) (by omega))]
theorem c_isPiece {x : Nat} (hC : pz_C h t = 8) (T : TR h A t) (N : TN A l c p) (hx : x < 2 ^ 63) : pz_M (d + 1) mX8_isPiece [.ref t, .long (lN x)] h Q ↔ Q (some (.int (if x < p then 1 else 0))) h := by
  have e := T.2.2.1.trans N.2.2.1
  have t6 := N.2.2.2.2.2.1
  simp only [enX8_isPiece, uX8_isPiece_0, uX8_isPiece_1, uX8_isPiece_2, uX8_isPiece_3, uX8_isPiece_6, uX8_isPiece_7, uX8_isPiece_7o, uX8_isPiece_7f, uX8_isPiece_8, uX8_isPiece_11, uX8_isPiece_12, uX8_isPiece_13, uX8_isPiece_16, uX8_isPiece_17, uX8_isPiece_20, uX8_isPiece_21, uX8_isPiece_24, uX8_isPiece_25, uX8_isPiece_28, uX8_isPiece_29, pq_C_sI, pq_C_sJ, pq_C_sR, pq_C_sA, pq_L_sI, pq_L_sJ, pq_L_sR, pq_L_sA, pq_I_sI, pq_I_sJ, pq_I_sR, pq_I_sA, pq_J_sI, pq_J_sJ, pq_J_sR, pq_J_sA, pq_R_sI, pq_R_sJ, pq_R_sR, pq_R_sA, pq_N_sI, pq_N_sJ, pq_N_sR, pq_N_sA, pq_S_sI, pq_S_sJ, pq_S_sR, pq_S_sA, pz_rf_s, pz_cut_i, pz_cut_r, pz_cut_n, pz_cut_f, pz_cut_u, pz_cut_o, true_and, and_true, true_or, or_true, Option.toList_some, Option.toList_none, List.cons_append, List.nil_append, Nat.add_left_cancel_iff, Nat.left_eq_add, Nat.add_eq_left, Nat.reduceEqDiff, if_true, if_false, ite_true, ite_false, false_and, and_false, false_or, or_false, reduceIte, reduceCtorEq, and_self, z_4, z_5, z_7, z_8, z_10, z_16, z_20, z_64, not_false_eq_true, hC, e, lg_cmp_lt, lg_cmp_ge, nI_l (show p < 2 ^ 31 by omega), show (0 : Int64) = lN 0 from rfl, show (64 : Int64) = lN 64 from rfl]
  rw [if_neg (fun z => absurd ((pk_lLT hx (by decide)).mp z) (by omega))]
  by_cases q : x < p
  · rw [if_neg (fun z => absurd ((pk_lLE (by omega) hx).mp z) (by omega)), if_neg (fun z => absurd ((pk_lLE (by decide) hx).mp z) (by omega)), if_pos q]
  · rw [if_pos ((pk_lLE (by omega) hx).mpr (by omega)), if_neg q]
theorem c_isPieceI {v : Int32} (hC : pz_C h t = 8) (T : TR h A t) (N : TN A l c p) : pz_M (d + 1) mX8_isPiece [.ref t, .long v.toInt64] h Q ↔ Q (some (.int (if (vI v p).isSome then 1 else 0))) h := by
  have t6 := N.2.2.2.2.2.1
  by_cases v0 : v < 0
  · have e := T.2.2.1.trans N.2.2.1
    simp only [enX8_isPiece, uX8_isPiece_0, uX8_isPiece_1, uX8_isPiece_2, uX8_isPiece_3, uX8_isPiece_6, uX8_isPiece_7, uX8_isPiece_7o, uX8_isPiece_7f, uX8_isPiece_8, uX8_isPiece_11, uX8_isPiece_12, uX8_isPiece_13, uX8_isPiece_16, uX8_isPiece_17, uX8_isPiece_20, uX8_isPiece_21, uX8_isPiece_24, uX8_isPiece_25, uX8_isPiece_28, uX8_isPiece_29, pq_C_sI, pq_C_sJ, pq_C_sR, pq_C_sA, pq_L_sI, pq_L_sJ, pq_L_sR, pq_L_sA, pq_I_sI, pq_I_sJ, pq_I_sR, pq_I_sA, pq_J_sI, pq_J_sJ, pq_J_sR, pq_J_sA, pq_R_sI, pq_R_sJ, pq_R_sR, pq_R_sA, pq_N_sI, pq_N_sJ, pq_N_sR, pq_N_sA, pq_S_sI, pq_S_sJ, pq_S_sR, pq_S_sA, pz_rf_s, pz_cut_i, pz_cut_r, pz_cut_n, pz_cut_f, pz_cut_u, pz_cut_o, true_and, and_true, true_or, or_true, Option.toList_some, Option.toList_none, List.cons_append, List.nil_append, Nat.add_left_cancel_iff, Nat.left_eq_add, Nat.add_eq_left, Nat.reduceEqDiff, if_true, if_false, ite_true, ite_false, false_and, and_false, false_or, or_false, reduceIte, reduceCtorEq, and_self, z_4, z_5, z_7, z_8, z_10, z_16, z_20, z_64, not_false_eq_true, hC, e, lg_cmp_lt, lg_cmp_ge]
    have z : v.toInt64 < 0 := by
      rw [Int64.lt_iff_toInt_lt, Int32.toInt_toInt64]
      have := Int32.lt_iff_toInt_lt.mp v0
      have e0 : (0 : Int32).toInt = 0 := by decide
      have e1 : (0 : Int64).toInt = 0 := by decide
      omega
    rw [if_pos z]
    unfold vI
    rw [if_pos v0]
    rfl
  · obtain ⟨j, hj, rfl⟩ := nI_of v0
    rw [nI_l hj, c_isPiece hC T N (by omega)]
    by_cases q : j < p
    · rw [if_pos q, vI_of (by omega) q]
      rfl
    · rw [if_neg q]
      unfold vI
      rw [if_neg v0, if_neg (nI_nlt (by omega) hj)]
      rfl
theorem c_pieceBegin {i : Nat} (hC : pz_C h t = 8) (T : TR h A t) (N : TN A l c p) : pz_M (d + 1) mX8_pieceBegin [.ref t, .int (nI i)] h Q ↔ Q (some (.int (nI (i * c)))) h := by
  have e := T.2.1.trans N.2.1
  simp only [enX8_pieceBegin, uX8_pieceBegin_0, uX8_pieceBegin_1, uX8_pieceBegin_1o, uX8_pieceBegin_1f, uX8_pieceBegin_2, uX8_pieceBegin_5, uX8_pieceBegin_6, pq_C_sI, pq_C_sJ, pq_C_sR, pq_C_sA, pq_L_sI, pq_L_sJ, pq_L_sR, pq_L_sA, pq_I_sI, pq_I_sJ, pq_I_sR, pq_I_sA, pq_J_sI, pq_J_sJ, pq_J_sR, pq_J_sA, pq_R_sI, pq_R_sJ, pq_R_sR, pq_R_sA, pq_N_sI, pq_N_sJ, pq_N_sR, pq_N_sA, pq_S_sI, pq_S_sJ, pq_S_sR, pq_S_sA, pz_rf_s, pz_cut_i, pz_cut_r, pz_cut_n, pz_cut_f, pz_cut_u, pz_cut_o, true_and, and_true, true_or, or_true, Option.toList_some, Option.toList_none, List.cons_append, List.nil_append, Nat.add_left_cancel_iff, Nat.left_eq_add, Nat.add_eq_left, Nat.reduceEqDiff, if_true, if_false, ite_true, ite_false, false_and, and_false, false_or, or_false, reduceIte, reduceCtorEq, and_self, z_4, z_5, z_7, z_8, z_10, z_16, z_20, z_64, not_false_eq_true, hC, e, pk_mul]
theorem c_pieceSize {i : Nat} (hC : pz_C h t = 8) (T : TR h A t) (N : TN A l c p) (hi : i < p) : pz_M (d + 2) mX8_pieceSize [.ref t, .int (nI i)] h Q ↔ Q (some (.int (nI (psz l c p i)))) h := by
  have e := T.2.1.trans N.2.1
  have e0 := T.1.trans N.1
  obtain ⟨u1, u2, u3, u4⟩ := TN_i N hi
  obtain ⟨_, _, _, t4, t5, t6, t7⟩ := N
  have N := (⟨‹_›, ‹_›, ‹_›, t4, t5, t6, t7⟩ : TN A l c p)
  obtain ⟨v1, v2, v3⟩ := t7 (by omega)
  simp only [enX8_pieceSize, uX8_pieceSize_0, uX8_pieceSize_0o, uX8_pieceSize_0f, uX8_pieceSize_1, uX8_pieceSize_4, uX8_pieceSize_4o, uX8_pieceSize_4f, uX8_pieceSize_5, uX8_pieceSize_8, uX8_pieceSize_8o, uX8_pieceSize_8f, uX8_pieceSize_9, uX8_pieceSize_10, uX8_pieceSize_13, uX8_pieceSize_14, uX8_pieceSize_17, pq_C_sI, pq_C_sJ, pq_C_sR, pq_C_sA, pq_L_sI, pq_L_sJ, pq_L_sR, pq_L_sA, pq_I_sI, pq_I_sJ, pq_I_sR, pq_I_sA, pq_J_sI, pq_J_sJ, pq_J_sR, pq_J_sA, pq_R_sI, pq_R_sJ, pq_R_sR, pq_R_sA, pq_N_sI, pq_N_sJ, pq_N_sR, pq_N_sA, pq_S_sI, pq_S_sJ, pq_S_sR, pq_S_sA, pz_rf_s, pz_cut_i, pz_cut_r, pz_cut_n, pz_cut_f, pz_cut_u, pz_cut_o, true_and, and_true, true_or, or_true, Option.toList_some, Option.toList_none, List.cons_append, List.nil_append, Nat.add_left_cancel_iff, Nat.left_eq_add, Nat.add_eq_left, Nat.reduceEqDiff, if_true, if_false, ite_true, ite_false, false_and, and_false, false_or, or_false, reduceIte, reduceCtorEq, and_self, z_4, z_5, z_7, z_8, z_10, z_16, z_20, z_64, not_false_eq_true, hC, e, e0, c_pieceBegin hC T N]
  rw [pk_sub (by omega)]
  have : pz_min (nI c) (nI (l - i * c)) = nI (psz l c p i) := by
    unfold pz_min psz
    by_cases q : i + 1 < p
    · have m2 : (i + 1) * c ≤ (p - 1) * c := Nat.mul_le_mul_right c (by omega)
      rw [Nat.add_mul, Nat.one_mul] at m2
      rw [if_neg (nI_nlt (by omega) (by omega)), if_pos q]
    · rw [if_neg q]
      have e : i + 1 = p := by omega
      have m3 : p * c = i * c + c := by rw [← e, Nat.add_mul, Nat.one_mul]
      by_cases q2 : l - i * c < c
      · rw [if_pos (nI_lt q2 (by omega))]
      · rw [if_neg (nI_nlt (by omega) (by omega)), show l - i * c = c by omega]
  rw [this]
theorem c_blockSize {i k : Nat} (hC : pz_C h t = 8) (T : TR h A t) (N : TN A l c p) (hi : i < p) (hk : 64 * k ≤ psz l c p i) : pz_M (d + 3) mX8_blockSize [.ref t, .int (nI i), .int (nI k)] h Q ↔ Q (some (.int (nI (bsz l c p i k)))) h := by
  obtain ⟨u1, u2, u3, u4⟩ := TN_i N hi
  have t5 := N.2.2.2.2.1
  simp only [enX8_blockSize, uX8_blockSize_0, uX8_blockSize_2, uX8_blockSize_2o, uX8_blockSize_2f, uX8_blockSize_3, uX8_blockSize_4, uX8_blockSize_7, uX8_blockSize_9, uX8_blockSize_10, uX8_blockSize_11, uX8_blockSize_12, uX8_blockSize_15, pq_C_sI, pq_C_sJ, pq_C_sR, pq_C_sA, pq_L_sI, pq_L_sJ, pq_L_sR, pq_L_sA, pq_I_sI, pq_I_sJ, pq_I_sR, pq_I_sA, pq_J_sI, pq_J_sJ, pq_J_sR, pq_J_sA, pq_R_sI, pq_R_sJ, pq_R_sR, pq_R_sA, pq_N_sI, pq_N_sJ, pq_N_sR, pq_N_sA, pq_S_sI, pq_S_sJ, pq_S_sR, pq_S_sA, pz_rf_s, pz_cut_i, pz_cut_r, pz_cut_n, pz_cut_f, pz_cut_u, pz_cut_o, true_and, and_true, true_or, or_true, Option.toList_some, Option.toList_none, List.cons_append, List.nil_append, Nat.add_left_cancel_iff, Nat.left_eq_add, Nat.add_eq_left, Nat.reduceEqDiff, if_true, if_false, ite_true, ite_false, false_and, and_false, false_or, or_false, reduceIte, reduceCtorEq, and_self, z_4, z_5, z_7, z_8, z_10, z_16, z_20, z_64, not_false_eq_true, hC, c_pieceSize hC T N hi]
  simp only [show (64 : Int32) = nI 64 from rfl, pk_mul, pk_sub hk]
  have : pz_min (nI 64) (nI (psz l c p i - 64 * k)) = nI (bsz l c p i k) := by
    unfold pz_min bsz
    by_cases q : psz l c p i - 64 * k < 64
    · rw [if_pos (nI_lt q (by decide)), if_pos q]
    · rw [if_neg (nI_nlt (by omega) (by omega)), if_neg q]
  rw [this]
theorem c_allBlocks {i : Nat} (hC : pz_C h t = 8) (T : TR h A t) (N : TN A l c p) (hi : i < p) : pz_M (d + 3) mX8_allBlocks [.ref t, .int (nI i)] h Q ↔ Q (some (.int (nI (2 ^ nbl l c p i - 1)))) h := by
  obtain ⟨u1, u2, u3, u4⟩ := TN_i N hi
  have t5 := N.2.2.2.2.1
  have hb := (nbl_le N hi).1
  have cp : ∀ {Q : Option Value → PzH → Prop}, pz_M (d + 2) mX9_countParts [.int (nI (psz l c p i)), .int 64] h Q ↔ Q (some (.int (nI (nbl l c p i)))) h := fun {Q} => c_countParts (y := 64) (by omega) (by decide) (by decide)
  simp only [enX8_allBlocks, uX8_allBlocks_0, uX8_allBlocks_1, uX8_allBlocks_1o, uX8_allBlocks_1f, uX8_allBlocks_2, uX8_allBlocks_3, uX8_allBlocks_6, uX8_allBlocks_8, uX8_allBlocks_11, uX8_allBlocks_12, uX8_allBlocks_13, uX8_allBlocks_14, pq_C_sI, pq_C_sJ, pq_C_sR, pq_C_sA, pq_L_sI, pq_L_sJ, pq_L_sR, pq_L_sA, pq_I_sI, pq_I_sJ, pq_I_sR, pq_I_sA, pq_J_sI, pq_J_sJ, pq_J_sR, pq_J_sA, pq_R_sI, pq_R_sJ, pq_R_sR, pq_R_sA, pq_N_sI, pq_N_sJ, pq_N_sR, pq_N_sA, pq_S_sI, pq_S_sJ, pq_S_sR, pq_S_sA, pz_rf_s, pz_cut_i, pz_cut_r, pz_cut_n, pz_cut_f, pz_cut_u, pz_cut_o, true_and, and_true, true_or, or_true, Option.toList_some, Option.toList_none, List.cons_append, List.nil_append, Nat.add_left_cancel_iff, Nat.left_eq_add, Nat.add_eq_left, Nat.reduceEqDiff, if_true, if_false, ite_true, ite_false, false_and, and_false, false_or, or_false, reduceIte, reduceCtorEq, and_self, z_4, z_5, z_7, z_8, z_10, z_16, z_20, z_64, not_false_eq_true, hC, c_pieceSize hC T N hi, cp]
  have p16 : 2 ^ nbl l c p i ≤ 65536 := Nat.pow_le_pow_right (n := 2) (by decide) hb
  have p1 : 1 ≤ 2 ^ nbl l c p i := Nat.one_le_two_pow
  rw [show (1 : Int32) <<< (nI (nbl l c p i) &&& 31) = nI (2 ^ nbl l c p i) by
    have := pk_shlN (n := 1) (nI (nbl l c p i) &&& 31) (nbl l c p i) (s_l _ (by omega)) (by omega)
    rw [Nat.one_mul] at this
    exact this]
  rw [show nI (2 ^ nbl l c p i) - 1 = nI (2 ^ nbl l c p i - 1) from pk_sub (b := 1) p1]
theorem c_bitfieldBytes (hC : pz_C h t = 8) (T : TR h A t) (N : TN A l c p) : pz_M (d + 2) mX8_bitfieldBytes [.ref t] h Q ↔ Q (some (.int (nI ((p + 7) / 8)))) h := by
  have e := T.2.2.1.trans N.2.2.1
  have t6 := N.2.2.2.2.2.1
  have cp : ∀ {Q : Option Value → PzH → Prop}, pz_M (d + 1) mX9_countParts [.int (nI p), .int 8] h Q ↔ Q (some (.int (nI ((p + 8 - 1) / 8)))) h := fun {Q} => c_countParts (y := 8) (by omega) (by decide) (by decide)
  simp only [enX8_bitfieldBytes, uX8_bitfieldBytes_0, uX8_bitfieldBytes_0o, uX8_bitfieldBytes_0f, uX8_bitfieldBytes_1, uX8_bitfieldBytes_4, uX8_bitfieldBytes_6, uX8_bitfieldBytes_9, pq_C_sI, pq_C_sJ, pq_C_sR, pq_C_sA, pq_L_sI, pq_L_sJ, pq_L_sR, pq_L_sA, pq_I_sI, pq_I_sJ, pq_I_sR, pq_I_sA, pq_J_sI, pq_J_sJ, pq_J_sR, pq_J_sA, pq_R_sI, pq_R_sJ, pq_R_sR, pq_R_sA, pq_N_sI, pq_N_sJ, pq_N_sR, pq_N_sA, pq_S_sI, pq_S_sJ, pq_S_sR, pq_S_sA, pz_rf_s, pz_cut_i, pz_cut_r, pz_cut_n, pz_cut_f, pz_cut_u, pz_cut_o, true_and, and_true, true_or, or_true, Option.toList_some, Option.toList_none, List.cons_append, List.nil_append, Nat.add_left_cancel_iff, Nat.left_eq_add, Nat.add_eq_left, Nat.reduceEqDiff, if_true, if_false, ite_true, ite_false, false_and, and_false, false_or, or_false, reduceIte, reduceCtorEq, and_self, z_4, z_5, z_7, z_8, z_10, z_16, z_20, z_64, not_false_eq_true, hC, e, cp]
  rw [show p + 8 - 1 = p + 7 by omega]
end
