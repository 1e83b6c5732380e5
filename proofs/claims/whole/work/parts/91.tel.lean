/-! ===== the class: what METAINFO and the clients tell ===== -/
section
variable {d : Nat} {h h' : PzH} {Q : Option Value → PzH → Prop} {A A' : St} {l c p : Nat}
theorem c_isSetM {t : Nat} (hC : pz_C h t = 8) (T : TR h A t) (N : TN A l c p) (M : sB A 0 16 = 0 ↔ p = 0) : pz_M (d + 1) mX8_isSet [.ref t] h Q ↔ Q (some (.int (if sB A 0 16 = 0 then 0 else 1))) h := by
  rw [c_isSet hC T N]
  by_cases q : p = 0
  · rw [if_pos q, if_pos (M.mpr q)]
  · rw [if_neg q, if_neg (fun z => q (M.mp z))]
theorem sw_0 {k : Int32} {n : Nat} (hn : n < 2 ^ 30) (h : vI k n = none) : k.toInt < 0 ∨ (n : Int) - 1 < k.toInt := by
  unfold vI at h
  by_cases h0 : k < 0
  · left
    have := Int32.lt_iff_toInt_lt.mp h0
    have e0 : (0 : Int32).toInt = 0 := by decide
    omega
  · rw [if_neg h0] at h
    by_cases h1 : k < nI n
    · rw [if_pos h1] at h; exact absurd h (by simp)
    · right
      have := Int32.le_iff_toInt_le.mp (i32_nlt.mp h1)
      rw [nI_toInt (by omega)] at this
      omega
theorem c_torrent (R : RC h A) (N : TN A l c p) (M : sB A 0 16 = 0 ↔ p = 0) {w : Int32} : pz_M (d + 2) mX9_torrent [.ref 0, .int w] h Q ↔ Q (some (.int (torA A w))) h := by
  obtain ⟨s0, s1, s2, s3, s4, s5, s6, s7⟩ := DS_of R
  obtain ⟨t, ht, tr, tc, T⟩ := TS_of R
  have n1 := R.1.2.2.2.2.2.1.1
  unfold torA
  by_cases q : sB A 0 16 = 0
  · simp only [enX9_torrent, uX9_torrent_0, uX9_torrent_0o, uX9_torrent_0f, uX9_torrent_1, uX9_torrent_4, uX9_torrent_7, uX9_torrent_7o, uX9_torrent_8, uX9_torrent_8o, uX9_torrent_8f, uX9_torrent_9, uX9_torrent_12, uX9_torrent_15, uX9_torrent_16, uX9_torrent_17, uX9_torrent_18, uX9_torrent_48, uX9_torrent_48o, uX9_torrent_48f, uX9_torrent_49, uX9_torrent_52, uX9_torrent_53, uX9_torrent_53o, uX9_torrent_53f, uX9_torrent_54, uX9_torrent_57, uX9_torrent_58, uX9_torrent_58o, uX9_torrent_58f, uX9_torrent_59, uX9_torrent_62, uX9_torrent_63, uX9_torrent_63o, uX9_torrent_63f, uX9_torrent_64, uX9_torrent_67, uX9_torrent_68, uX9_torrent_69, pq_C_sI, pq_C_sJ, pq_C_sR, pq_C_sA, pq_L_sI, pq_L_sJ, pq_L_sR, pq_L_sA, pq_I_sI, pq_I_sJ, pq_I_sR, pq_I_sA, pq_J_sI, pq_J_sJ, pq_J_sR, pq_J_sA, pq_R_sI, pq_R_sJ, pq_R_sR, pq_R_sA, pq_N_sI, pq_N_sJ, pq_N_sR, pq_N_sA, pq_S_sI, pq_S_sJ, pq_S_sR, pq_S_sA, pz_rf_s, pz_cut_i, pz_cut_r, pz_cut_n, pz_cut_f, pz_cut_u, pz_cut_o, true_and, and_true, true_or, or_true, Option.toList_some, Option.toList_none, List.cons_append, List.nil_append, Nat.add_left_cancel_iff, Nat.left_eq_add, Nat.add_eq_left, Nat.reduceEqDiff, if_true, if_false, ite_true, ite_false, false_and, and_false, false_or, or_false, reduceIte, reduceCtorEq, and_self, z_4, z_5, z_7, z_8, z_10, z_16, z_20, z_64, not_false_eq_true, s0, s6, n1, tr, tc, c_isSetM tc T N M, q, not_true_eq_false]
  · simp only [enX9_torrent, uX9_torrent_0, uX9_torrent_1, uX9_torrent_4, uX9_torrent_7, uX9_torrent_8, uX9_torrent_9, uX9_torrent_12, uX9_torrent_17, uX9_torrent_18, pq_C_sI, pq_C_sJ, pq_C_sR, pq_C_sA, pq_L_sI, pq_L_sJ, pq_L_sR, pq_L_sA, pq_I_sI, pq_I_sJ, pq_I_sR, pq_I_sA, pq_J_sI, pq_J_sJ, pq_J_sR, pq_J_sA, pq_R_sI, pq_R_sJ, pq_R_sR, pq_R_sA, pq_N_sI, pq_N_sJ, pq_N_sR, pq_N_sA, pq_S_sI, pq_S_sJ, pq_S_sR, pq_S_sA, pz_rf_s, pz_cut_i, pz_cut_r, pz_cut_n, pz_cut_f, pz_cut_u, pz_cut_o, true_and, and_true, true_or, or_true, Option.toList_some, Option.toList_none, List.cons_append, List.nil_append, Nat.add_left_cancel_iff, Nat.left_eq_add, Nat.add_eq_left, Nat.reduceEqDiff, if_true, if_false, ite_true, ite_false, false_and, and_false, false_or, or_false, reduceIte, reduceCtorEq, and_self, s0, s6, n1, tr, tc, c_isSetM tc T N M, q, show ¬ (1 : Int32) = 0 by decide, not_false_eq_true]
    obtain ⟨t0, t1, t2, t3, _⟩ := T
    cases e : vI w 4 with
    | none =>
      have hs : pz_sw 18 50 0 3 #[30, 35, 40, 45] w = 68 := by
        unfold pz_sw
        rw [if_pos (show w.toInt < 0 ∨ 3 < w.toInt from sw_0 (n := 4) (by decide) e)]
        rfl
      have ne : ∀ k, k < 4 → ¬ w = nI k := fun k hk z => by
        rw [z, vI_of (by decide) hk] at e
        exact absurd e (by simp)
      rw [hs]
      simp only [enX9_torrent, uX9_torrent_0, uX9_torrent_0o, uX9_torrent_0f, uX9_torrent_1, uX9_torrent_4, uX9_torrent_7, uX9_torrent_7o, uX9_torrent_8, uX9_torrent_8o, uX9_torrent_8f, uX9_torrent_9, uX9_torrent_12, uX9_torrent_15, uX9_torrent_16, uX9_torrent_17, uX9_torrent_18, uX9_torrent_48, uX9_torrent_48o, uX9_torrent_48f, uX9_torrent_49, uX9_torrent_52, uX9_torrent_53, uX9_torrent_53o, uX9_torrent_53f, uX9_torrent_54, uX9_torrent_57, uX9_torrent_58, uX9_torrent_58o, uX9_torrent_58f, uX9_torrent_59, uX9_torrent_62, uX9_torrent_63, uX9_torrent_63o, uX9_torrent_63f, uX9_torrent_64, uX9_torrent_67, uX9_torrent_68, uX9_torrent_69, pq_C_sI, pq_C_sJ, pq_C_sR, pq_C_sA, pq_L_sI, pq_L_sJ, pq_L_sR, pq_L_sA, pq_I_sI, pq_I_sJ, pq_I_sR, pq_I_sA, pq_J_sI, pq_J_sJ, pq_J_sR, pq_J_sA, pq_R_sI, pq_R_sJ, pq_R_sR, pq_R_sA, pq_N_sI, pq_N_sJ, pq_N_sR, pq_N_sA, pq_S_sI, pq_S_sJ, pq_S_sR, pq_S_sA, pz_rf_s, pz_cut_i, pz_cut_r, pz_cut_n, pz_cut_f, pz_cut_u, pz_cut_o, true_and, and_true, true_or, or_true, Option.toList_some, Option.toList_none, List.cons_append, List.nil_append, Nat.add_left_cancel_iff, Nat.left_eq_add, Nat.add_eq_left, Nat.reduceEqDiff, if_true, if_false, ite_true, ite_false, false_and, and_false, false_or, or_false, reduceIte, reduceCtorEq, and_self, z_4, z_5, z_7, z_8, z_10, z_16, z_20, z_64, not_false_eq_true]
      rw [if_neg (show ¬ w = 0 from ne 0 (by decide)), if_neg (show ¬ w = 1 from ne 1 (by decide)), if_neg (show ¬ w = 2 from ne 2 (by decide)), if_neg (show ¬ w = 3 from ne 3 (by decide))]
    | some k =>
      obtain ⟨k4, rfl⟩ := vI_some (by decide) e
      have hc : k = 0 ∨ k = 1 ∨ k = 2 ∨ k = 3 := by omega
      rcases hc with rfl | rfl | rfl | rfl
      · rw [show pz_sw 18 50 0 3 #[30, 35, 40, 45] (nI 0) = 48 by decide]
        simp only [enX9_torrent, uX9_torrent_0, uX9_torrent_0o, uX9_torrent_0f, uX9_torrent_1, uX9_torrent_4, uX9_torrent_7, uX9_torrent_7o, uX9_torrent_8, uX9_torrent_8o, uX9_torrent_8f, uX9_torrent_9, uX9_torrent_12, uX9_torrent_15, uX9_torrent_16, uX9_torrent_17, uX9_torrent_18, uX9_torrent_48, uX9_torrent_48o, uX9_torrent_48f, uX9_torrent_49, uX9_torrent_52, uX9_torrent_53, uX9_torrent_53o, uX9_torrent_53f, uX9_torrent_54, uX9_torrent_57, uX9_torrent_58, uX9_torrent_58o, uX9_torrent_58f, uX9_torrent_59, uX9_torrent_62, uX9_torrent_63, uX9_torrent_63o, uX9_torrent_63f, uX9_torrent_64, uX9_torrent_67, uX9_torrent_68, uX9_torrent_69, pq_C_sI, pq_C_sJ, pq_C_sR, pq_C_sA, pq_L_sI, pq_L_sJ, pq_L_sR, pq_L_sA, pq_I_sI, pq_I_sJ, pq_I_sR, pq_I_sA, pq_J_sI, pq_J_sJ, pq_J_sR, pq_J_sA, pq_R_sI, pq_R_sJ, pq_R_sR, pq_R_sA, pq_N_sI, pq_N_sJ, pq_N_sR, pq_N_sA, pq_S_sI, pq_S_sJ, pq_S_sR, pq_S_sA, pz_rf_s, pz_cut_i, pz_cut_r, pz_cut_n, pz_cut_f, pz_cut_u, pz_cut_o, true_and, and_true, true_or, or_true, Option.toList_some, Option.toList_none, List.cons_append, List.nil_append, Nat.add_left_cancel_iff, Nat.left_eq_add, Nat.add_eq_left, Nat.reduceEqDiff, if_true, if_false, ite_true, ite_false, false_and, and_false, false_or, or_false, reduceIte, reduceCtorEq, and_self, z_4, z_5, z_7, z_8, z_10, z_16, z_20, z_64, not_false_eq_true, tc, t0, show nI 0 = 0 from rfl]
      · rw [show pz_sw 18 50 0 3 #[30, 35, 40, 45] (nI 1) = 53 by decide]
        simp only [enX9_torrent, uX9_torrent_0, uX9_torrent_0o, uX9_torrent_0f, uX9_torrent_1, uX9_torrent_4, uX9_torrent_7, uX9_torrent_7o, uX9_torrent_8, uX9_torrent_8o, uX9_torrent_8f, uX9_torrent_9, uX9_torrent_12, uX9_torrent_15, uX9_torrent_16, uX9_torrent_17, uX9_torrent_18, uX9_torrent_48, uX9_torrent_48o, uX9_torrent_48f, uX9_torrent_49, uX9_torrent_52, uX9_torrent_53, uX9_torrent_53o, uX9_torrent_53f, uX9_torrent_54, uX9_torrent_57, uX9_torrent_58, uX9_torrent_58o, uX9_torrent_58f, uX9_torrent_59, uX9_torrent_62, uX9_torrent_63, uX9_torrent_63o, uX9_torrent_63f, uX9_torrent_64, uX9_torrent_67, uX9_torrent_68, uX9_torrent_69, pq_C_sI, pq_C_sJ, pq_C_sR, pq_C_sA, pq_L_sI, pq_L_sJ, pq_L_sR, pq_L_sA, pq_I_sI, pq_I_sJ, pq_I_sR, pq_I_sA, pq_J_sI, pq_J_sJ, pq_J_sR, pq_J_sA, pq_R_sI, pq_R_sJ, pq_R_sR, pq_R_sA, pq_N_sI, pq_N_sJ, pq_N_sR, pq_N_sA, pq_S_sI, pq_S_sJ, pq_S_sR, pq_S_sA, pz_rf_s, pz_cut_i, pz_cut_r, pz_cut_n, pz_cut_f, pz_cut_u, pz_cut_o, true_and, and_true, true_or, or_true, Option.toList_some, Option.toList_none, List.cons_append, List.nil_append, Nat.add_left_cancel_iff, Nat.left_eq_add, Nat.add_eq_left, Nat.reduceEqDiff, if_true, if_false, ite_true, ite_false, false_and, and_false, false_or, or_false, reduceIte, reduceCtorEq, and_self, z_4, z_5, z_7, z_8, z_10, z_16, z_20, z_64, not_false_eq_true, tc, t1, show ¬ nI 1 = 0 by decide, show nI 1 = 1 from rfl, show ¬ (1 : Int32) = 0 by decide]
      · rw [show pz_sw 18 50 0 3 #[30, 35, 40, 45] (nI 2) = 58 by decide]
        simp only [enX9_torrent, uX9_torrent_0, uX9_torrent_0o, uX9_torrent_0f, uX9_torrent_1, uX9_torrent_4, uX9_torrent_7, uX9_torrent_7o, uX9_torrent_8, uX9_torrent_8o, uX9_torrent_8f, uX9_torrent_9, uX9_torrent_12, uX9_torrent_15, uX9_torrent_16, uX9_torrent_17, uX9_torrent_18, uX9_torrent_48, uX9_torrent_48o, uX9_torrent_48f, uX9_torrent_49, uX9_torrent_52, uX9_torrent_53, uX9_torrent_53o, uX9_torrent_53f, uX9_torrent_54, uX9_torrent_57, uX9_torrent_58, uX9_torrent_58o, uX9_torrent_58f, uX9_torrent_59, uX9_torrent_62, uX9_torrent_63, uX9_torrent_63o, uX9_torrent_63f, uX9_torrent_64, uX9_torrent_67, uX9_torrent_68, uX9_torrent_69, pq_C_sI, pq_C_sJ, pq_C_sR, pq_C_sA, pq_L_sI, pq_L_sJ, pq_L_sR, pq_L_sA, pq_I_sI, pq_I_sJ, pq_I_sR, pq_I_sA, pq_J_sI, pq_J_sJ, pq_J_sR, pq_J_sA, pq_R_sI, pq_R_sJ, pq_R_sR, pq_R_sA, pq_N_sI, pq_N_sJ, pq_N_sR, pq_N_sA, pq_S_sI, pq_S_sJ, pq_S_sR, pq_S_sA, pz_rf_s, pz_cut_i, pz_cut_r, pz_cut_n, pz_cut_f, pz_cut_u, pz_cut_o, true_and, and_true, true_or, or_true, Option.toList_some, Option.toList_none, List.cons_append, List.nil_append, Nat.add_left_cancel_iff, Nat.left_eq_add, Nat.add_eq_left, Nat.reduceEqDiff, if_true, if_false, ite_true, ite_false, false_and, and_false, false_or, or_false, reduceIte, reduceCtorEq, and_self, z_4, z_5, z_7, z_8, z_10, z_16, z_20, z_64, not_false_eq_true, tc, t2, show nI 2 = 2 from rfl, show ¬ (2 : Int32) = 0 by decide, show ¬ (2 : Int32) = 1 by decide]
      · rw [show pz_sw 18 50 0 3 #[30, 35, 40, 45] (nI 3) = 63 by decide]
        simp only [enX9_torrent, uX9_torrent_0, uX9_torrent_0o, uX9_torrent_0f, uX9_torrent_1, uX9_torrent_4, uX9_torrent_7, uX9_torrent_7o, uX9_torrent_8, uX9_torrent_8o, uX9_torrent_8f, uX9_torrent_9, uX9_torrent_12, uX9_torrent_15, uX9_torrent_16, uX9_torrent_17, uX9_torrent_18, uX9_torrent_48, uX9_torrent_48o, uX9_torrent_48f, uX9_torrent_49, uX9_torrent_52, uX9_torrent_53, uX9_torrent_53o, uX9_torrent_53f, uX9_torrent_54, uX9_torrent_57, uX9_torrent_58, uX9_torrent_58o, uX9_torrent_58f, uX9_torrent_59, uX9_torrent_62, uX9_torrent_63, uX9_torrent_63o, uX9_torrent_63f, uX9_torrent_64, uX9_torrent_67, uX9_torrent_68, uX9_torrent_69, pq_C_sI, pq_C_sJ, pq_C_sR, pq_C_sA, pq_L_sI, pq_L_sJ, pq_L_sR, pq_L_sA, pq_I_sI, pq_I_sJ, pq_I_sR, pq_I_sA, pq_J_sI, pq_J_sJ, pq_J_sR, pq_J_sA, pq_R_sI, pq_R_sJ, pq_R_sR, pq_R_sA, pq_N_sI, pq_N_sJ, pq_N_sR, pq_N_sA, pq_S_sI, pq_S_sJ, pq_S_sR, pq_S_sA, pz_rf_s, pz_cut_i, pz_cut_r, pz_cut_n, pz_cut_f, pz_cut_u, pz_cut_o, true_and, and_true, true_or, or_true, Option.toList_some, Option.toList_none, List.cons_append, List.nil_append, Nat.add_left_cancel_iff, Nat.left_eq_add, Nat.add_eq_left, Nat.reduceEqDiff, if_true, if_false, ite_true, ite_false, false_and, and_false, false_or, or_false, reduceIte, reduceCtorEq, and_self, z_4, z_5, z_7, z_8, z_10, z_16, z_20, z_64, not_false_eq_true, tc, t3, show nI 3 = 3 from rfl, show ¬ (3 : Int32) = 0 by decide, show ¬ (3 : Int32) = 1 by decide, show ¬ (3 : Int32) = 2 by decide]
theorem TOR_of (R : RC h A) {t : Nat} (ht : t = 15 ∨ t = 28) : TOR h t := by
  rcases ht with rfl | rfl
  · exact R.1.2.2.2.1
  · exact R.1.2.2.2.2.1
theorem c_file (R : RC h A) (hF : sB A 0 21 = nI (sF A).length) (hF2 : (sF A).length ≤ 16) (hF0 : sB A 0 16 = 0 → sF A = []) {k w : Int32} : pz_M (d + 1) mX9_file [.ref 0, .int k, .int w] h Q ↔ Q (some (.int (filA A k w))) h := by
  obtain ⟨s0, s1, s2, s3, s4, s5, s6, s7⟩ := DS_of R
  obtain ⟨t, ht, tr, tc, T⟩ := TS_of R
  obtain ⟨_, ⟨o1, o2, o3⟩, ⟨o4, o5, o6⟩, ⟨o7, o8, o9⟩, _⟩ := TOR_of R ht
  have n1 := R.1.2.2.2.2.2.1.1
  obtain ⟨t0, t1, t2, t3, tf, _⟩ := T
  rw [hF] at t3
  simp only [enX9_file, uX9_file_0, uX9_file_1, uX9_file_4, uX9_file_7, uX9_file_8, uX9_file_9, uX9_file_12, uX9_file_13, uX9_file_14, uX9_file_17, uX9_file_20, uX9_file_21, uX9_file_23, uX9_file_26, uX9_file_27, uX9_file_28, uX9_file_29, pq_C_sI, pq_C_sJ, pq_C_sR, pq_C_sA, pq_L_sI, pq_L_sJ, pq_L_sR, pq_L_sA, pq_I_sI, pq_I_sJ, pq_I_sR, pq_I_sA, pq_J_sI, pq_J_sJ, pq_J_sR, pq_J_sA, pq_R_sI, pq_R_sJ, pq_R_sR, pq_R_sA, pq_N_sI, pq_N_sJ, pq_N_sR, pq_N_sA, pq_S_sI, pq_S_sJ, pq_S_sR, pq_S_sA, pz_rf_s, pz_cut_i, pz_cut_r, pz_cut_n, pz_cut_f, pz_cut_u, pz_cut_o, true_and, and_true, true_or, or_true, Option.toList_some, Option.toList_none, List.cons_append, List.nil_append, Nat.add_left_cancel_iff, Nat.left_eq_add, Nat.add_eq_left, Nat.reduceEqDiff, if_true, if_false, ite_true, ite_false, false_and, and_false, false_or, or_false, reduceIte, reduceCtorEq, and_self, s0, s6, n1, tr, tc, t3]
  unfold filA
  have z16 : sB A 0 16 = 0 → vI k (sF A).length = none := fun z => by
    rw [hF0 z]
    unfold vI
    by_cases h0 : k < 0
    · rw [if_pos h0]
    · rw [if_neg h0, if_neg (show ¬ k < nI ([] : List (Nat × Nat)).length from fun y => h0 y)]
  cases e : vI k (sF A).length with
  | none =>
    have key : (if k < 0 then Q (some (.int (-1))) h else if nI (sF A).length ≤ k then Q (some (.int (-1))) h else if k < 16 then wp d mX9_file (pz_sw 29 48 0 2 #[27, 34, 41] w) [.ref 0, .int k, .int w, .ref t] [] h Q else Q (some (.int (-1))) h) ↔ Q (some (.int (-1))) h := by
      unfold vI at e
      by_cases h0 : k < 0
      · rw [if_pos h0]
      · rw [if_neg h0] at e ⊢
        by_cases h1 : k < nI (sF A).length
        · rw [if_pos h1] at e; exact absurd e (by simp)
        · rw [if_pos (i32_nlt.mp h1)]
    rw [key]
    dsimp only
    rw [ite_self]
  | some j =>
    have m16 : ¬ sB A 0 16 = 0 := fun z => by rw [z16 z] at e; exact absurd e (by simp)
    obtain ⟨j1, rfl⟩ := vI_some (by omega) e
    obtain ⟨f1, f2, f3⟩ := tf j j1
    rw [if_neg m16]
    dsimp only
    rw [if_neg (nI_pos (by omega)), if_neg (nI_ge j1 (by omega)), if_pos (show nI j < 16 from nI_lt (b := 16) (by omega) (by decide))]
    have hin : pz_in (nI j) 16 = true := pz_in_nI (by omega) (by decide)
    have hcl := nI_clamp (show j < 2 ^ 31 by omega)
    cases ew : vI w 3 with
    | none =>
      have hs : pz_sw 29 48 0 2 #[27, 34, 41] w = 77 := by
        unfold pz_sw
        rw [if_pos (show w.toInt < 0 ∨ 2 < w.toInt from sw_0 (n := 3) (by decide) ew)]
        rfl
      have ne : ∀ k, k < 3 → ¬ w = nI k := fun k hk z => by
        rw [z, vI_of (by decide) hk] at ew
        exact absurd ew (by simp)
      rw [hs]
      simp only [enX9_file, uX9_file_0, uX9_file_0o, uX9_file_0f, uX9_file_1, uX9_file_4, uX9_file_7, uX9_file_7o, uX9_file_8, uX9_file_9, uX9_file_12, uX9_file_13, uX9_file_13o, uX9_file_13f, uX9_file_14, uX9_file_17, uX9_file_20, uX9_file_21, uX9_file_23, uX9_file_26, uX9_file_27, uX9_file_28, uX9_file_29, uX9_file_56, uX9_file_56o, uX9_file_56f, uX9_file_57, uX9_file_60, uX9_file_61, uX9_file_62, uX9_file_63, uX9_file_63o, uX9_file_63f, uX9_file_64, uX9_file_67, uX9_file_68, uX9_file_69, uX9_file_70, uX9_file_70o, uX9_file_70f, uX9_file_71, uX9_file_74, uX9_file_75, uX9_file_76, uX9_file_77, uX9_file_78, pq_C_sI, pq_C_sJ, pq_C_sR, pq_C_sA, pq_L_sI, pq_L_sJ, pq_L_sR, pq_L_sA, pq_I_sI, pq_I_sJ, pq_I_sR, pq_I_sA, pq_J_sI, pq_J_sJ, pq_J_sR, pq_J_sA, pq_R_sI, pq_R_sJ, pq_R_sR, pq_R_sA, pq_N_sI, pq_N_sJ, pq_N_sR, pq_N_sA, pq_S_sI, pq_S_sJ, pq_S_sR, pq_S_sA, pz_rf_s, pz_cut_i, pz_cut_r, pz_cut_n, pz_cut_f, pz_cut_u, pz_cut_o, true_and, and_true, true_or, or_true, Option.toList_some, Option.toList_none, List.cons_append, List.nil_append, Nat.add_left_cancel_iff, Nat.left_eq_add, Nat.add_eq_left, Nat.reduceEqDiff, if_true, if_false, ite_true, ite_false, false_and, and_false, false_or, or_false, reduceIte, reduceCtorEq, and_self, z_4, z_5, z_7, z_8, z_10, z_16, z_20, z_64, not_false_eq_true]
      rw [if_neg (show ¬ w = 0 from ne 0 (by decide)), if_neg (show ¬ w = 1 from ne 1 (by decide)), if_neg (show ¬ w = 2 from ne 2 (by decide))]
    | some i =>
      obtain ⟨i3, rfl⟩ := vI_some (by decide) ew
      have hc : i = 0 ∨ i = 1 ∨ i = 2 := by omega
      rcases hc with rfl | rfl | rfl
      · rw [show pz_sw 29 48 0 2 #[27, 34, 41] (nI 0) = 56 by decide]
        simp only [enX9_file, uX9_file_0, uX9_file_0o, uX9_file_0f, uX9_file_1, uX9_file_4, uX9_file_7, uX9_file_7o, uX9_file_8, uX9_file_9, uX9_file_12, uX9_file_13, uX9_file_13o, uX9_file_13f, uX9_file_14, uX9_file_17, uX9_file_20, uX9_file_21, uX9_file_23, uX9_file_26, uX9_file_27, uX9_file_28, uX9_file_29, uX9_file_56, uX9_file_56o, uX9_file_56f, uX9_file_57, uX9_file_60, uX9_file_61, uX9_file_62, uX9_file_63, uX9_file_63o, uX9_file_63f, uX9_file_64, uX9_file_67, uX9_file_68, uX9_file_69, uX9_file_70, uX9_file_70o, uX9_file_70f, uX9_file_71, uX9_file_74, uX9_file_75, uX9_file_76, uX9_file_77, uX9_file_78, pq_C_sI, pq_C_sJ, pq_C_sR, pq_C_sA, pq_L_sI, pq_L_sJ, pq_L_sR, pq_L_sA, pq_I_sI, pq_I_sJ, pq_I_sR, pq_I_sA, pq_J_sI, pq_J_sJ, pq_J_sR, pq_J_sA, pq_R_sI, pq_R_sJ, pq_R_sR, pq_R_sA, pq_N_sI, pq_N_sJ, pq_N_sR, pq_N_sA, pq_S_sI, pq_S_sJ, pq_S_sR, pq_S_sA, pz_rf_s, pz_cut_i, pz_cut_r, pz_cut_n, pz_cut_f, pz_cut_u, pz_cut_o, true_and, and_true, true_or, or_true, Option.toList_some, Option.toList_none, List.cons_append, List.nil_append, Nat.add_left_cancel_iff, Nat.left_eq_add, Nat.add_eq_left, Nat.reduceEqDiff, if_true, if_false, ite_true, ite_false, false_and, and_false, false_or, or_false, reduceIte, reduceCtorEq, and_self, z_4, z_5, z_7, z_8, z_10, z_16, z_20, z_64, not_false_eq_true, tc, o1, o2, o3, hin, hcl, f1, show nI 0 = 0 from rfl]
      · rw [show pz_sw 29 48 0 2 #[27, 34, 41] (nI 1) = 63 by decide]
        simp only [enX9_file, uX9_file_0, uX9_file_0o, uX9_file_0f, uX9_file_1, uX9_file_4, uX9_file_7, uX9_file_7o, uX9_file_8, uX9_file_9, uX9_file_12, uX9_file_13, uX9_file_13o, uX9_file_13f, uX9_file_14, uX9_file_17, uX9_file_20, uX9_file_21, uX9_file_23, uX9_file_26, uX9_file_27, uX9_file_28, uX9_file_29, uX9_file_56, uX9_file_56o, uX9_file_56f, uX9_file_57, uX9_file_60, uX9_file_61, uX9_file_62, uX9_file_63, uX9_file_63o, uX9_file_63f, uX9_file_64, uX9_file_67, uX9_file_68, uX9_file_69, uX9_file_70, uX9_file_70o, uX9_file_70f, uX9_file_71, uX9_file_74, uX9_file_75, uX9_file_76, uX9_file_77, uX9_file_78, pq_C_sI, pq_C_sJ, pq_C_sR, pq_C_sA, pq_L_sI, pq_L_sJ, pq_L_sR, pq_L_sA, pq_I_sI, pq_I_sJ, pq_I_sR, pq_I_sA, pq_J_sI, pq_J_sJ, pq_J_sR, pq_J_sA, pq_R_sI, pq_R_sJ, pq_R_sR, pq_R_sA, pq_N_sI, pq_N_sJ, pq_N_sR, pq_N_sA, pq_S_sI, pq_S_sJ, pq_S_sR, pq_S_sA, pz_rf_s, pz_cut_i, pz_cut_r, pz_cut_n, pz_cut_f, pz_cut_u, pz_cut_o, true_and, and_true, true_or, or_true, Option.toList_some, Option.toList_none, List.cons_append, List.nil_append, Nat.add_left_cancel_iff, Nat.left_eq_add, Nat.add_eq_left, Nat.reduceEqDiff, if_true, if_false, ite_true, ite_false, false_and, and_false, false_or, or_false, reduceIte, reduceCtorEq, and_self, z_4, z_5, z_7, z_8, z_10, z_16, z_20, z_64, not_false_eq_true, tc, o4, o5, o6, hin, hcl, f2, show nI 1 = 1 from rfl, show ¬ (1 : Int32) = 0 by decide]
      · rw [show pz_sw 29 48 0 2 #[27, 34, 41] (nI 2) = 70 by decide]
        simp only [enX9_file, uX9_file_0, uX9_file_0o, uX9_file_0f, uX9_file_1, uX9_file_4, uX9_file_7, uX9_file_7o, uX9_file_8, uX9_file_9, uX9_file_12, uX9_file_13, uX9_file_13o, uX9_file_13f, uX9_file_14, uX9_file_17, uX9_file_20, uX9_file_21, uX9_file_23, uX9_file_26, uX9_file_27, uX9_file_28, uX9_file_29, uX9_file_56, uX9_file_56o, uX9_file_56f, uX9_file_57, uX9_file_60, uX9_file_61, uX9_file_62, uX9_file_63, uX9_file_63o, uX9_file_63f, uX9_file_64, uX9_file_67, uX9_file_68, uX9_file_69, uX9_file_70, uX9_file_70o, uX9_file_70f, uX9_file_71, uX9_file_74, uX9_file_75, uX9_file_76, uX9_file_77, uX9_file_78, pq_C_sI, pq_C_sJ, pq_C_sR, pq_C_sA, pq_L_sI, pq_L_sJ, pq_L_sR, pq_L_sA, pq_I_sI, pq_I_sJ, pq_I_sR, pq_I_sA, pq_J_sI, pq_J_sJ, pq_J_sR, pq_J_sA, pq_R_sI, pq_R_sJ, pq_R_sR, pq_R_sA, pq_N_sI, pq_N_sJ, pq_N_sR, pq_N_sA, pq_S_sI, pq_S_sJ, pq_S_sR, pq_S_sA, pz_rf_s, pz_cut_i, pz_cut_r, pz_cut_n, pz_cut_f, pz_cut_u, pz_cut_o, true_and, and_true, true_or, or_true, Option.toList_some, Option.toList_none, List.cons_append, List.nil_append, Nat.add_left_cancel_iff, Nat.left_eq_add, Nat.add_eq_left, Nat.reduceEqDiff, if_true, if_false, ite_true, ite_false, false_and, and_false, false_or, or_false, reduceIte, reduceCtorEq, and_self, z_4, z_5, z_7, z_8, z_10, z_16, z_20, z_64, not_false_eq_true, tc, o7, o8, o9, hin, hcl, f3, show nI 2 = 2 from rfl, show ¬ (2 : Int32) = 0 by decide, show ¬ (2 : Int32) = 1 by decide]
theorem c_hash (R : RC h A) (N : TN A l c p) (M : sB A 0 16 = 0 ↔ p = 0) (hn : sB A 0 16 ≠ 0 → (sV A 2).length = 20) (K : ∀ h', HC h h' → RC h' (hasA A).2 → Q (some (.int (hasA A).1)) h') : pz_M (d + 3) mX9_hash [.ref 0] h Q := by
  obtain ⟨s0, s1, s2, s3, s4, s5, s6, s7⟩ := DS_of R
  obtain ⟨t, ht, tr, tc, T⟩ := TS_of R
  have n1 := R.1.2.2.2.2.2.1.1
  have V := R.2.2.1.2.1
  have V1 := V.1
  unfold hasA at K
  by_cases q : sB A 0 16 = 0
  · rw [if_pos q] at K
    simp only [enX9_hash, uX9_hash_0, uX9_hash_0o, uX9_hash_0f, uX9_hash_1, uX9_hash_4, uX9_hash_7, uX9_hash_10, uX9_hash_13, uX9_hash_14, uX9_hash_15, uX9_hash_15o, uX9_hash_15f, uX9_hash_16, uX9_hash_19, uX9_hash_20, uX9_hash_23, uX9_hash_23o, uX9_hash_23f, uX9_hash_24, uX9_hash_27, uX9_hash_27o, uX9_hash_27f, uX9_hash_28, uX9_hash_31, uX9_hash_34, uX9_hash_37, uX9_hash_38, uX9_hash_40, uX9_hash_43, uX9_hash_45, pq_C_sI, pq_C_sJ, pq_C_sR, pq_C_sA, pq_L_sI, pq_L_sJ, pq_L_sR, pq_L_sA, pq_I_sI, pq_I_sJ, pq_I_sR, pq_I_sA, pq_J_sI, pq_J_sJ, pq_J_sR, pq_J_sA, pq_R_sI, pq_R_sJ, pq_R_sR, pq_R_sA, pq_N_sI, pq_N_sJ, pq_N_sR, pq_N_sA, pq_S_sI, pq_S_sJ, pq_S_sR, pq_S_sA, pz_rf_s, pz_cut_i, pz_cut_r, pz_cut_n, pz_cut_f, pz_cut_u, pz_cut_o, true_and, and_true, true_or, or_true, Option.toList_some, Option.toList_none, List.cons_append, List.nil_append, Nat.add_left_cancel_iff, Nat.left_eq_add, Nat.add_eq_left, Nat.reduceEqDiff, if_true, if_false, ite_true, ite_false, false_and, and_false, false_or, or_false, reduceIte, reduceCtorEq, and_self, z_4, z_5, z_7, z_8, z_10, z_16, z_20, z_64, not_false_eq_true, s0, s6, n1, tr, tc, c_isSetM tc T N M, q, not_true_eq_false]
    exact K h HC_refl R
  · rw [if_neg q] at K
    have e20 := hn q
    simp only [enX9_hash, uX9_hash_0, uX9_hash_0o, uX9_hash_0f, uX9_hash_1, uX9_hash_4, uX9_hash_7, uX9_hash_10, uX9_hash_13, uX9_hash_14, uX9_hash_15, uX9_hash_15o, uX9_hash_15f, uX9_hash_16, uX9_hash_19, uX9_hash_20, uX9_hash_23, uX9_hash_23o, uX9_hash_23f, uX9_hash_24, uX9_hash_27, uX9_hash_27o, uX9_hash_27f, uX9_hash_28, uX9_hash_31, uX9_hash_34, uX9_hash_37, uX9_hash_38, uX9_hash_40, uX9_hash_43, uX9_hash_45, pq_C_sI, pq_C_sJ, pq_C_sR, pq_C_sA, pq_L_sI, pq_L_sJ, pq_L_sR, pq_L_sA, pq_I_sI, pq_I_sJ, pq_I_sR, pq_I_sA, pq_J_sI, pq_J_sJ, pq_J_sR, pq_J_sA, pq_R_sI, pq_R_sJ, pq_R_sR, pq_R_sA, pq_N_sI, pq_N_sJ, pq_N_sR, pq_N_sA, pq_S_sI, pq_S_sJ, pq_S_sR, pq_S_sA, pz_rf_s, pz_cut_i, pz_cut_r, pz_cut_n, pz_cut_f, pz_cut_u, pz_cut_o, true_and, and_true, true_or, or_true, Option.toList_some, Option.toList_none, List.cons_append, List.nil_append, Nat.add_left_cancel_iff, Nat.left_eq_add, Nat.add_eq_left, Nat.reduceEqDiff, if_true, if_false, ite_true, ite_false, false_and, and_false, false_or, or_false, reduceIte, reduceCtorEq, and_self, z_4, z_5, z_7, z_8, z_10, z_16, z_20, z_64, not_false_eq_true, s0, s2, s6, n1, tr, tc, c_isSetM tc T N M, q, show ¬ (1 : Int32) = 0 by decide, V1]
    refine c_cut0 V (fun h1 F1 X1 => ?_)
    have R1 := RC_V1 R F1 X1
    obtain ⟨u0, u1, u2, u3, u4, u5, u6, u7⟩ := DS_of R1
    obtain ⟨t', ht', tr', tc', T'⟩ := TS_of R1
    have o7 := (TOR_of R1 ht').2.2.2.2.1
    have n1' := R1.1.2.2.2.2.2.1.1
    have W2 := T'.2.2.2.2.2.1
    have Y1 := X1.1
    have Y2 := W2.1
    have e20' : (sV (stV A 1 []) 2).length = 20 := e20
    simp only [enX9_hash, uX9_hash_0, uX9_hash_0o, uX9_hash_0f, uX9_hash_1, uX9_hash_4, uX9_hash_7, uX9_hash_10, uX9_hash_13, uX9_hash_14, uX9_hash_15, uX9_hash_15o, uX9_hash_15f, uX9_hash_16, uX9_hash_19, uX9_hash_20, uX9_hash_23, uX9_hash_23o, uX9_hash_23f, uX9_hash_24, uX9_hash_27, uX9_hash_27o, uX9_hash_27f, uX9_hash_28, uX9_hash_31, uX9_hash_34, uX9_hash_37, uX9_hash_38, uX9_hash_40, uX9_hash_43, uX9_hash_45, pq_C_sI, pq_C_sJ, pq_C_sR, pq_C_sA, pq_L_sI, pq_L_sJ, pq_L_sR, pq_L_sA, pq_I_sI, pq_I_sJ, pq_I_sR, pq_I_sA, pq_J_sI, pq_J_sJ, pq_J_sR, pq_J_sA, pq_R_sI, pq_R_sJ, pq_R_sR, pq_R_sA, pq_N_sI, pq_N_sJ, pq_N_sR, pq_N_sA, pq_S_sI, pq_S_sJ, pq_S_sR, pq_S_sA, pz_rf_s, pz_cut_i, pz_cut_r, pz_cut_n, pz_cut_f, pz_cut_u, pz_cut_o, true_and, and_true, true_or, or_true, Option.toList_some, Option.toList_none, List.cons_append, List.nil_append, Nat.add_left_cancel_iff, Nat.left_eq_add, Nat.add_eq_left, Nat.reduceEqDiff, if_true, if_false, ite_true, ite_false, false_and, and_false, false_or, or_false, reduceIte, reduceCtorEq, and_self, z_4, z_5, z_7, z_8, z_10, z_16, z_20, z_64, not_false_eq_true, u0, u2, u6, n1', tr', tc', o7, Y1, Y2]
    refine (show _ from c_addPart (b := 0) (n := 20) X1 W2 ⟨by omega, by omega⟩ (by omega) (by simp) (fun h2 F2 X2 => ?_) : pz_M (d + 2) mX6_addPart [.ref 3, .ref (t' + 4), .int 0, .int 20] h1 _)
    simp only [enX9_hash, uX9_hash_0, uX9_hash_0o, uX9_hash_0f, uX9_hash_1, uX9_hash_4, uX9_hash_7, uX9_hash_10, uX9_hash_13, uX9_hash_14, uX9_hash_15, uX9_hash_15o, uX9_hash_15f, uX9_hash_16, uX9_hash_19, uX9_hash_20, uX9_hash_23, uX9_hash_23o, uX9_hash_23f, uX9_hash_24, uX9_hash_27, uX9_hash_27o, uX9_hash_27f, uX9_hash_28, uX9_hash_31, uX9_hash_34, uX9_hash_37, uX9_hash_38, uX9_hash_40, uX9_hash_43, uX9_hash_45, pq_C_sI, pq_C_sJ, pq_C_sR, pq_C_sA, pq_L_sI, pq_L_sJ, pq_L_sR, pq_L_sA, pq_I_sI, pq_I_sJ, pq_I_sR, pq_I_sA, pq_J_sI, pq_J_sJ, pq_J_sR, pq_J_sA, pq_R_sI, pq_R_sJ, pq_R_sR, pq_R_sA, pq_N_sI, pq_N_sJ, pq_N_sR, pq_N_sA, pq_S_sI, pq_S_sJ, pq_S_sR, pq_S_sA, pz_rf_s, pz_cut_i, pz_cut_r, pz_cut_n, pz_cut_f, pz_cut_u, pz_cut_o, true_and, and_true, true_or, or_true, Option.toList_some, Option.toList_none, List.cons_append, List.nil_append, Nat.add_left_cancel_iff, Nat.left_eq_add, Nat.add_eq_left, Nat.reduceEqDiff, if_true, if_false, ite_true, ite_false, false_and, and_false, false_or, or_false, reduceIte, reduceCtorEq, and_self, z_4, z_5, z_7, z_8, z_10, z_16, z_20, z_64, not_false_eq_true]
    have e2 : ([] : List Int8) ++ ofF (fun i => (sV (stV A 1 []) 2).getD (0 + i) 0) 20 = sV A 2 := by
      rw [List.nil_append, ofF_take (by omega), List.take_of_length_le (by omega)]
      rfl
    rw [e2] at X2
    have F12 := HF_trans F1 F2
    exact K h2 (HC_34 F12) (RC_V1 R F12 X2)
theorem c_disk (R : RC h A) {a i : Int32} : pz_M (d + 2) mX9_disk [.ref 0, .int a, .int i] h Q ↔ Q (some (.int (dskA A a i))) h := by
  obtain ⟨s0, s1, s2, s3, s4, s5, s6, s7⟩ := DS_of R
  have n1 := R.1.2.2.2.2.2.1.1
  have cc : ∀ {Q : Option Value → PzH → Prop}, pz_M (d + 1) mX5_clientOf [.ref 23, .int a] h Q ↔ Q (some (pz_rf (clO A a))) h := fun {Q} => c_clientOf R.1 R.2.2.2.1
  unfold clO at cc
  unfold dskA
  cases e : vI a 4 with
  | none =>
    rw [e] at cc
    simp only [enX9_disk, uX9_disk_0, uX9_disk_0o, uX9_disk_0f, uX9_disk_1, uX9_disk_4, uX9_disk_5, uX9_disk_8, uX9_disk_8o, uX9_disk_9, uX9_disk_9o, uX9_disk_9f, uX9_disk_10, uX9_disk_10a, uX9_disk_13, uX9_disk_14, uX9_disk_17, uX9_disk_17o, uX9_disk_17f, uX9_disk_18, uX9_disk_21, uX9_disk_22, uX9_disk_25, pq_C_sI, pq_C_sJ, pq_C_sR, pq_C_sA, pq_L_sI, pq_L_sJ, pq_L_sR, pq_L_sA, pq_I_sI, pq_I_sJ, pq_I_sR, pq_I_sA, pq_J_sI, pq_J_sJ, pq_J_sR, pq_J_sA, pq_R_sI, pq_R_sJ, pq_R_sR, pq_R_sA, pq_N_sI, pq_N_sJ, pq_N_sR, pq_N_sA, pq_S_sI, pq_S_sJ, pq_S_sR, pq_S_sA, pz_rf_s, pz_cut_i, pz_cut_r, pz_cut_n, pz_cut_f, pz_cut_u, pz_cut_o, true_and, and_true, true_or, or_true, Option.toList_some, Option.toList_none, List.cons_append, List.nil_append, Nat.add_left_cancel_iff, Nat.left_eq_add, Nat.add_eq_left, Nat.reduceEqDiff, if_true, if_false, ite_true, ite_false, false_and, and_false, false_or, or_false, reduceIte, reduceCtorEq, and_self, z_4, z_5, z_7, z_8, z_10, z_16, z_20, z_64, not_false_eq_true, s0, s6, n1, cc, pz_cut_o]
  | some x =>
    rw [e] at cc
    dsimp only at cc ⊢
    obtain ⟨x4, rfl⟩ := vI_some (by decide) e
    by_cases q : sB A 18 x = 0
    · simp only [q, if_true] at cc ⊢
      simp only [enX9_disk, uX9_disk_0, uX9_disk_0o, uX9_disk_0f, uX9_disk_1, uX9_disk_4, uX9_disk_5, uX9_disk_8, uX9_disk_8o, uX9_disk_9, uX9_disk_9o, uX9_disk_9f, uX9_disk_10, uX9_disk_10a, uX9_disk_13, uX9_disk_14, uX9_disk_17, uX9_disk_17o, uX9_disk_17f, uX9_disk_18, uX9_disk_21, uX9_disk_22, uX9_disk_25, pq_C_sI, pq_C_sJ, pq_C_sR, pq_C_sA, pq_L_sI, pq_L_sJ, pq_L_sR, pq_L_sA, pq_I_sI, pq_I_sJ, pq_I_sR, pq_I_sA, pq_J_sI, pq_J_sJ, pq_J_sR, pq_J_sA, pq_R_sI, pq_R_sJ, pq_R_sR, pq_R_sA, pq_N_sI, pq_N_sJ, pq_N_sR, pq_N_sA, pq_S_sI, pq_S_sJ, pq_S_sR, pq_S_sA, pz_rf_s, pz_cut_i, pz_cut_r, pz_cut_n, pz_cut_f, pz_cut_u, pz_cut_o, true_and, and_true, true_or, or_true, Option.toList_some, Option.toList_none, List.cons_append, List.nil_append, Nat.add_left_cancel_iff, Nat.left_eq_add, Nat.add_eq_left, Nat.reduceEqDiff, if_true, if_false, ite_true, ite_false, false_and, and_false, false_or, or_false, reduceIte, reduceCtorEq, and_self, z_4, z_5, z_7, z_8, z_10, z_16, z_20, z_64, not_false_eq_true, s0, s6, n1, cc, pz_cut_o]
    · simp only [q, if_false] at cc ⊢
      obtain ⟨⟨c1, c2, c3, c4, c5⟩, CRa⟩ := CL_of R x4
      obtain ⟨rd, _⟩ := CRa.2.2 q
      have e37 : 36 + 4 * x + 1 = 37 + 4 * x := by omega
      rw [e37] at c2
      have r1 := rd.1
      simp only [enX9_disk, uX9_disk_0, uX9_disk_0o, uX9_disk_0f, uX9_disk_1, uX9_disk_4, uX9_disk_5, uX9_disk_8, uX9_disk_8o, uX9_disk_9, uX9_disk_9o, uX9_disk_9f, uX9_disk_10, uX9_disk_10a, uX9_disk_13, uX9_disk_14, uX9_disk_17, uX9_disk_17o, uX9_disk_17f, uX9_disk_18, uX9_disk_21, uX9_disk_22, uX9_disk_25, pq_C_sI, pq_C_sJ, pq_C_sR, pq_C_sA, pq_L_sI, pq_L_sJ, pq_L_sR, pq_L_sA, pq_I_sI, pq_I_sJ, pq_I_sR, pq_I_sA, pq_J_sI, pq_J_sJ, pq_J_sR, pq_J_sA, pq_R_sI, pq_R_sJ, pq_R_sR, pq_R_sA, pq_N_sI, pq_N_sJ, pq_N_sR, pq_N_sA, pq_S_sI, pq_S_sJ, pq_S_sR, pq_S_sA, pz_rf_s, pz_cut_i, pz_cut_r, pz_cut_n, pz_cut_f, pz_cut_u, pz_cut_o, true_and, and_true, true_or, or_true, Option.toList_some, Option.toList_none, List.cons_append, List.nil_append, Nat.add_left_cancel_iff, Nat.left_eq_add, Nat.add_eq_left, Nat.reduceEqDiff, if_true, if_false, ite_true, ite_false, false_and, and_false, false_or, or_false, reduceIte, reduceCtorEq, and_self, z_4, z_5, z_7, z_8, z_10, z_16, z_20, z_64, not_false_eq_true, s0, s6, n1, cc, c1, c2, r1, c_at rd]
      exact Iff.rfl
theorem c_piece (R : RC h A) (N : TN A l c p) (I : LI A l c p) {a v : Int32} : pz_M (d + 2) mX9_piece [.ref 0, .int a, .int v] h Q ↔ Q (some (.int (pieA A a v l c p))) h := by
  obtain ⟨s0, s1, s2, s3, s4, s5, s6, s7⟩ := DS_of R
  obtain ⟨t, ht, tr, tc, T⟩ := TS_of R
  have n1 := R.1.2.2.2.2.2.1.1
  have t6 := N.2.2.2.2.2.1
  have cc : ∀ {Q : Option Value → PzH → Prop}, pz_M (d + 1) mX5_clientOf [.ref 23, .int a] h Q ↔ Q (some (pz_rf (clO A a))) h := fun {Q} => c_clientOf R.1 R.2.2.2.1
  unfold clO at cc
  unfold pieA
  cases e : vI a 4 with
  | none =>
    rw [e] at cc
    simp only [enX9_piece, uX9_piece_0, uX9_piece_0o, uX9_piece_0f, uX9_piece_1, uX9_piece_4, uX9_piece_5, uX9_piece_8, uX9_piece_8o, uX9_piece_9, uX9_piece_9o, uX9_piece_9f, uX9_piece_10, uX9_piece_10a, uX9_piece_13, uX9_piece_13o, uX9_piece_13f, uX9_piece_14, uX9_piece_17, uX9_piece_20, uX9_piece_21, uX9_piece_22, uX9_piece_25, uX9_piece_28, uX9_piece_29, uX9_piece_30, uX9_piece_30o, uX9_piece_30f, uX9_piece_31, uX9_piece_32, uX9_piece_35, uX9_piece_38, uX9_piece_39, uX9_piece_40, uX9_piece_40o, uX9_piece_40f, uX9_piece_41, uX9_piece_44, uX9_piece_45, uX9_piece_46, uX9_piece_49, uX9_piece_50, uX9_piece_53, uX9_piece_54, pq_C_sI, pq_C_sJ, pq_C_sR, pq_C_sA, pq_L_sI, pq_L_sJ, pq_L_sR, pq_L_sA, pq_I_sI, pq_I_sJ, pq_I_sR, pq_I_sA, pq_J_sI, pq_J_sJ, pq_J_sR, pq_J_sA, pq_R_sI, pq_R_sJ, pq_R_sR, pq_R_sA, pq_N_sI, pq_N_sJ, pq_N_sR, pq_N_sA, pq_S_sI, pq_S_sJ, pq_S_sR, pq_S_sA, pz_rf_s, pz_cut_i, pz_cut_r, pz_cut_n, pz_cut_f, pz_cut_u, pz_cut_o, true_and, and_true, true_or, or_true, Option.toList_some, Option.toList_none, List.cons_append, List.nil_append, Nat.add_left_cancel_iff, Nat.left_eq_add, Nat.add_eq_left, Nat.reduceEqDiff, if_true, if_false, ite_true, ite_false, false_and, and_false, false_or, or_false, reduceIte, reduceCtorEq, and_self, z_4, z_5, z_7, z_8, z_10, z_16, z_20, z_64, not_false_eq_true, s0, s6, n1, cc, pz_cut_o]
  | some x =>
    rw [e] at cc
    dsimp only at cc
    obtain ⟨x4, rfl⟩ := vI_some (by decide) e
    by_cases q : sB A 18 x = 0
    · simp only [q, if_true] at cc
      cases vI v p with
      | none =>
        simp only [enX9_piece, uX9_piece_0, uX9_piece_0o, uX9_piece_0f, uX9_piece_1, uX9_piece_4, uX9_piece_5, uX9_piece_8, uX9_piece_8o, uX9_piece_9, uX9_piece_9o, uX9_piece_9f, uX9_piece_10, uX9_piece_10a, uX9_piece_13, uX9_piece_13o, uX9_piece_13f, uX9_piece_14, uX9_piece_17, uX9_piece_20, uX9_piece_21, uX9_piece_22, uX9_piece_25, uX9_piece_28, uX9_piece_29, uX9_piece_30, uX9_piece_30o, uX9_piece_30f, uX9_piece_31, uX9_piece_32, uX9_piece_35, uX9_piece_38, uX9_piece_39, uX9_piece_40, uX9_piece_40o, uX9_piece_40f, uX9_piece_41, uX9_piece_44, uX9_piece_45, uX9_piece_46, uX9_piece_49, uX9_piece_50, uX9_piece_53, uX9_piece_54, pq_C_sI, pq_C_sJ, pq_C_sR, pq_C_sA, pq_L_sI, pq_L_sJ, pq_L_sR, pq_L_sA, pq_I_sI, pq_I_sJ, pq_I_sR, pq_I_sA, pq_J_sI, pq_J_sJ, pq_J_sR, pq_J_sA, pq_R_sI, pq_R_sJ, pq_R_sR, pq_R_sA, pq_N_sI, pq_N_sJ, pq_N_sR, pq_N_sA, pq_S_sI, pq_S_sJ, pq_S_sR, pq_S_sA, pz_rf_s, pz_cut_i, pz_cut_r, pz_cut_n, pz_cut_f, pz_cut_u, pz_cut_o, true_and, and_true, true_or, or_true, Option.toList_some, Option.toList_none, List.cons_append, List.nil_append, Nat.add_left_cancel_iff, Nat.left_eq_add, Nat.add_eq_left, Nat.reduceEqDiff, if_true, if_false, ite_true, ite_false, false_and, and_false, false_or, or_false, reduceIte, reduceCtorEq, and_self, z_4, z_5, z_7, z_8, z_10, z_16, z_20, z_64, not_false_eq_true, s0, s6, n1, cc, pz_cut_o]
      | some j =>
        dsimp only
        rw [if_pos q]
        simp only [enX9_piece, uX9_piece_0, uX9_piece_0o, uX9_piece_0f, uX9_piece_1, uX9_piece_4, uX9_piece_5, uX9_piece_8, uX9_piece_8o, uX9_piece_9, uX9_piece_9o, uX9_piece_9f, uX9_piece_10, uX9_piece_10a, uX9_piece_13, uX9_piece_13o, uX9_piece_13f, uX9_piece_14, uX9_piece_17, uX9_piece_20, uX9_piece_21, uX9_piece_22, uX9_piece_25, uX9_piece_28, uX9_piece_29, uX9_piece_30, uX9_piece_30o, uX9_piece_30f, uX9_piece_31, uX9_piece_32, uX9_piece_35, uX9_piece_38, uX9_piece_39, uX9_piece_40, uX9_piece_40o, uX9_piece_40f, uX9_piece_41, uX9_piece_44, uX9_piece_45, uX9_piece_46, uX9_piece_49, uX9_piece_50, uX9_piece_53, uX9_piece_54, pq_C_sI, pq_C_sJ, pq_C_sR, pq_C_sA, pq_L_sI, pq_L_sJ, pq_L_sR, pq_L_sA, pq_I_sI, pq_I_sJ, pq_I_sR, pq_I_sA, pq_J_sI, pq_J_sJ, pq_J_sR, pq_J_sA, pq_R_sI, pq_R_sJ, pq_R_sR, pq_R_sA, pq_N_sI, pq_N_sJ, pq_N_sR, pq_N_sA, pq_S_sI, pq_S_sJ, pq_S_sR, pq_S_sA, pz_rf_s, pz_cut_i, pz_cut_r, pz_cut_n, pz_cut_f, pz_cut_u, pz_cut_o, true_and, and_true, true_or, or_true, Option.toList_some, Option.toList_none, List.cons_append, List.nil_append, Nat.add_left_cancel_iff, Nat.left_eq_add, Nat.add_eq_left, Nat.reduceEqDiff, if_true, if_false, ite_true, ite_false, false_and, and_false, false_or, or_false, reduceIte, reduceCtorEq, and_self, z_4, z_5, z_7, z_8, z_10, z_16, z_20, z_64, not_false_eq_true, s0, s6, n1, cc, pz_cut_o]
    · simp only [q, if_false] at cc
      obtain ⟨⟨c1, c2, c3, c4, c5⟩, CRa⟩ := CL_of R x4
      obtain ⟨rd, bits, cb, _⟩ := CRa.2.2 q
      have e39 : 36 + 4 * x + 3 = 39 + 4 * x := by omega
      rw [e39] at c3 c4 c5
      cases ev : vI v p with
      | none =>
        simp only [enX9_piece, uX9_piece_0, uX9_piece_0o, uX9_piece_0f, uX9_piece_1, uX9_piece_4, uX9_piece_5, uX9_piece_8, uX9_piece_8o, uX9_piece_9, uX9_piece_9o, uX9_piece_9f, uX9_piece_10, uX9_piece_10a, uX9_piece_13, uX9_piece_13o, uX9_piece_13f, uX9_piece_14, uX9_piece_17, uX9_piece_20, uX9_piece_21, uX9_piece_22, uX9_piece_25, uX9_piece_28, uX9_piece_29, uX9_piece_30, uX9_piece_30o, uX9_piece_30f, uX9_piece_31, uX9_piece_32, uX9_piece_35, uX9_piece_38, uX9_piece_39, uX9_piece_40, uX9_piece_40o, uX9_piece_40f, uX9_piece_41, uX9_piece_44, uX9_piece_45, uX9_piece_46, uX9_piece_49, uX9_piece_50, uX9_piece_53, uX9_piece_54, pq_C_sI, pq_C_sJ, pq_C_sR, pq_C_sA, pq_L_sI, pq_L_sJ, pq_L_sR, pq_L_sA, pq_I_sI, pq_I_sJ, pq_I_sR, pq_I_sA, pq_J_sI, pq_J_sJ, pq_J_sR, pq_J_sA, pq_R_sI, pq_R_sJ, pq_R_sR, pq_R_sA, pq_N_sI, pq_N_sJ, pq_N_sR, pq_N_sA, pq_S_sI, pq_S_sJ, pq_S_sR, pq_S_sA, pz_rf_s, pz_cut_i, pz_cut_r, pz_cut_n, pz_cut_f, pz_cut_u, pz_cut_o, true_and, and_true, true_or, or_true, Option.toList_some, Option.toList_none, List.cons_append, List.nil_append, Nat.add_left_cancel_iff, Nat.left_eq_add, Nat.add_eq_left, Nat.reduceEqDiff, if_true, if_false, ite_true, ite_false, false_and, and_false, false_or, or_false, reduceIte, reduceCtorEq, and_self, z_4, z_5, z_7, z_8, z_10, z_16, z_20, z_64, not_false_eq_true, s0, s6, n1, cc, c1, tr, tc, c_isPieceI tc T N, ev, Option.isSome_none, Bool.false_eq_true, not_true_eq_false]
      | some j =>
        obtain ⟨jp, rfl⟩ := vI_some (by omega) ev
        dsimp only
        rw [if_neg q]
        have hin : pz_in (nI j) 64 = true := pz_in_nI (by omega) (by decide)
        have hcl := nI_clamp (show j < 2 ^ 31 by omega)
        simp only [enX9_piece, uX9_piece_0, uX9_piece_0o, uX9_piece_0f, uX9_piece_1, uX9_piece_4, uX9_piece_5, uX9_piece_8, uX9_piece_8o, uX9_piece_9, uX9_piece_9o, uX9_piece_9f, uX9_piece_10, uX9_piece_10a, uX9_piece_13, uX9_piece_13o, uX9_piece_13f, uX9_piece_14, uX9_piece_17, uX9_piece_20, uX9_piece_21, uX9_piece_22, uX9_piece_25, uX9_piece_28, uX9_piece_29, uX9_piece_30, uX9_piece_30o, uX9_piece_30f, uX9_piece_31, uX9_piece_32, uX9_piece_35, uX9_piece_38, uX9_piece_39, uX9_piece_40, uX9_piece_40o, uX9_piece_40f, uX9_piece_41, uX9_piece_44, uX9_piece_45, uX9_piece_46, uX9_piece_49, uX9_piece_50, uX9_piece_53, uX9_piece_54, pq_C_sI, pq_C_sJ, pq_C_sR, pq_C_sA, pq_L_sI, pq_L_sJ, pq_L_sR, pq_L_sA, pq_I_sI, pq_I_sJ, pq_I_sR, pq_I_sA, pq_J_sI, pq_J_sJ, pq_J_sR, pq_J_sA, pq_R_sI, pq_R_sJ, pq_R_sR, pq_R_sA, pq_N_sI, pq_N_sJ, pq_N_sR, pq_N_sA, pq_S_sI, pq_S_sJ, pq_S_sR, pq_S_sA, pz_rf_s, pz_cut_i, pz_cut_r, pz_cut_n, pz_cut_f, pz_cut_u, pz_cut_o, true_and, and_true, true_or, or_true, Option.toList_some, Option.toList_none, List.cons_append, List.nil_append, Nat.add_left_cancel_iff, Nat.left_eq_add, Nat.add_eq_left, Nat.reduceEqDiff, if_true, if_false, ite_true, ite_false, false_and, and_false, false_or, or_false, reduceIte, reduceCtorEq, and_self, z_4, z_5, z_7, z_8, z_10, z_16, z_20, z_64, not_false_eq_true, s0, s6, n1, cc, c1, c3, c4, c5, tr, tc, c_isPieceI tc T N, ev, Option.isSome_some, show ¬ (1 : Int32) = 0 by decide, c_hasPiece (CL_of R x4).1 bits (show j < 64 by omega), hin, hcl]
        by_cases q2 : sB A 20 (64 * x + j) = 0
        · rw [if_pos (by unfold bz; rw [if_pos q2]), if_neg (show ¬ sB A 20 (64 * x + j) ≠ 0 from fun z => z q2)]
          obtain ⟨m, m1, m2, m3⟩ := cb j (by omega)
          rw [m2]
          have hck := (I.2 x x4 q).2
          have key : nI m = 0 ↔ ¬ anyN (fun k => sB A 21 (1024 * x + 16 * j + k) ≠ 0) (nbl l c p j) = true := by
            rw [anyN_iff]
            constructor
            · intro z
              have z0 : m = 0 := (nI_eq (b := 0) (by omega) (by decide)).mp z
              rintro ⟨k, k1, k2⟩
              have hk := (nbl_le N jp).1
              have := m3 k (by omega)
              rw [z0, Nat.zero_testBit, decide_eq_true k2] at this
              exact absurd this (by decide)
            · intro z
              have : m = 0 := by
                apply Nat.eq_of_testBit_eq
                intro i
                rw [Nat.zero_testBit]
                by_cases i16 : i < 16
                · rw [m3 i i16]
                  refine decide_eq_false (fun y => z ⟨i, ?_, y⟩)
                  have := hck (16 * j + i) (by omega) (by rw [← Nat.add_assoc]; exact y)
                  rw [show (16 * j + i) / 16 = j by omega, show (16 * j + i) % 16 = i by omega] at this
                  exact this.2
                · exact Nat.testBit_lt_two_pow (Nat.lt_of_lt_of_le m1 (Nat.pow_le_pow_right (n := 2) (i := 16) (by decide) (by omega)))
              rw [this]
              rfl
          by_cases q3 : anyN (fun k => sB A 21 (1024 * x + 16 * j + k) ≠ 0) (nbl l c p j) = true
          · rw [if_neg (fun z => key.mp z q3), if_pos q3]
          · rw [if_pos (key.mpr q3), if_neg q3]
        · rw [if_neg (by unfold bz; rw [if_neg q2]; decide), if_pos (show sB A 20 (64 * x + j) ≠ 0 from q2)]
end
