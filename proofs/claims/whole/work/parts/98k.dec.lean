/-! ===== the class: addDecimal, writeMetainfo ===== -/
theorem lg_pow {v : Nat} (h : v < 10000) : (∀ k, k < lg v → 10 ^ (k + 1) ≤ v) ∧ v < 10 ^ (lg v + 1) := by
  have p1 : (10 : Nat) ^ 1 = 10 := rfl
  have p2 : (10 : Nat) ^ 2 = 100 := rfl
  have p3 : (10 : Nat) ^ 3 = 1000 := rfl
  have p4 : (10 : Nat) ^ 4 = 10000 := rfl
  unfold lg
  by_cases h1 : v < 10
  · rw [if_pos h1]
    exact ⟨fun k hk => by omega, by omega⟩
  · rw [if_neg h1]
    by_cases h2 : v < 100
    · rw [if_pos h2]
      refine ⟨fun k hk => ?_, by omega⟩
      have : k = 0 := by omega
      subst this
      omega
    · rw [if_neg h2]
      by_cases h3 : v < 1000
      · rw [if_pos h3]
        refine ⟨fun k hk => ?_, by omega⟩
        have : k = 0 ∨ k = 1 := by omega
        rcases this with rfl | rfl <;> omega
      · rw [if_neg h3]
        refine ⟨fun k hk => ?_, by omega⟩
        have : k = 0 ∨ k = 1 ∨ k = 2 := by omega
        rcases this with rfl | rfl | rfl <;> omega
theorem pow_3 {k : Nat} (h : k ≤ 3) : 1 ≤ 10 ^ k ∧ 10 ^ k ≤ 1000 := by
  have : k = 0 ∨ k = 1 ∨ k = 2 ∨ k = 3 := by omega
  rcases this with rfl | rfl | rfl | rfl <;> decide
section
variable {d : Nat} {h h' : PzH} {Q : Option Value → PzH → Prop} {r a cap : Nat} {l : List Int8}
theorem dec_1 {v : Nat} (hv : v < 10000) : ∀ m k, k + m = lg v → (wp d mX6_addDecimal 4 [.ref r, .int (nI v), .int (nI (10 ^ k)), .int (nI k)] [] h Q ↔ wp d mX6_addDecimal 29 [.ref r, .int (nI v), .int (nI (10 ^ lg v)), .int (nI (lg v))] [] h Q) := by
  obtain ⟨g1, g2⟩ := lg_pow hv
  have g3 := lg_le (v := v)
  have ed : nI v / 10 = nI (v / 10) := pk_div (a := v) (d := 10) (by omega) (by decide) (by decide)
  intro m
  induction m with
  | zero =>
    intro k hk
    have e : k = lg v := by omega
    subst e
    have p3 := pow_3 g3
    rw [uX6_addDecimal_4]
    simp only [enX6_addDecimal, uX6_addDecimal_0, uX6_addDecimal_1, uX6_addDecimal_2, uX6_addDecimal_3, uX6_addDecimal_5, uX6_addDecimal_7, uX6_addDecimal_10, uX6_addDecimal_11, uX6_addDecimal_12, uX6_addDecimal_14, uX6_addDecimal_15, uX6_addDecimal_18, uX6_addDecimal_19, uX6_addDecimal_21, uX6_addDecimal_22, uX6_addDecimal_23, uX6_addDecimal_26, uX6_addDecimal_30, uX6_addDecimal_33, uX6_addDecimal_33o, uX6_addDecimal_33f, uX6_addDecimal_34, uX6_addDecimal_36, uX6_addDecimal_37, uX6_addDecimal_38, uX6_addDecimal_39, uX6_addDecimal_41, uX6_addDecimal_42, uX6_addDecimal_43, uX6_addDecimal_46, uX6_addDecimal_47, uX6_addDecimal_49, uX6_addDecimal_50, uX6_addDecimal_51, uX6_addDecimal_54, pq_C_sI, pq_C_sJ, pq_C_sR, pq_C_sA, pq_L_sI, pq_L_sJ, pq_L_sR, pq_L_sA, pq_I_sI, pq_I_sJ, pq_I_sR, pq_I_sA, pq_J_sI, pq_J_sJ, pq_J_sR, pq_J_sA, pq_R_sI, pq_R_sJ, pq_R_sR, pq_R_sA, pq_N_sI, pq_N_sJ, pq_N_sR, pq_N_sA, pq_S_sI, pq_S_sJ, pq_S_sR, pq_S_sA, pz_rf_s, pz_cut_i, pz_cut_r, pz_cut_n, pz_cut_f, pz_cut_u, pz_cut_o, true_and, and_true, true_or, or_true, Option.toList_some, Option.toList_none, List.cons_append, List.nil_append, Nat.add_left_cancel_iff, Nat.left_eq_add, Nat.add_eq_left, Nat.reduceEqDiff, if_true, if_false, ite_true, ite_false, false_and, and_false, false_or, or_false, reduceIte, reduceCtorEq, and_self, z_4, z_5, z_7, z_8, z_10, z_16, z_20, z_64, not_false_eq_true, ed]
    rw [if_neg (show ¬ (8 : Int32) ≤ nI (lg v) from nI_ge (b := 8) (by omega) (by decide)), if_pos]
    refine nI_lt ?_ (by omega)
    rw [Nat.pow_succ] at g2
    omega
  | succ m ih =>
    intro k hk
    have p3 := pow_3 (k := k) (by omega)
    have gk := g1 k (by omega)
    rw [Nat.pow_succ] at gk
    have em : nI (10 ^ k) * 10 = nI (10 ^ (k + 1)) := by rw [Nat.pow_succ]; exact pk_mul _ 10
    rw [uX6_addDecimal_4]
    simp only [enX6_addDecimal, uX6_addDecimal_0, uX6_addDecimal_1, uX6_addDecimal_2, uX6_addDecimal_3, uX6_addDecimal_5, uX6_addDecimal_7, uX6_addDecimal_10, uX6_addDecimal_11, uX6_addDecimal_12, uX6_addDecimal_14, uX6_addDecimal_15, uX6_addDecimal_18, uX6_addDecimal_19, uX6_addDecimal_21, uX6_addDecimal_22, uX6_addDecimal_23, uX6_addDecimal_26, uX6_addDecimal_30, uX6_addDecimal_33, uX6_addDecimal_33o, uX6_addDecimal_33f, uX6_addDecimal_34, uX6_addDecimal_36, uX6_addDecimal_37, uX6_addDecimal_38, uX6_addDecimal_39, uX6_addDecimal_41, uX6_addDecimal_42, uX6_addDecimal_43, uX6_addDecimal_46, uX6_addDecimal_47, uX6_addDecimal_49, uX6_addDecimal_50, uX6_addDecimal_51, uX6_addDecimal_54, pq_C_sI, pq_C_sJ, pq_C_sR, pq_C_sA, pq_L_sI, pq_L_sJ, pq_L_sR, pq_L_sA, pq_I_sI, pq_I_sJ, pq_I_sR, pq_I_sA, pq_J_sI, pq_J_sJ, pq_J_sR, pq_J_sA, pq_R_sI, pq_R_sJ, pq_R_sR, pq_R_sA, pq_N_sI, pq_N_sJ, pq_N_sR, pq_N_sA, pq_S_sI, pq_S_sJ, pq_S_sR, pq_S_sA, pz_rf_s, pz_cut_i, pz_cut_r, pz_cut_n, pz_cut_f, pz_cut_u, pz_cut_o, true_and, and_true, true_or, or_true, Option.toList_some, Option.toList_none, List.cons_append, List.nil_append, Nat.add_left_cancel_iff, Nat.left_eq_add, Nat.add_eq_left, Nat.reduceEqDiff, if_true, if_false, ite_true, ite_false, false_and, and_false, false_or, or_false, reduceIte, reduceCtorEq, and_self, z_4, z_5, z_7, z_8, z_10, z_16, z_20, z_64, not_false_eq_true, ed, em, nI_1]
    rw [if_neg (show ¬ (8 : Int32) ≤ nI k from nI_ge (b := 8) (by omega) (by decide)), if_neg (nI_nlt (by omega) (by omega))]
    exact ih (k + 1) (by omega)
theorem dec_2 {v : Nat} (hv : v < 10000) {v3 : Int32} : ∀ (j : Nat) (h : PzH) (l : List Int8), j ≤ lg v → ROW h r a cap l → l.length + j + 1 ≤ cap → (∀ h', HF [r, a] h h' → ROW h' r a cap (l ++ ofF (fun i => (nI (48 + v / 10 ^ (j - i) % 10)).toInt8) (j + 1)) → Q none h') → wp (d + 2) mX6_addDecimal 29 [.ref r, .int (nI v), .int (nI (10 ^ j)), .int v3] [] h Q := by
  have g3 := lg_le (v := v)
  intro j
  induction j with
  | zero =>
    intro h l hj W hl K
    have ez : ¬ nI (10 ^ 0) = 0 := by decide
    have e1 : nI v / nI (10 ^ 0) = nI v := by
      rw [show (10 : Nat) ^ 0 = 1 from rfl, pk_div (by omega) (by decide) (by decide), Nat.div_one]
    have e2 : nI v - nI v / 10 * 10 = nI (v % 10) := pk_rem (a := v) (d := 10) (by omega) (by decide) (by decide)
    have W1 := W.1
    rw [uX6_addDecimal_29]
    simp only [enX6_addDecimal, uX6_addDecimal_0, uX6_addDecimal_1, uX6_addDecimal_2, uX6_addDecimal_3, uX6_addDecimal_5, uX6_addDecimal_7, uX6_addDecimal_10, uX6_addDecimal_11, uX6_addDecimal_12, uX6_addDecimal_14, uX6_addDecimal_15, uX6_addDecimal_18, uX6_addDecimal_19, uX6_addDecimal_21, uX6_addDecimal_22, uX6_addDecimal_23, uX6_addDecimal_26, uX6_addDecimal_30, uX6_addDecimal_33, uX6_addDecimal_33o, uX6_addDecimal_33f, uX6_addDecimal_34, uX6_addDecimal_36, uX6_addDecimal_37, uX6_addDecimal_38, uX6_addDecimal_39, uX6_addDecimal_41, uX6_addDecimal_42, uX6_addDecimal_43, uX6_addDecimal_46, uX6_addDecimal_47, uX6_addDecimal_49, uX6_addDecimal_50, uX6_addDecimal_51, uX6_addDecimal_54, pq_C_sI, pq_C_sJ, pq_C_sR, pq_C_sA, pq_L_sI, pq_L_sJ, pq_L_sR, pq_L_sA, pq_I_sI, pq_I_sJ, pq_I_sR, pq_I_sA, pq_J_sI, pq_J_sJ, pq_J_sR, pq_J_sA, pq_R_sI, pq_R_sJ, pq_R_sR, pq_R_sA, pq_N_sI, pq_N_sJ, pq_N_sR, pq_N_sA, pq_S_sI, pq_S_sJ, pq_S_sR, pq_S_sA, pz_rf_s, pz_cut_i, pz_cut_r, pz_cut_n, pz_cut_f, pz_cut_u, pz_cut_o, true_and, and_true, true_or, or_true, Option.toList_some, Option.toList_none, List.cons_append, List.nil_append, Nat.add_left_cancel_iff, Nat.left_eq_add, Nat.add_eq_left, Nat.reduceEqDiff, if_true, if_false, ite_true, ite_false, false_and, and_false, false_or, or_false, reduceIte, reduceCtorEq, and_self, z_4, z_5, z_7, z_8, z_10, z_16, z_20, z_64, not_false_eq_true, uX6_addDecimal_38 ez, e1, e2, W1, show (48 : Int32) + nI (v % 10) = nI (48 + v % 10) from nI_add 48 _]
    rw [if_neg (show ¬ nI (10 ^ 0) ≤ 0 by decide)]
    refine c_add W (by omega) (fun h1 F1 X1 => ?_)
    simp only [enX6_addDecimal, uX6_addDecimal_0, uX6_addDecimal_1, uX6_addDecimal_2, uX6_addDecimal_3, uX6_addDecimal_5, uX6_addDecimal_7, uX6_addDecimal_10, uX6_addDecimal_11, uX6_addDecimal_12, uX6_addDecimal_14, uX6_addDecimal_15, uX6_addDecimal_18, uX6_addDecimal_19, uX6_addDecimal_21, uX6_addDecimal_22, uX6_addDecimal_23, uX6_addDecimal_26, uX6_addDecimal_30, uX6_addDecimal_33, uX6_addDecimal_33o, uX6_addDecimal_33f, uX6_addDecimal_34, uX6_addDecimal_36, uX6_addDecimal_37, uX6_addDecimal_38, uX6_addDecimal_39, uX6_addDecimal_41, uX6_addDecimal_42, uX6_addDecimal_43, uX6_addDecimal_46, uX6_addDecimal_47, uX6_addDecimal_49, uX6_addDecimal_50, uX6_addDecimal_51, uX6_addDecimal_54, pq_C_sI, pq_C_sJ, pq_C_sR, pq_C_sA, pq_L_sI, pq_L_sJ, pq_L_sR, pq_L_sA, pq_I_sI, pq_I_sJ, pq_I_sR, pq_I_sA, pq_J_sI, pq_J_sJ, pq_J_sR, pq_J_sA, pq_R_sI, pq_R_sJ, pq_R_sR, pq_R_sA, pq_N_sI, pq_N_sJ, pq_N_sR, pq_N_sA, pq_S_sI, pq_S_sJ, pq_S_sR, pq_S_sA, pz_rf_s, pz_cut_i, pz_cut_r, pz_cut_n, pz_cut_f, pz_cut_u, pz_cut_o, true_and, and_true, true_or, or_true, Option.toList_some, Option.toList_none, List.cons_append, List.nil_append, Nat.add_left_cancel_iff, Nat.left_eq_add, Nat.add_eq_left, Nat.reduceEqDiff, if_true, if_false, ite_true, ite_false, false_and, and_false, false_or, or_false, reduceIte, reduceCtorEq, and_self, z_4, z_5, z_7, z_8, z_10, z_16, z_20, z_64, not_false_eq_true, show nI (10 ^ 0) / 10 = 0 by decide]
    rw [uX6_addDecimal_29]
    simp only [enX6_addDecimal, uX6_addDecimal_0, uX6_addDecimal_1, uX6_addDecimal_2, uX6_addDecimal_3, uX6_addDecimal_5, uX6_addDecimal_7, uX6_addDecimal_10, uX6_addDecimal_11, uX6_addDecimal_12, uX6_addDecimal_14, uX6_addDecimal_15, uX6_addDecimal_18, uX6_addDecimal_19, uX6_addDecimal_21, uX6_addDecimal_22, uX6_addDecimal_23, uX6_addDecimal_26, uX6_addDecimal_30, uX6_addDecimal_33, uX6_addDecimal_33o, uX6_addDecimal_33f, uX6_addDecimal_34, uX6_addDecimal_36, uX6_addDecimal_37, uX6_addDecimal_38, uX6_addDecimal_39, uX6_addDecimal_41, uX6_addDecimal_42, uX6_addDecimal_43, uX6_addDecimal_46, uX6_addDecimal_47, uX6_addDecimal_49, uX6_addDecimal_50, uX6_addDecimal_51, uX6_addDecimal_54, pq_C_sI, pq_C_sJ, pq_C_sR, pq_C_sA, pq_L_sI, pq_L_sJ, pq_L_sR, pq_L_sA, pq_I_sI, pq_I_sJ, pq_I_sR, pq_I_sA, pq_J_sI, pq_J_sJ, pq_J_sR, pq_J_sA, pq_R_sI, pq_R_sJ, pq_R_sR, pq_R_sA, pq_N_sI, pq_N_sJ, pq_N_sR, pq_N_sA, pq_S_sI, pq_S_sJ, pq_S_sR, pq_S_sA, pz_rf_s, pz_cut_i, pz_cut_r, pz_cut_n, pz_cut_f, pz_cut_u, pz_cut_o, true_and, and_true, true_or, or_true, Option.toList_some, Option.toList_none, List.cons_append, List.nil_append, Nat.add_left_cancel_iff, Nat.left_eq_add, Nat.add_eq_left, Nat.reduceEqDiff, if_true, if_false, ite_true, ite_false, false_and, and_false, false_or, or_false, reduceIte, reduceCtorEq, and_self, z_4, z_5, z_7, z_8, z_10, z_16, z_20, z_64, not_false_eq_true]
    rw [if_pos (by decide)]
    refine K h1 F1 ?_
    have e3 : ofF (fun i => (nI (48 + v / 10 ^ (0 - i) % 10)).toInt8) (0 + 1) = [(nI (48 + v % 10)).toInt8] := by
      rw [ofF_s, ofF_0, List.nil_append, show 0 - 0 = 0 from rfl, show (10 : Nat) ^ 0 = 1 from rfl, Nat.div_one]
    rw [e3]
    exact X1
  | succ j ih =>
    intro h l hj W hl K
    have p3 := pow_3 (k := j + 1) (by omega)
    have p3' := pow_3 (k := j) (by omega)
    have ez : ¬ nI (10 ^ (j + 1)) = 0 := nI_ne0 (by omega) (by omega)
    have e1 : nI v / nI (10 ^ (j + 1)) = nI (v / 10 ^ (j + 1)) := pk_div (by omega) (by omega) (by omega)
    have vle : v / 10 ^ (j + 1) ≤ v := Nat.div_le_self _ _
    have e2 : nI (v / 10 ^ (j + 1)) - nI (v / 10 ^ (j + 1)) / 10 * 10 = nI (v / 10 ^ (j + 1) % 10) := pk_rem (a := v / 10 ^ (j + 1)) (d := 10) (by omega) (by decide) (by decide)
    have e3 : nI (10 ^ (j + 1)) / 10 = nI (10 ^ j) := by
      have := pk_div (a := 10 ^ (j + 1)) (d := 10) (by omega) (by decide) (by decide)
      rw [Nat.pow_succ, Nat.mul_div_cancel _ (by decide)] at this
      rw [Nat.pow_succ]
      exact this
    have W1 := W.1
    rw [uX6_addDecimal_29]
    simp only [enX6_addDecimal, uX6_addDecimal_0, uX6_addDecimal_1, uX6_addDecimal_2, uX6_addDecimal_3, uX6_addDecimal_5, uX6_addDecimal_7, uX6_addDecimal_10, uX6_addDecimal_11, uX6_addDecimal_12, uX6_addDecimal_14, uX6_addDecimal_15, uX6_addDecimal_18, uX6_addDecimal_19, uX6_addDecimal_21, uX6_addDecimal_22, uX6_addDecimal_23, uX6_addDecimal_26, uX6_addDecimal_30, uX6_addDecimal_33, uX6_addDecimal_33o, uX6_addDecimal_33f, uX6_addDecimal_34, uX6_addDecimal_36, uX6_addDecimal_37, uX6_addDecimal_38, uX6_addDecimal_39, uX6_addDecimal_41, uX6_addDecimal_42, uX6_addDecimal_43, uX6_addDecimal_46, uX6_addDecimal_47, uX6_addDecimal_49, uX6_addDecimal_50, uX6_addDecimal_51, uX6_addDecimal_54, pq_C_sI, pq_C_sJ, pq_C_sR, pq_C_sA, pq_L_sI, pq_L_sJ, pq_L_sR, pq_L_sA, pq_I_sI, pq_I_sJ, pq_I_sR, pq_I_sA, pq_J_sI, pq_J_sJ, pq_J_sR, pq_J_sA, pq_R_sI, pq_R_sJ, pq_R_sR, pq_R_sA, pq_N_sI, pq_N_sJ, pq_N_sR, pq_N_sA, pq_S_sI, pq_S_sJ, pq_S_sR, pq_S_sA, pz_rf_s, pz_cut_i, pz_cut_r, pz_cut_n, pz_cut_f, pz_cut_u, pz_cut_o, true_and, and_true, true_or, or_true, Option.toList_some, Option.toList_none, List.cons_append, List.nil_append, Nat.add_left_cancel_iff, Nat.left_eq_add, Nat.add_eq_left, Nat.reduceEqDiff, if_true, if_false, ite_true, ite_false, false_and, and_false, false_or, or_false, reduceIte, reduceCtorEq, and_self, z_4, z_5, z_7, z_8, z_10, z_16, z_20, z_64, not_false_eq_true, uX6_addDecimal_38 ez, e1, e2, W1, show (48 : Int32) + nI (v / 10 ^ (j + 1) % 10) = nI (48 + v / 10 ^ (j + 1) % 10) from nI_add 48 _]
    rw [if_neg (nI_nle (by omega) (by omega))]
    refine c_add W (by omega) (fun h1 F1 X1 => ?_)
    simp only [enX6_addDecimal, uX6_addDecimal_0, uX6_addDecimal_1, uX6_addDecimal_2, uX6_addDecimal_3, uX6_addDecimal_5, uX6_addDecimal_7, uX6_addDecimal_10, uX6_addDecimal_11, uX6_addDecimal_12, uX6_addDecimal_14, uX6_addDecimal_15, uX6_addDecimal_18, uX6_addDecimal_19, uX6_addDecimal_21, uX6_addDecimal_22, uX6_addDecimal_23, uX6_addDecimal_26, uX6_addDecimal_30, uX6_addDecimal_33, uX6_addDecimal_33o, uX6_addDecimal_33f, uX6_addDecimal_34, uX6_addDecimal_36, uX6_addDecimal_37, uX6_addDecimal_38, uX6_addDecimal_39, uX6_addDecimal_41, uX6_addDecimal_42, uX6_addDecimal_43, uX6_addDecimal_46, uX6_addDecimal_47, uX6_addDecimal_49, uX6_addDecimal_50, uX6_addDecimal_51, uX6_addDecimal_54, pq_C_sI, pq_C_sJ, pq_C_sR, pq_C_sA, pq_L_sI, pq_L_sJ, pq_L_sR, pq_L_sA, pq_I_sI, pq_I_sJ, pq_I_sR, pq_I_sA, pq_J_sI, pq_J_sJ, pq_J_sR, pq_J_sA, pq_R_sI, pq_R_sJ, pq_R_sR, pq_R_sA, pq_N_sI, pq_N_sJ, pq_N_sR, pq_N_sA, pq_S_sI, pq_S_sJ, pq_S_sR, pq_S_sA, pz_rf_s, pz_cut_i, pz_cut_r, pz_cut_n, pz_cut_f, pz_cut_u, pz_cut_o, true_and, and_true, true_or, or_true, Option.toList_some, Option.toList_none, List.cons_append, List.nil_append, Nat.add_left_cancel_iff, Nat.left_eq_add, Nat.add_eq_left, Nat.reduceEqDiff, if_true, if_false, ite_true, ite_false, false_and, and_false, false_or, or_false, reduceIte, reduceCtorEq, and_self, z_4, z_5, z_7, z_8, z_10, z_16, z_20, z_64, not_false_eq_true, e3]
    refine ih h1 _ (by omega) X1 (by rw [List.length_append]; simp; omega) (fun h2 F2 X2 => K h2 (HF_trans F1 F2) ?_)
    have e4 : l ++ ofF (fun i => (nI (48 + v / 10 ^ (j + 1 - i) % 10)).toInt8) (j + 1 + 1) = l ++ [(nI (48 + v / 10 ^ (j + 1) % 10)).toInt8] ++ ofF (fun i => (nI (48 + v / 10 ^ (j - i) % 10)).toInt8) (j + 1) := by
      rw [List.append_assoc]
      congr 1
      unfold ofF
      rw [List.range_succ_eq_map, List.map_cons, List.map_map]
      show _ :: _ = _ :: _
      congr 1
      apply List.map_congr_left
      intro i hi
      show (nI (48 + v / 10 ^ (j + 1 - (i + 1)) % 10)).toInt8 = _
      rw [show j + 1 - (i + 1) = j - i by omega]
    rw [e4]
    exact X2
theorem c_addDecimal {v : Nat} (W : ROW h r a cap l) (hv : v < 10000) (hl : l.length + 4 ≤ cap) (K : ∀ h', HF [r, a] h h' → ROW h' r a cap (l ++ decL v) → Q none h') : pz_M (d + 3) mX6_addDecimal [.ref r, .int (nI v)] h Q := by
  have g3 := lg_le (v := v)
  simp only [enX6_addDecimal, uX6_addDecimal_0, uX6_addDecimal_1, uX6_addDecimal_2, uX6_addDecimal_3, uX6_addDecimal_5, uX6_addDecimal_7, uX6_addDecimal_10, uX6_addDecimal_11, uX6_addDecimal_12, uX6_addDecimal_14, uX6_addDecimal_15, uX6_addDecimal_18, uX6_addDecimal_19, uX6_addDecimal_21, uX6_addDecimal_22, uX6_addDecimal_23, uX6_addDecimal_26, uX6_addDecimal_29, uX6_addDecimal_30, uX6_addDecimal_33, uX6_addDecimal_33o, uX6_addDecimal_33f, uX6_addDecimal_34, uX6_addDecimal_36, uX6_addDecimal_37, uX6_addDecimal_38, uX6_addDecimal_39, uX6_addDecimal_41, uX6_addDecimal_42, uX6_addDecimal_43, uX6_addDecimal_46, uX6_addDecimal_47, uX6_addDecimal_49, uX6_addDecimal_50, uX6_addDecimal_51, uX6_addDecimal_54, pq_C_sI, pq_C_sJ, pq_C_sR, pq_C_sA, pq_L_sI, pq_L_sJ, pq_L_sR, pq_L_sA, pq_I_sI, pq_I_sJ, pq_I_sR, pq_I_sA, pq_J_sI, pq_J_sJ, pq_J_sR, pq_J_sA, pq_R_sI, pq_R_sJ, pq_R_sR, pq_R_sA, pq_N_sI, pq_N_sJ, pq_N_sR, pq_N_sA, pq_S_sI, pq_S_sJ, pq_S_sR, pq_S_sA, pz_rf_s, pz_cut_i, pz_cut_r, pz_cut_n, pz_cut_f, pz_cut_u, pz_cut_o, true_and, and_true, true_or, or_true, Option.toList_some, Option.toList_none, List.cons_append, List.nil_append, Nat.add_left_cancel_iff, Nat.left_eq_add, Nat.add_eq_left, Nat.reduceEqDiff, if_true, if_false, ite_true, ite_false, false_and, and_false, false_or, or_false, reduceIte, reduceCtorEq, and_self, z_4, z_5, z_7, z_8, z_10, z_16, z_20, z_64, not_false_eq_true]
  refine (show _ ↔ _ from dec_1 (k := 0) hv (lg v) (by omega)).mpr ?_
  exact dec_2 hv (lg v) h l (Nat.le_refl _) W (by omega) K
end
