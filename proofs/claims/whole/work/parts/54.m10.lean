/-! ===== the reference: behind ===== -/
section
variable {d : Nat} {h : PzH} {Q : Option Value → PzH → Prop} {mo : Nat} {g : Nat → Nat → Int32} {x : Nat → Nat} {n : Nat} {p : Nat}
theorem nuF_e (hx : x p = 105) (h : nuF x p = none) : (∀ i, p ≤ i → i + 1 < nuEnd x p → x i ≠ 101) ∧ x (nuEnd x p - 1) = 101 ∧ p + 1 < nuEnd x p := by
  unfold nuF at h
  split at h
  · exact absurd h (by simp)
  · by_cases h1 : dgo x (nuQ x p) 9 101 = true
    · obtain ⟨a1, a2, a3, a4⟩ := dgo_SK (by omega) h1
      have h3 : p < nuQ x p := by
        unfold nuQ
        split <;> omega
      refine ⟨fun i h4 h5 => ?_, ?_, ?_⟩
      · unfold nuEnd at h5
        by_cases h6 : nuQ x p ≤ i
        · have := a3 (i - nuQ x p) (by omega)
          rw [show nuQ x p + (i - nuQ x p) = i by omega] at this
          unfold dg at this
          omega
        · by_cases h7 : i = p
          · subst h7
            omega
          · unfold nuQ at h6
            split at h6
            · have : i = p + 1 := by omega
              subst this
              omega
            · omega
      · unfold nuEnd
        rw [Nat.add_sub_cancel]
        exact a4
      · unfold nuEnd
        omega
    · rw [if_neg h1] at h
      exact absurd h (by simp)
theorem bh_i (H : MO h mo) (T : TX (g 1) n x) {D : Int32} {e q : Nat} (hq : q ≤ e) (h1 : ∀ i, q ≤ i → i < e → x i ≠ 101) (h2 : x e = 101) {v5 : Value} : wp d mX10_behind 27 [.ref mo, .int (nI p), .int (nI q), .int D, .int 1, v5] [] (mh h mo g) Q ↔ wp d mX10_behind 27 [.ref mo, .int (nI p), .int (nI e), .int D, .int 1, v5] [] (mh h mo g) Q := by
  have hn := T.1
  have he := TX_lt T (show x e < 256 by omega)
  have key := wp_for (d := d) (m := mX10_behind) (pc := 27) (Q := Q) (fun _ => mh h mo g) (fun i => [.ref mo, .int (nI p), .int (nI (q + i)), .int D, .int 1, v5]) (e - q) (fun i hi => by
    obtain ⟨t1, t2⟩ := (T.2 (q + i)).1 (by omega)
    rw [uX10_behind_27]
    simp only [enX10_behind, uX10_behind_0, uX10_behind_1, uX10_behind_2, uX10_behind_3, uX10_behind_4, uX10_behind_5, uX10_behind_9, uX10_behind_12, uX10_behind_12o, uX10_behind_12f, uX10_behind_13, uX10_behind_16, uX10_behind_17, uX10_behind_18, uX10_behind_20, uX10_behind_22, uX10_behind_24, uX10_behind_28, uX10_behind_31, uX10_behind_32, uX10_behind_33, uX10_behind_35, uX10_behind_38, uX10_behind_41, uX10_behind_44, uX10_behind_47, uX10_behind_50, uX10_behind_52, uX10_behind_55, uX10_behind_58, uX10_behind_58o, uX10_behind_58f, uX10_behind_59, uX10_behind_60, uX10_behind_63, uX10_behind_63o, uX10_behind_63f, uX10_behind_64, uX10_behind_65, uX10_behind_68, uX10_behind_69, uX10_behind_70, uX10_behind_73, uX10_behind_74, uX10_behind_76, uX10_behind_78, uX10_behind_81, uX10_behind_82, uX10_behind_85, uX10_behind_86, uX10_behind_87, uX10_behind_88, uX10_behind_91, uX10_behind_92, uX10_behind_95, uX10_behind_96, uX10_behind_99, uX10_behind_100, uX10_behind_102, uX10_behind_105, uX10_behind_106, mo_C H, mo_R_tape H, mo_C_tape H, mo_L_tape H, pq_C_sI, pq_C_sJ, pq_C_sR, pq_C_sA, pq_L_sI, pq_L_sJ, pq_L_sR, pq_L_sA, pq_I_sI, pq_I_sJ, pq_I_sR, pq_I_sA, pq_J_sI, pq_J_sJ, pq_J_sR, pq_J_sA, pq_R_sI, pq_R_sJ, pq_R_sR, pq_R_sA, pq_N_sI, pq_N_sJ, pq_N_sR, pq_N_sA, pq_S_sI, pq_S_sJ, pq_S_sR, pq_S_sA, pz_rf_s, pz_cut_i, pz_cut_r, pz_cut_n, pz_cut_f, pz_cut_u, pz_cut_o, true_and, and_true, true_or, or_true, Option.toList_some, Option.toList_none, List.cons_append, List.nil_append, Nat.add_left_cancel_iff, Nat.left_eq_add, Nat.add_eq_left, Nat.reduceEqDiff, if_true, if_false, ite_true, ite_false, false_and, and_false, false_or, or_false, reduceIte, reduceCtorEq, and_self, mh_C, mh_L, mh_R, mh_J, mh_I0, mh_I, mh_Ir, mh_sI0, mh_sI, mh_sA, gu_11, gu_22, gu_r, gu_21s, gu_21c, gu_22s, gu_11s, gu_11c, gu_22c, Nat.reduceLeDiff, Nat.reduceLT, ne_eq, not_false_eq_true, not_true_eq_false, Nat.reduceEqDiff, Nat.lt_irrefl, eq_self, z_4, z_5, z_7, z_8, z_10, z_16, z_20, z_64]
    simp (disch := omega) only [pz_in_nI, nI_clamp, true_and]
    rw [t1, if_neg (show ¬ b8 (x (q + i)) = 101 from fun r => h1 (q + i) (by omega) (by omega) ((b8_nI _ t2 101 (by omega)).mp r)), nI_1, Nat.add_assoc])
  rw [show q + (e - q) = e by omega] at key
  exact key
theorem bh_main (H : MO h mo) (T : TX (g 1) n x) : ∀ f md dp q e D v5, D + f < 2 ^ 30 → pv x n f md dp q = .ok e → (∀ v5', wp (d + 2) mX10_behind 7 [.ref mo, .int (nI p), .int (nI e), .int (nI D), .int (if D = 0 then 0 else 1), v5'] [] (mh h mo g) Q) → wp (d + 2) mX10_behind 7 [.ref mo, .int (nI p), .int (nI q), .int (nI (if md.isSome = true then D + 1 else D)), .int 1, v5] [] (mh h mo g) Q := by
  have hn := T.1
  have more : ∀ D, D < 2 ^ 31 → ∀ v5 q, (∀ v5', wp (d + 2) mX10_behind 7 [.ref mo, .int (nI p), .int (nI q), .int (nI D), .int (if D = 0 then 0 else 1), v5'] [] (mh h mo g) Q) → wp (d + 2) mX10_behind 91 [.ref mo, .int (nI p), .int (nI q), .int (nI D), .int 1, .int v5] [] (mh h mo g) Q := by
    intro D hD v5 q K
    simp only [enX10_behind, uX10_behind_0, uX10_behind_1, uX10_behind_2, uX10_behind_3, uX10_behind_4, uX10_behind_5, uX10_behind_9, uX10_behind_12, uX10_behind_12o, uX10_behind_12f, uX10_behind_13, uX10_behind_16, uX10_behind_17, uX10_behind_18, uX10_behind_20, uX10_behind_22, uX10_behind_24, uX10_behind_27, uX10_behind_27o, uX10_behind_27f, uX10_behind_28, uX10_behind_31, uX10_behind_32, uX10_behind_33, uX10_behind_35, uX10_behind_38, uX10_behind_41, uX10_behind_44, uX10_behind_47, uX10_behind_50, uX10_behind_52, uX10_behind_55, uX10_behind_58, uX10_behind_58o, uX10_behind_58f, uX10_behind_59, uX10_behind_60, uX10_behind_63, uX10_behind_63o, uX10_behind_63f, uX10_behind_64, uX10_behind_65, uX10_behind_68, uX10_behind_69, uX10_behind_70, uX10_behind_73, uX10_behind_74, uX10_behind_76, uX10_behind_78, uX10_behind_81, uX10_behind_82, uX10_behind_85, uX10_behind_86, uX10_behind_87, uX10_behind_88, uX10_behind_91, uX10_behind_92, uX10_behind_95, uX10_behind_96, uX10_behind_99, uX10_behind_100, uX10_behind_102, uX10_behind_105, uX10_behind_106, mo_C H, mo_R_tape H, mo_C_tape H, mo_L_tape H, pq_C_sI, pq_C_sJ, pq_C_sR, pq_C_sA, pq_L_sI, pq_L_sJ, pq_L_sR, pq_L_sA, pq_I_sI, pq_I_sJ, pq_I_sR, pq_I_sA, pq_J_sI, pq_J_sJ, pq_J_sR, pq_J_sA, pq_R_sI, pq_R_sJ, pq_R_sR, pq_R_sA, pq_N_sI, pq_N_sJ, pq_N_sR, pq_N_sA, pq_S_sI, pq_S_sJ, pq_S_sR, pq_S_sA, pz_rf_s, pz_cut_i, pz_cut_r, pz_cut_n, pz_cut_f, pz_cut_u, pz_cut_o, true_and, and_true, true_or, or_true, Option.toList_some, Option.toList_none, List.cons_append, List.nil_append, Nat.add_left_cancel_iff, Nat.left_eq_add, Nat.add_eq_left, Nat.reduceEqDiff, if_true, if_false, ite_true, ite_false, false_and, and_false, false_or, or_false, reduceIte, reduceCtorEq, and_self, mh_C, mh_L, mh_R, mh_J, mh_I0, mh_I, mh_Ir, mh_sI0, mh_sI, mh_sA, gu_11, gu_22, gu_r, gu_21s, gu_21c, gu_22s, gu_11s, gu_11c, gu_22c, Nat.reduceLeDiff, Nat.reduceLT, ne_eq, not_false_eq_true, not_true_eq_false, Nat.reduceEqDiff, Nat.lt_irrefl, eq_self, z_4, z_5, z_7, z_8, z_10, z_16, z_20, z_64]
    have := K (.int v5)
    by_cases h0 : D = 0
    · subst h0
      rw [if_pos (by decide)]
      exact this
    · rw [if_neg (nI_nle (by omega) hD)]
      rw [if_neg h0] at this
      exact this
  have str : ∀ q D v5, stF x n q = none → wp (d + 2) mX10_behind 91 [.ref mo, .int (nI p), .int (nI (stEnd x q)), .int (nI D), .int 1, .int (b8 (x q))] [] (mh h mo g) Q → wp (d + 2) mX10_behind 7 [.ref mo, .int (nI p), .int (nI q), .int (nI D), .int 1, v5] [] (mh h mo g) Q := by
    intro q D v5 hs K
    obtain ⟨a1, a2, a3⟩ := stF_SK hs
    have hd : dg (x q) := by
      have := a1.2.2.1 0 (by have := a1.1; omega)
      exact this
    have hq := TX_lt T (show x q < 256 by have := dg_lt hd; omega)
    obtain ⟨t1, t2⟩ := (T.2 q).1 hq
    have e1 : b8 (x q) = bI (x q) := by rw [b8_lo _ (dg_lt hd), bI, if_pos t2]
    rw [uX10_behind_7]
    simp only [enX10_behind, uX10_behind_0, uX10_behind_1, uX10_behind_2, uX10_behind_3, uX10_behind_4, uX10_behind_5, uX10_behind_9, uX10_behind_12, uX10_behind_12o, uX10_behind_12f, uX10_behind_13, uX10_behind_16, uX10_behind_17, uX10_behind_18, uX10_behind_20, uX10_behind_22, uX10_behind_24, uX10_behind_28, uX10_behind_31, uX10_behind_32, uX10_behind_33, uX10_behind_35, uX10_behind_38, uX10_behind_41, uX10_behind_44, uX10_behind_47, uX10_behind_50, uX10_behind_52, uX10_behind_55, uX10_behind_58, uX10_behind_58o, uX10_behind_58f, uX10_behind_59, uX10_behind_60, uX10_behind_63, uX10_behind_63o, uX10_behind_63f, uX10_behind_64, uX10_behind_65, uX10_behind_68, uX10_behind_69, uX10_behind_70, uX10_behind_73, uX10_behind_74, uX10_behind_76, uX10_behind_78, uX10_behind_81, uX10_behind_82, uX10_behind_85, uX10_behind_86, uX10_behind_87, uX10_behind_88, uX10_behind_92, uX10_behind_95, uX10_behind_96, uX10_behind_99, uX10_behind_100, uX10_behind_102, uX10_behind_105, uX10_behind_106, mo_C H, mo_R_tape H, mo_C_tape H, mo_L_tape H, pq_C_sI, pq_C_sJ, pq_C_sR, pq_C_sA, pq_L_sI, pq_L_sJ, pq_L_sR, pq_L_sA, pq_I_sI, pq_I_sJ, pq_I_sR, pq_I_sA, pq_J_sI, pq_J_sJ, pq_J_sR, pq_J_sA, pq_R_sI, pq_R_sJ, pq_R_sR, pq_R_sA, pq_N_sI, pq_N_sJ, pq_N_sR, pq_N_sA, pq_S_sI, pq_S_sJ, pq_S_sR, pq_S_sA, pz_rf_s, pz_cut_i, pz_cut_r, pz_cut_n, pz_cut_f, pz_cut_u, pz_cut_o, true_and, and_true, true_or, or_true, Option.toList_some, Option.toList_none, List.cons_append, List.nil_append, Nat.add_left_cancel_iff, Nat.left_eq_add, Nat.add_eq_left, Nat.reduceEqDiff, if_true, if_false, ite_true, ite_false, false_and, and_false, false_or, or_false, reduceIte, reduceCtorEq, and_self, mh_C, mh_L, mh_R, mh_J, mh_I0, mh_I, mh_Ir, mh_sI0, mh_sI, mh_sA, gu_11, gu_22, gu_r, gu_21s, gu_21c, gu_22s, gu_11s, gu_11c, gu_22c, Nat.reduceLeDiff, Nat.reduceLT, ne_eq, not_false_eq_true, not_true_eq_false, Nat.reduceEqDiff, Nat.lt_irrefl, eq_self, z_4, z_5, z_7, z_8, z_10, z_16, z_20, z_64]
    rw [if_neg (by decide)]
    simp (disch := omega) only [pz_in_nI, nI_clamp, true_and]
    rw [t1]
    rw [if_pos (show ¬ b8 (x q) = 105 from fun r => by have := (b8_nI _ t2 105 (by omega)).mp r; have := hd.2; omega)]
    rw [e1] at K ⊢
    rw [g_isDigit (TX_le T q)]
    simp only [enX10_behind, uX10_behind_0, uX10_behind_1, uX10_behind_2, uX10_behind_3, uX10_behind_4, uX10_behind_5, uX10_behind_9, uX10_behind_12, uX10_behind_12o, uX10_behind_12f, uX10_behind_13, uX10_behind_16, uX10_behind_17, uX10_behind_18, uX10_behind_20, uX10_behind_22, uX10_behind_24, uX10_behind_28, uX10_behind_31, uX10_behind_32, uX10_behind_33, uX10_behind_35, uX10_behind_38, uX10_behind_41, uX10_behind_44, uX10_behind_47, uX10_behind_50, uX10_behind_52, uX10_behind_55, uX10_behind_58, uX10_behind_58o, uX10_behind_58f, uX10_behind_59, uX10_behind_60, uX10_behind_63, uX10_behind_63o, uX10_behind_63f, uX10_behind_64, uX10_behind_65, uX10_behind_68, uX10_behind_69, uX10_behind_70, uX10_behind_73, uX10_behind_74, uX10_behind_76, uX10_behind_78, uX10_behind_81, uX10_behind_82, uX10_behind_85, uX10_behind_86, uX10_behind_87, uX10_behind_88, uX10_behind_92, uX10_behind_95, uX10_behind_96, uX10_behind_99, uX10_behind_100, uX10_behind_102, uX10_behind_105, uX10_behind_106, mo_C H, mo_R_tape H, mo_C_tape H, mo_L_tape H, pq_C_sI, pq_C_sJ, pq_C_sR, pq_C_sA, pq_L_sI, pq_L_sJ, pq_L_sR, pq_L_sA, pq_I_sI, pq_I_sJ, pq_I_sR, pq_I_sA, pq_J_sI, pq_J_sJ, pq_J_sR, pq_J_sA, pq_R_sI, pq_R_sJ, pq_R_sR, pq_R_sA, pq_N_sI, pq_N_sJ, pq_N_sR, pq_N_sA, pq_S_sI, pq_S_sJ, pq_S_sR, pq_S_sA, pz_rf_s, pz_cut_i, pz_cut_r, pz_cut_n, pz_cut_f, pz_cut_u, pz_cut_o, true_and, and_true, true_or, or_true, Option.toList_some, Option.toList_none, List.cons_append, List.nil_append, Nat.add_left_cancel_iff, Nat.left_eq_add, Nat.add_eq_left, Nat.reduceEqDiff, if_true, if_false, ite_true, ite_false, false_and, and_false, false_or, or_false, reduceIte, reduceCtorEq, and_self, mh_C, mh_L, mh_R, mh_J, mh_I0, mh_I, mh_Ir, mh_sI0, mh_sI, mh_sA, gu_11, gu_22, gu_r, gu_21s, gu_21c, gu_22s, gu_11s, gu_11c, gu_22c, Nat.reduceLeDiff, Nat.reduceLT, ne_eq, not_false_eq_true, not_true_eq_false, Nat.reduceEqDiff, Nat.lt_irrefl, eq_self, z_4, z_5, z_7, z_8, z_10, z_16, z_20, z_64, g_textAt H T a1, g_textSize H T a1]
    rw [if_pos hd, if_neg (by decide), nI_add]
    exact K
  have opn : ∀ q D v5, x q = 108 ∨ x q = 100 → wp (d + 2) mX10_behind 91 [.ref mo, .int (nI p), .int (nI (q + 1)), .int (nI (D + 1)), .int 1, .int (b8 (x q))] [] (mh h mo g) Q → wp (d + 2) mX10_behind 7 [.ref mo, .int (nI p), .int (nI q), .int (nI D), .int 1, v5] [] (mh h mo g) Q := by
    intro q D v5 hx K
    have hq := TX_lt T (show x q < 256 by omega)
    obtain ⟨t1, t2⟩ := (T.2 q).1 hq
    have e1 : b8 (x q) = bI (x q) := by rw [b8_lo _ (by omega), bI, if_pos t2]
    rw [uX10_behind_7]
    simp only [enX10_behind, uX10_behind_0, uX10_behind_1, uX10_behind_2, uX10_behind_3, uX10_behind_4, uX10_behind_5, uX10_behind_9, uX10_behind_12, uX10_behind_12o, uX10_behind_12f, uX10_behind_13, uX10_behind_16, uX10_behind_17, uX10_behind_18, uX10_behind_20, uX10_behind_22, uX10_behind_24, uX10_behind_28, uX10_behind_31, uX10_behind_32, uX10_behind_33, uX10_behind_35, uX10_behind_38, uX10_behind_41, uX10_behind_44, uX10_behind_47, uX10_behind_50, uX10_behind_52, uX10_behind_55, uX10_behind_58, uX10_behind_58o, uX10_behind_58f, uX10_behind_59, uX10_behind_60, uX10_behind_63, uX10_behind_63o, uX10_behind_63f, uX10_behind_64, uX10_behind_65, uX10_behind_68, uX10_behind_69, uX10_behind_70, uX10_behind_73, uX10_behind_74, uX10_behind_76, uX10_behind_78, uX10_behind_81, uX10_behind_82, uX10_behind_85, uX10_behind_86, uX10_behind_87, uX10_behind_88, uX10_behind_92, uX10_behind_95, uX10_behind_96, uX10_behind_99, uX10_behind_100, uX10_behind_102, uX10_behind_105, uX10_behind_106, mo_C H, mo_R_tape H, mo_C_tape H, mo_L_tape H, pq_C_sI, pq_C_sJ, pq_C_sR, pq_C_sA, pq_L_sI, pq_L_sJ, pq_L_sR, pq_L_sA, pq_I_sI, pq_I_sJ, pq_I_sR, pq_I_sA, pq_J_sI, pq_J_sJ, pq_J_sR, pq_J_sA, pq_R_sI, pq_R_sJ, pq_R_sR, pq_R_sA, pq_N_sI, pq_N_sJ, pq_N_sR, pq_N_sA, pq_S_sI, pq_S_sJ, pq_S_sR, pq_S_sA, pz_rf_s, pz_cut_i, pz_cut_r, pz_cut_n, pz_cut_f, pz_cut_u, pz_cut_o, true_and, and_true, true_or, or_true, Option.toList_some, Option.toList_none, List.cons_append, List.nil_append, Nat.add_left_cancel_iff, Nat.left_eq_add, Nat.add_eq_left, Nat.reduceEqDiff, if_true, if_false, ite_true, ite_false, false_and, and_false, false_or, or_false, reduceIte, reduceCtorEq, and_self, mh_C, mh_L, mh_R, mh_J, mh_I0, mh_I, mh_Ir, mh_sI0, mh_sI, mh_sA, gu_11, gu_22, gu_r, gu_21s, gu_21c, gu_22s, gu_11s, gu_11c, gu_22c, Nat.reduceLeDiff, Nat.reduceLT, ne_eq, not_false_eq_true, not_true_eq_false, Nat.reduceEqDiff, Nat.lt_irrefl, eq_self, z_4, z_5, z_7, z_8, z_10, z_16, z_20, z_64]
    rw [if_neg (by decide)]
    simp (disch := omega) only [pz_in_nI, nI_clamp, true_and]
    rw [t1]
    rw [if_pos (show ¬ b8 (x q) = 105 from fun r => by have := (b8_nI _ t2 105 (by omega)).mp r; omega)]
    rw [e1] at K ⊢
    rw [g_isDigit (TX_le T q)]
    simp only [enX10_behind, uX10_behind_0, uX10_behind_1, uX10_behind_2, uX10_behind_3, uX10_behind_4, uX10_behind_5, uX10_behind_9, uX10_behind_12, uX10_behind_12o, uX10_behind_12f, uX10_behind_13, uX10_behind_16, uX10_behind_17, uX10_behind_18, uX10_behind_20, uX10_behind_22, uX10_behind_24, uX10_behind_28, uX10_behind_31, uX10_behind_32, uX10_behind_33, uX10_behind_35, uX10_behind_38, uX10_behind_41, uX10_behind_44, uX10_behind_47, uX10_behind_50, uX10_behind_52, uX10_behind_55, uX10_behind_58, uX10_behind_58o, uX10_behind_58f, uX10_behind_59, uX10_behind_60, uX10_behind_63, uX10_behind_63o, uX10_behind_63f, uX10_behind_64, uX10_behind_65, uX10_behind_68, uX10_behind_69, uX10_behind_70, uX10_behind_73, uX10_behind_74, uX10_behind_76, uX10_behind_78, uX10_behind_81, uX10_behind_82, uX10_behind_85, uX10_behind_86, uX10_behind_87, uX10_behind_88, uX10_behind_92, uX10_behind_95, uX10_behind_96, uX10_behind_99, uX10_behind_100, uX10_behind_102, uX10_behind_105, uX10_behind_106, mo_C H, mo_R_tape H, mo_C_tape H, mo_L_tape H, pq_C_sI, pq_C_sJ, pq_C_sR, pq_C_sA, pq_L_sI, pq_L_sJ, pq_L_sR, pq_L_sA, pq_I_sI, pq_I_sJ, pq_I_sR, pq_I_sA, pq_J_sI, pq_J_sJ, pq_J_sR, pq_J_sA, pq_R_sI, pq_R_sJ, pq_R_sR, pq_R_sA, pq_N_sI, pq_N_sJ, pq_N_sR, pq_N_sA, pq_S_sI, pq_S_sJ, pq_S_sR, pq_S_sA, pz_rf_s, pz_cut_i, pz_cut_r, pz_cut_n, pz_cut_f, pz_cut_u, pz_cut_o, true_and, and_true, true_or, or_true, Option.toList_some, Option.toList_none, List.cons_append, List.nil_append, Nat.add_left_cancel_iff, Nat.left_eq_add, Nat.add_eq_left, Nat.reduceEqDiff, if_true, if_false, ite_true, ite_false, false_and, and_false, false_or, or_false, reduceIte, reduceCtorEq, and_self, mh_C, mh_L, mh_R, mh_J, mh_I0, mh_I, mh_Ir, mh_sI0, mh_sI, mh_sA, gu_11, gu_22, gu_r, gu_21s, gu_21c, gu_22s, gu_11s, gu_11c, gu_22c, Nat.reduceLeDiff, Nat.reduceLT, ne_eq, not_false_eq_true, not_true_eq_false, Nat.reduceEqDiff, Nat.lt_irrefl, eq_self, z_4, z_5, z_7, z_8, z_10, z_16, z_20, z_64]
    rw [if_neg (show ¬ dg (x q) by unfold dg; omega), if_pos rfl, if_pos (show ¬ bI (x q) = 101 from fun r => by have := (bI_eq (TX_le T q) (k := 101) (by omega)).mp r; omega), nI_1, nI_1]
    exact K
  have cls : ∀ q D v5, x q = 101 → wp (d + 2) mX10_behind 91 [.ref mo, .int (nI p), .int (nI (q + 1)), .int (nI D), .int 1, .int (b8 (x q))] [] (mh h mo g) Q → wp (d + 2) mX10_behind 7 [.ref mo, .int (nI p), .int (nI q), .int (nI (D + 1)), .int 1, v5] [] (mh h mo g) Q := by
    intro q D v5 hx K
    have hq := TX_lt T (show x q < 256 by omega)
    obtain ⟨t1, t2⟩ := (T.2 q).1 hq
    have e1 : b8 (x q) = bI (x q) := by rw [b8_lo _ (by omega), bI, if_pos t2]
    rw [uX10_behind_7]
    simp only [enX10_behind, uX10_behind_0, uX10_behind_1, uX10_behind_2, uX10_behind_3, uX10_behind_4, uX10_behind_5, uX10_behind_9, uX10_behind_12, uX10_behind_12o, uX10_behind_12f, uX10_behind_13, uX10_behind_16, uX10_behind_17, uX10_behind_18, uX10_behind_20, uX10_behind_22, uX10_behind_24, uX10_behind_28, uX10_behind_31, uX10_behind_32, uX10_behind_33, uX10_behind_35, uX10_behind_38, uX10_behind_41, uX10_behind_44, uX10_behind_47, uX10_behind_50, uX10_behind_52, uX10_behind_55, uX10_behind_58, uX10_behind_58o, uX10_behind_58f, uX10_behind_59, uX10_behind_60, uX10_behind_63, uX10_behind_63o, uX10_behind_63f, uX10_behind_64, uX10_behind_65, uX10_behind_68, uX10_behind_69, uX10_behind_70, uX10_behind_73, uX10_behind_74, uX10_behind_76, uX10_behind_78, uX10_behind_81, uX10_behind_82, uX10_behind_85, uX10_behind_86, uX10_behind_87, uX10_behind_88, uX10_behind_92, uX10_behind_95, uX10_behind_96, uX10_behind_99, uX10_behind_100, uX10_behind_102, uX10_behind_105, uX10_behind_106, mo_C H, mo_R_tape H, mo_C_tape H, mo_L_tape H, pq_C_sI, pq_C_sJ, pq_C_sR, pq_C_sA, pq_L_sI, pq_L_sJ, pq_L_sR, pq_L_sA, pq_I_sI, pq_I_sJ, pq_I_sR, pq_I_sA, pq_J_sI, pq_J_sJ, pq_J_sR, pq_J_sA, pq_R_sI, pq_R_sJ, pq_R_sR, pq_R_sA, pq_N_sI, pq_N_sJ, pq_N_sR, pq_N_sA, pq_S_sI, pq_S_sJ, pq_S_sR, pq_S_sA, pz_rf_s, pz_cut_i, pz_cut_r, pz_cut_n, pz_cut_f, pz_cut_u, pz_cut_o, true_and, and_true, true_or, or_true, Option.toList_some, Option.toList_none, List.cons_append, List.nil_append, Nat.add_left_cancel_iff, Nat.left_eq_add, Nat.add_eq_left, Nat.reduceEqDiff, if_true, if_false, ite_true, ite_false, false_and, and_false, false_or, or_false, reduceIte, reduceCtorEq, and_self, mh_C, mh_L, mh_R, mh_J, mh_I0, mh_I, mh_Ir, mh_sI0, mh_sI, mh_sA, gu_11, gu_22, gu_r, gu_21s, gu_21c, gu_22s, gu_11s, gu_11c, gu_22c, Nat.reduceLeDiff, Nat.reduceLT, ne_eq, not_false_eq_true, not_true_eq_false, Nat.reduceEqDiff, Nat.lt_irrefl, eq_self, z_4, z_5, z_7, z_8, z_10, z_16, z_20, z_64]
    rw [if_neg (by decide)]
    simp (disch := omega) only [pz_in_nI, nI_clamp, true_and]
    rw [t1]
    rw [if_pos (show ¬ b8 (x q) = 105 from fun r => by have := (b8_nI _ t2 105 (by omega)).mp r; omega)]
    rw [e1] at K ⊢
    rw [g_isDigit (TX_le T q)]
    simp only [enX10_behind, uX10_behind_0, uX10_behind_1, uX10_behind_2, uX10_behind_3, uX10_behind_4, uX10_behind_5, uX10_behind_9, uX10_behind_12, uX10_behind_12o, uX10_behind_12f, uX10_behind_13, uX10_behind_16, uX10_behind_17, uX10_behind_18, uX10_behind_20, uX10_behind_22, uX10_behind_24, uX10_behind_28, uX10_behind_31, uX10_behind_32, uX10_behind_33, uX10_behind_35, uX10_behind_38, uX10_behind_41, uX10_behind_44, uX10_behind_47, uX10_behind_50, uX10_behind_52, uX10_behind_55, uX10_behind_58, uX10_behind_58o, uX10_behind_58f, uX10_behind_59, uX10_behind_60, uX10_behind_63, uX10_behind_63o, uX10_behind_63f, uX10_behind_64, uX10_behind_65, uX10_behind_68, uX10_behind_69, uX10_behind_70, uX10_behind_73, uX10_behind_74, uX10_behind_76, uX10_behind_78, uX10_behind_81, uX10_behind_82, uX10_behind_85, uX10_behind_86, uX10_behind_87, uX10_behind_88, uX10_behind_92, uX10_behind_95, uX10_behind_96, uX10_behind_99, uX10_behind_100, uX10_behind_102, uX10_behind_105, uX10_behind_106, mo_C H, mo_R_tape H, mo_C_tape H, mo_L_tape H, pq_C_sI, pq_C_sJ, pq_C_sR, pq_C_sA, pq_L_sI, pq_L_sJ, pq_L_sR, pq_L_sA, pq_I_sI, pq_I_sJ, pq_I_sR, pq_I_sA, pq_J_sI, pq_J_sJ, pq_J_sR, pq_J_sA, pq_R_sI, pq_R_sJ, pq_R_sR, pq_R_sA, pq_N_sI, pq_N_sJ, pq_N_sR, pq_N_sA, pq_S_sI, pq_S_sJ, pq_S_sR, pq_S_sA, pz_rf_s, pz_cut_i, pz_cut_r, pz_cut_n, pz_cut_f, pz_cut_u, pz_cut_o, true_and, and_true, true_or, or_true, Option.toList_some, Option.toList_none, List.cons_append, List.nil_append, Nat.add_left_cancel_iff, Nat.left_eq_add, Nat.add_eq_left, Nat.reduceEqDiff, if_true, if_false, ite_true, ite_false, false_and, and_false, false_or, or_false, reduceIte, reduceCtorEq, and_self, mh_C, mh_L, mh_R, mh_J, mh_I0, mh_I, mh_Ir, mh_sI0, mh_sI, mh_sA, gu_11, gu_22, gu_r, gu_21s, gu_21c, gu_22s, gu_11s, gu_11c, gu_22c, Nat.reduceLeDiff, Nat.reduceLT, ne_eq, not_false_eq_true, not_true_eq_false, Nat.reduceEqDiff, Nat.lt_irrefl, eq_self, z_4, z_5, z_7, z_8, z_10, z_16, z_20, z_64]
    rw [if_neg (show ¬ dg (x q) by unfold dg; omega), if_pos rfl, if_neg (show ¬ ¬ bI (x q) = 101 from fun r => r ((bI_eq (TX_le T q) (k := 101) (by omega)).mpr hx)), pk_m1, nI_1]
    exact K
  have num : ∀ q D v5, x q = 105 → nuF x q = none → wp (d + 2) mX10_behind 91 [.ref mo, .int (nI p), .int (nI (nuEnd x q)), .int (nI D), .int 1, .int (b8 (x q))] [] (mh h mo g) Q → wp (d + 2) mX10_behind 7 [.ref mo, .int (nI p), .int (nI q), .int (nI D), .int 1, v5] [] (mh h mo g) Q := by
    intro q D v5 hx hs K
    obtain ⟨s1, s2, s3⟩ := nuF_e hx hs
    have hq := TX_lt T (show x q < 256 by omega)
    obtain ⟨t1, t2⟩ := (T.2 q).1 hq
    have he := TX_lt T (show x (nuEnd x q - 1) < 256 by omega)
    obtain ⟨t3, t4⟩ := (T.2 _).1 he
    rw [uX10_behind_7]
    simp only [enX10_behind, uX10_behind_0, uX10_behind_1, uX10_behind_2, uX10_behind_3, uX10_behind_4, uX10_behind_5, uX10_behind_9, uX10_behind_12, uX10_behind_12o, uX10_behind_12f, uX10_behind_13, uX10_behind_16, uX10_behind_17, uX10_behind_18, uX10_behind_20, uX10_behind_22, uX10_behind_24, uX10_behind_28, uX10_behind_31, uX10_behind_32, uX10_behind_33, uX10_behind_35, uX10_behind_38, uX10_behind_41, uX10_behind_44, uX10_behind_47, uX10_behind_50, uX10_behind_52, uX10_behind_55, uX10_behind_58, uX10_behind_58o, uX10_behind_58f, uX10_behind_59, uX10_behind_60, uX10_behind_63, uX10_behind_63o, uX10_behind_63f, uX10_behind_64, uX10_behind_65, uX10_behind_68, uX10_behind_69, uX10_behind_70, uX10_behind_73, uX10_behind_74, uX10_behind_76, uX10_behind_78, uX10_behind_81, uX10_behind_82, uX10_behind_85, uX10_behind_86, uX10_behind_87, uX10_behind_88, uX10_behind_92, uX10_behind_95, uX10_behind_96, uX10_behind_99, uX10_behind_100, uX10_behind_102, uX10_behind_105, uX10_behind_106, mo_C H, mo_R_tape H, mo_C_tape H, mo_L_tape H, pq_C_sI, pq_C_sJ, pq_C_sR, pq_C_sA, pq_L_sI, pq_L_sJ, pq_L_sR, pq_L_sA, pq_I_sI, pq_I_sJ, pq_I_sR, pq_I_sA, pq_J_sI, pq_J_sJ, pq_J_sR, pq_J_sA, pq_R_sI, pq_R_sJ, pq_R_sR, pq_R_sA, pq_N_sI, pq_N_sJ, pq_N_sR, pq_N_sA, pq_S_sI, pq_S_sJ, pq_S_sR, pq_S_sA, pz_rf_s, pz_cut_i, pz_cut_r, pz_cut_n, pz_cut_f, pz_cut_u, pz_cut_o, true_and, and_true, true_or, or_true, Option.toList_some, Option.toList_none, List.cons_append, List.nil_append, Nat.add_left_cancel_iff, Nat.left_eq_add, Nat.add_eq_left, Nat.reduceEqDiff, if_true, if_false, ite_true, ite_false, false_and, and_false, false_or, or_false, reduceIte, reduceCtorEq, and_self, mh_C, mh_L, mh_R, mh_J, mh_I0, mh_I, mh_Ir, mh_sI0, mh_sI, mh_sA, gu_11, gu_22, gu_r, gu_21s, gu_21c, gu_22s, gu_11s, gu_11c, gu_22c, Nat.reduceLeDiff, Nat.reduceLT, ne_eq, not_false_eq_true, not_true_eq_false, Nat.reduceEqDiff, Nat.lt_irrefl, eq_self, z_4, z_5, z_7, z_8, z_10, z_16, z_20, z_64]
    rw [if_neg (by decide)]
    simp (disch := omega) only [pz_in_nI, nI_clamp, true_and]
    rw [t1]
    rw [if_neg (show ¬ ¬ b8 (x q) = 105 from fun r => r ((b8_nI _ t2 105 (by omega)).mpr hx))]
    rw [bh_i H T (e := nuEnd x q - 1) (by omega) (fun i h1 h2 => s1 i h1 (by omega)) s2, uX10_behind_27]
    simp only [enX10_behind, uX10_behind_0, uX10_behind_1, uX10_behind_2, uX10_behind_3, uX10_behind_4, uX10_behind_5, uX10_behind_9, uX10_behind_12, uX10_behind_12o, uX10_behind_12f, uX10_behind_13, uX10_behind_16, uX10_behind_17, uX10_behind_18, uX10_behind_20, uX10_behind_22, uX10_behind_24, uX10_behind_28, uX10_behind_31, uX10_behind_32, uX10_behind_33, uX10_behind_35, uX10_behind_38, uX10_behind_41, uX10_behind_44, uX10_behind_47, uX10_behind_50, uX10_behind_52, uX10_behind_55, uX10_behind_58, uX10_behind_58o, uX10_behind_58f, uX10_behind_59, uX10_behind_60, uX10_behind_63, uX10_behind_63o, uX10_behind_63f, uX10_behind_64, uX10_behind_65, uX10_behind_68, uX10_behind_69, uX10_behind_70, uX10_behind_73, uX10_behind_74, uX10_behind_76, uX10_behind_78, uX10_behind_81, uX10_behind_82, uX10_behind_85, uX10_behind_86, uX10_behind_87, uX10_behind_88, uX10_behind_92, uX10_behind_95, uX10_behind_96, uX10_behind_99, uX10_behind_100, uX10_behind_102, uX10_behind_105, uX10_behind_106, mo_C H, mo_R_tape H, mo_C_tape H, mo_L_tape H, pq_C_sI, pq_C_sJ, pq_C_sR, pq_C_sA, pq_L_sI, pq_L_sJ, pq_L_sR, pq_L_sA, pq_I_sI, pq_I_sJ, pq_I_sR, pq_I_sA, pq_J_sI, pq_J_sJ, pq_J_sR, pq_J_sA, pq_R_sI, pq_R_sJ, pq_R_sR, pq_R_sA, pq_N_sI, pq_N_sJ, pq_N_sR, pq_N_sA, pq_S_sI, pq_S_sJ, pq_S_sR, pq_S_sA, pz_rf_s, pz_cut_i, pz_cut_r, pz_cut_n, pz_cut_f, pz_cut_u, pz_cut_o, true_and, and_true, true_or, or_true, Option.toList_some, Option.toList_none, List.cons_append, List.nil_append, Nat.add_left_cancel_iff, Nat.left_eq_add, Nat.add_eq_left, Nat.reduceEqDiff, if_true, if_false, ite_true, ite_false, false_and, and_false, false_or, or_false, reduceIte, reduceCtorEq, and_self, mh_C, mh_L, mh_R, mh_J, mh_I0, mh_I, mh_Ir, mh_sI0, mh_sI, mh_sA, gu_11, gu_22, gu_r, gu_21s, gu_21c, gu_22s, gu_11s, gu_11c, gu_22c, Nat.reduceLeDiff, Nat.reduceLT, ne_eq, not_false_eq_true, not_true_eq_false, Nat.reduceEqDiff, Nat.lt_irrefl, eq_self, z_4, z_5, z_7, z_8, z_10, z_16, z_20, z_64]
    simp (disch := omega) only [pz_in_nI, nI_clamp, true_and]
    rw [t3, if_pos (show b8 (x (nuEnd x q - 1)) = 101 from (b8_nI _ t4 101 (by omega)).mpr s2), nI_1, show nuEnd x q - 1 + 1 = nuEnd x q by omega]
    exact K
  intro f
  induction f with
  | zero =>
    intro md dp q e D v5 _ h1
    exact absurd h1 (by cases md <;> simp [pv])
  | succ f ih =>
    intro md dp q e D v5 hD h1 K
    cases md with
    | none =>
      rw [pv] at h1
      show wp (d + 2) mX10_behind 7 [.ref mo, .int (nI p), .int (nI q), .int (nI D), .int 1, v5] [] (mh h mo g) Q
      by_cases a1 : dg (x q)
      · rw [if_pos a1] at h1
        cases hs : stF x n q with
        | some w' =>
          rw [hs] at h1
          exact absurd h1 (by simp)
        | none =>
          rw [hs] at h1
          have := Except.ok.inj h1
          subst this
          exact str q D v5 hs (more D (by omega) _ _ K)
      · rw [if_neg a1] at h1
        by_cases a2 : x q = 105
        · rw [if_pos a2] at h1
          cases hs : nuF x q with
          | some w' =>
            rw [hs] at h1
            exact absurd h1 (by simp)
          | none =>
            rw [hs] at h1
            have := Except.ok.inj h1
            subst this
            exact num q D v5 a2 hs (more D (by omega) _ _ K)
        · rw [if_neg a2] at h1
          by_cases a3 : (x q = 108 ∨ x q = 100) ∧ dp < 8
          · rw [if_pos a3] at h1
            refine opn q D v5 a3.1 (more (D + 1) (by omega) _ _ (fun v5' => ?_))
            rw [if_neg (by omega)]
            exact ih _ _ _ _ D v5' (by omega) h1 K
          · rw [if_neg a3] at h1
            exact absurd h1 (by simp)
    | some m =>
      obtain ⟨b, ky⟩ := m
      rw [pv_i] at h1
      show wp (d + 2) mX10_behind 7 [.ref mo, .int (nI p), .int (nI q), .int (nI (D + 1)), .int 1, v5] [] (mh h mo g) Q
      by_cases a1 : x q = 101
      · rw [if_pos a1] at h1
        have := Except.ok.inj h1
        subst this
        exact cls q D v5 a1 (more D (by omega) _ _ K)
      · rw [if_neg a1] at h1
        by_cases a2 : b = true
        · rw [if_pos a2] at h1
          cases hs : stF x n q with
          | some w' =>
            rw [hs] at h1
            exact absurd h1 (by simp)
          | none =>
            rw [hs] at h1
            simp only at h1
            by_cases a3 : rsk x ky q = true
            · rw [if_pos a3] at h1
              cases q1 : pv x n f none dp (stEnd x q) with
              | error w' =>
                rw [q1] at h1
                exact absurd h1 (by simp)
              | ok u1 =>
                rw [q1] at h1
                refine str q (D + 1) v5 hs (more (D + 1) (by omega) _ _ (fun v5' => ?_))
                rw [if_neg (by omega)]
                refine ih none _ _ _ (D + 1) v5' (by omega) q1 (fun v6' => ?_)
                rw [if_neg (by omega)]
                exact ih _ _ _ _ D v6' (by omega) h1 K
            · rw [if_neg a3] at h1
              exact absurd h1 (by simp)
        · rw [if_neg a2] at h1
          cases q1 : pv x n f none dp q with
          | error w' =>
            rw [q1] at h1
            exact absurd h1 (by simp)
          | ok u1 =>
            rw [q1] at h1
            refine ih none _ _ _ (D + 1) v5 (by omega) q1 (fun v6' => ?_)
            rw [if_neg (by omega)]
            exact ih _ _ _ _ D v6' (by omega) h1 K
theorem g_behind (H : MO h mo) (T : TX (g 1) n x) {e : Nat} (hV : VL x n none p e) (K : Q (some (.int (nI e))) (mh h mo g)) : pz_M (d + 3) mX10_behind [.ref mo, .int (nI p)] (mh h mo g) Q := by
  have hn := T.1
  obtain ⟨f, dp, h1, h2⟩ := hV
  simp only [enX10_behind, uX10_behind_0, uX10_behind_1, uX10_behind_2, uX10_behind_3, uX10_behind_4, uX10_behind_5, uX10_behind_9, uX10_behind_12, uX10_behind_12o, uX10_behind_12f, uX10_behind_13, uX10_behind_16, uX10_behind_17, uX10_behind_18, uX10_behind_20, uX10_behind_22, uX10_behind_24, uX10_behind_28, uX10_behind_31, uX10_behind_32, uX10_behind_33, uX10_behind_35, uX10_behind_38, uX10_behind_41, uX10_behind_44, uX10_behind_47, uX10_behind_50, uX10_behind_52, uX10_behind_55, uX10_behind_58, uX10_behind_58o, uX10_behind_58f, uX10_behind_59, uX10_behind_60, uX10_behind_63, uX10_behind_63o, uX10_behind_63f, uX10_behind_64, uX10_behind_65, uX10_behind_68, uX10_behind_69, uX10_behind_70, uX10_behind_73, uX10_behind_74, uX10_behind_76, uX10_behind_78, uX10_behind_81, uX10_behind_82, uX10_behind_85, uX10_behind_86, uX10_behind_87, uX10_behind_88, uX10_behind_91, uX10_behind_92, uX10_behind_95, uX10_behind_96, uX10_behind_99, uX10_behind_100, uX10_behind_102, uX10_behind_105, uX10_behind_106, mo_C H, mo_R_tape H, mo_C_tape H, mo_L_tape H, pq_C_sI, pq_C_sJ, pq_C_sR, pq_C_sA, pq_L_sI, pq_L_sJ, pq_L_sR, pq_L_sA, pq_I_sI, pq_I_sJ, pq_I_sR, pq_I_sA, pq_J_sI, pq_J_sJ, pq_J_sR, pq_J_sA, pq_R_sI, pq_R_sJ, pq_R_sR, pq_R_sA, pq_N_sI, pq_N_sJ, pq_N_sR, pq_N_sA, pq_S_sI, pq_S_sJ, pq_S_sR, pq_S_sA, pz_rf_s, pz_cut_i, pz_cut_r, pz_cut_n, pz_cut_f, pz_cut_u, pz_cut_o, true_and, and_true, true_or, or_true, Option.toList_some, Option.toList_none, List.cons_append, List.nil_append, Nat.add_left_cancel_iff, Nat.left_eq_add, Nat.add_eq_left, Nat.reduceEqDiff, if_true, if_false, ite_true, ite_false, false_and, and_false, false_or, or_false, reduceIte, reduceCtorEq, and_self, mh_C, mh_L, mh_R, mh_J, mh_I0, mh_I, mh_Ir, mh_sI0, mh_sI, mh_sA, gu_11, gu_22, gu_r, gu_21s, gu_21c, gu_22s, gu_11s, gu_11c, gu_22c, Nat.reduceLeDiff, Nat.reduceLT, ne_eq, not_false_eq_true, not_true_eq_false, Nat.reduceEqDiff, Nat.lt_irrefl, eq_self, z_4, z_5, z_7, z_8, z_10, z_16, z_20, z_64]
  refine bh_main H T f none dp p e 0 _ (by omega) h2 (fun v5' => ?_)
  rw [uX10_behind_7, if_pos rfl]
  simp only [enX10_behind, uX10_behind_0, uX10_behind_1, uX10_behind_2, uX10_behind_3, uX10_behind_4, uX10_behind_5, uX10_behind_9, uX10_behind_12, uX10_behind_12o, uX10_behind_12f, uX10_behind_13, uX10_behind_16, uX10_behind_17, uX10_behind_18, uX10_behind_20, uX10_behind_22, uX10_behind_24, uX10_behind_28, uX10_behind_31, uX10_behind_32, uX10_behind_33, uX10_behind_35, uX10_behind_38, uX10_behind_41, uX10_behind_44, uX10_behind_47, uX10_behind_50, uX10_behind_52, uX10_behind_55, uX10_behind_58, uX10_behind_58o, uX10_behind_58f, uX10_behind_59, uX10_behind_60, uX10_behind_63, uX10_behind_63o, uX10_behind_63f, uX10_behind_64, uX10_behind_65, uX10_behind_68, uX10_behind_69, uX10_behind_70, uX10_behind_73, uX10_behind_74, uX10_behind_76, uX10_behind_78, uX10_behind_81, uX10_behind_82, uX10_behind_85, uX10_behind_86, uX10_behind_87, uX10_behind_88, uX10_behind_91, uX10_behind_92, uX10_behind_95, uX10_behind_96, uX10_behind_99, uX10_behind_100, uX10_behind_102, uX10_behind_105, uX10_behind_106, mo_C H, mo_R_tape H, mo_C_tape H, mo_L_tape H, pq_C_sI, pq_C_sJ, pq_C_sR, pq_C_sA, pq_L_sI, pq_L_sJ, pq_L_sR, pq_L_sA, pq_I_sI, pq_I_sJ, pq_I_sR, pq_I_sA, pq_J_sI, pq_J_sJ, pq_J_sR, pq_J_sA, pq_R_sI, pq_R_sJ, pq_R_sR, pq_R_sA, pq_N_sI, pq_N_sJ, pq_N_sR, pq_N_sA, pq_S_sI, pq_S_sJ, pq_S_sR, pq_S_sA, pz_rf_s, pz_cut_i, pz_cut_r, pz_cut_n, pz_cut_f, pz_cut_u, pz_cut_o, true_and, and_true, true_or, or_true, Option.toList_some, Option.toList_none, List.cons_append, List.nil_append, Nat.add_left_cancel_iff, Nat.left_eq_add, Nat.add_eq_left, Nat.reduceEqDiff, if_true, if_false, ite_true, ite_false, false_and, and_false, false_or, or_false, reduceIte, reduceCtorEq, and_self, mh_C, mh_L, mh_R, mh_J, mh_I0, mh_I, mh_Ir, mh_sI0, mh_sI, mh_sA, gu_11, gu_22, gu_r, gu_21s, gu_21c, gu_22s, gu_11s, gu_11c, gu_22c, Nat.reduceLeDiff, Nat.reduceLT, ne_eq, not_false_eq_true, not_true_eq_false, Nat.reduceEqDiff, Nat.lt_irrefl, eq_self, z_4, z_5, z_7, z_8, z_10, z_16, z_20, z_64]
  exact K
end
