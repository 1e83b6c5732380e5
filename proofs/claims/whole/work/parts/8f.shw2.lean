/-! ===== the class: showInterest, showChoking ===== -/
section
variable {d : Nat} {h : PzH} {Q : Option Value → PzH → Prop} {A : St} {l c p : Nat}
theorem c_showInterest (R : RC h A) (I : OI A l c p) {a b : Nat} (ha : a < 4) (hb : b < 5) (hab : a ≠ b) (hj : sB A 23 (5 * a + b) ≠ 0) (K : ∀ h', HC h h' → RC h' (intA A a b p) → Q none h') : pz_M (d + 5) mX0_showInterest [.ref 132, .ref (36 + 4 * a), .ref (lkA (5 * a + b))] h Q := by
  obtain ⟨a1, a2, a3, a4, a5, a6, a7, a8⟩ := ACT_of R
  obtain ⟨⟨k1, k2, k3, k4, k5⟩, L⟩ := LN_of R (show a < 5 by omega) hb hab
  obtain ⟨⟨c1, c2, c3, c4, c5⟩, CRa⟩ := CL_of R ha
  have hth : sB A 18 a ≠ 0 := by
    rcases ((I.2.1 a b (by omega) hb).1 hj).2.1 with z | z
    · omega
    · exact z
  have hj2 := ((I.2.1 a b (by omega) hb).1 hj).2.2
  obtain ⟨_, bits, _⟩ := CRa.2.2 hth
  have r10 := L.2.2.2.2.2.2.2.2.2.1
  have r8 := L.2.2.2.2.2.2.2.1
  have t6 := I.1.1.2.2.2.2.2.1
  have W := wnt_iff (p := p) r10 bits (I.2.1 a b (by omega) hb).2.2 t6
  have n1 := R.1.2.2.2.2.2.1.1
  simp only [enX0_showInterest, uX0_showInterest_0, uX0_showInterest_0o, uX0_showInterest_0f, uX0_showInterest_1, uX0_showInterest_4, uX0_showInterest_4o, uX0_showInterest_4f, uX0_showInterest_5, uX0_showInterest_8, uX0_showInterest_11, uX0_showInterest_12, uX0_showInterest_13, uX0_showInterest_14, uX0_showInterest_15, uX0_showInterest_18, uX0_showInterest_19, uX0_showInterest_22, uX0_showInterest_23, uX0_showInterest_25, uX0_showInterest_25o, uX0_showInterest_25f, uX0_showInterest_26, uX0_showInterest_29, uX0_showInterest_32, uX0_showInterest_32o, uX0_showInterest_32f, uX0_showInterest_33, uX0_showInterest_34, uX0_showInterest_37, uX0_showInterest_37o, uX0_showInterest_37f, uX0_showInterest_38, uX0_showInterest_39, uX0_showInterest_42, uX0_showInterest_43, uX0_showInterest_46, uX0_showInterest_47, uX0_showInterest_50, uX0_showInterest_50o, uX0_showInterest_50f, uX0_showInterest_51, uX0_showInterest_54, uX0_showInterest_54o, uX0_showInterest_54f, uX0_showInterest_55, uX0_showInterest_55o, uX0_showInterest_55f, uX0_showInterest_56, uX0_showInterest_59, uX0_showInterest_62, pq_C_sI, pq_C_sJ, pq_C_sR, pq_C_sA, pq_L_sI, pq_L_sJ, pq_L_sR, pq_L_sA, pq_I_sI, pq_I_sJ, pq_I_sR, pq_I_sA, pq_J_sI, pq_J_sJ, pq_J_sR, pq_J_sA, pq_R_sI, pq_R_sJ, pq_R_sR, pq_R_sA, pq_N_sI, pq_N_sJ, pq_N_sR, pq_N_sA, pq_S_sI, pq_S_sJ, pq_S_sR, pq_S_sA, pz_rf_s, pz_cut_i, pz_cut_r, pz_cut_n, pz_cut_f, pz_cut_u, pz_cut_o, true_and, and_true, true_or, or_true, Option.toList_some, Option.toList_none, List.cons_append, List.nil_append, Nat.add_left_cancel_iff, Nat.left_eq_add, Nat.add_eq_left, Nat.reduceEqDiff, if_true, if_false, ite_true, ite_false, false_and, and_false, false_or, or_false, reduceIte, reduceCtorEq, and_self, z_4, z_5, z_7, z_8, z_10, z_16, z_20, z_64, not_false_eq_true, a1, k1, c1, lg_cmp_eq]
  unfold intA at K
  have main : wp (d + 4) mX0_showInterest 24 [.ref 132, .ref (36 + 4 * a), .ref (lkA (5 * a + b)), .int (bw (wnt A a b p))] [] h Q := by
    simp only [enX0_showInterest, uX0_showInterest_0, uX0_showInterest_0o, uX0_showInterest_0f, uX0_showInterest_1, uX0_showInterest_4, uX0_showInterest_4o, uX0_showInterest_4f, uX0_showInterest_5, uX0_showInterest_8, uX0_showInterest_11, uX0_showInterest_12, uX0_showInterest_13, uX0_showInterest_14, uX0_showInterest_15, uX0_showInterest_18, uX0_showInterest_19, uX0_showInterest_22, uX0_showInterest_23, uX0_showInterest_24, uX0_showInterest_25, uX0_showInterest_25o, uX0_showInterest_25f, uX0_showInterest_26, uX0_showInterest_29, uX0_showInterest_32, uX0_showInterest_32o, uX0_showInterest_32f, uX0_showInterest_33, uX0_showInterest_34, uX0_showInterest_37, uX0_showInterest_37o, uX0_showInterest_37f, uX0_showInterest_38, uX0_showInterest_39, uX0_showInterest_42, uX0_showInterest_43, uX0_showInterest_46, uX0_showInterest_47, uX0_showInterest_50, uX0_showInterest_50o, uX0_showInterest_50f, uX0_showInterest_51, uX0_showInterest_54, uX0_showInterest_54o, uX0_showInterest_54f, uX0_showInterest_55, uX0_showInterest_55o, uX0_showInterest_55f, uX0_showInterest_56, uX0_showInterest_59, uX0_showInterest_62, pq_C_sI, pq_C_sJ, pq_C_sR, pq_C_sA, pq_L_sI, pq_L_sJ, pq_L_sR, pq_L_sA, pq_I_sI, pq_I_sJ, pq_I_sR, pq_I_sA, pq_J_sI, pq_J_sJ, pq_J_sR, pq_J_sA, pq_R_sI, pq_R_sJ, pq_R_sR, pq_R_sA, pq_N_sI, pq_N_sJ, pq_N_sR, pq_N_sA, pq_S_sI, pq_S_sJ, pq_S_sR, pq_S_sA, pz_rf_s, pz_cut_i, pz_cut_r, pz_cut_n, pz_cut_f, pz_cut_u, pz_cut_o, true_and, and_true, true_or, or_true, Option.toList_some, Option.toList_none, List.cons_append, List.nil_append, Nat.add_left_cancel_iff, Nat.left_eq_add, Nat.add_eq_left, Nat.reduceEqDiff, if_true, if_false, ite_true, ite_false, false_and, and_false, false_or, or_false, reduceIte, reduceCtorEq, and_self, z_4, z_5, z_7, z_8, z_10, z_16, z_20, z_64, not_false_eq_true, a1, k1, r8]
    by_cases q : bw (wnt A a b p) = sB A 28 (5 * a + b)
    · rw [if_pos q] at K
      rw [if_pos q]
      exact K h HC_refl R
    · rw [if_neg q] at K
      rw [if_neg q]
      have R1 := RC_fl (j := 8) (r := 28) (v := bw (wnt A a b p)) R (show a < 5 by omega) hb hab hj (by decide)
      have hb01 : bw (wnt A a b p) = 0 ∨ bw (wnt A a b p) = 1 := by cases wnt A a b p <;> simp [bw]
      have I1 := OI_u2 (r := 28) (k := 5 * a + b) (v := bw (wnt A a b p)) I (by decide) hj
      simp only [hb01, true_and]
      have H1 : HC h (pz_sI h (lkA (5 * a + b)) 8 (bw (wnt A a b p))) := HC_HF (cs := [lkA (5 * a + b)]) (HF_sI (by simp)) (fun x hx => by
        have := lkA_in (k := 5 * a + b) (by omega) (by omega)
        simp at hx; omega)
      have fin : ∀ v : Int32, v = (if wnt A a b p = true then 2 else 3) → pz_M (d + 4) mX0_notePlain [.ref 132, .int v] (pz_sI h (lkA (5 * a + b)) 8 (bw (wnt A a b p))) (fun r h2 => wp (d + 4) mX0_showInterest 50 [.ref 132, .ref (36 + 4 * a), .ref (lkA (5 * a + b)), .int (bw (wnt A a b p))] (r.toList ++ []) h2 Q) := by
        intro v hv
        refine c_notePlain R1 (fun h2 F2 N2 => ?_)
        have R2 := RC_note R1 F2 N2
        obtain ⟨b1, b2, b3, b4, b5, b6, b7, b8⟩ := ACT_of R2
        have n2 := R2.1.2.2.2.2.2.1.1
        simp only [enX0_showInterest, uX0_showInterest_0, uX0_showInterest_0o, uX0_showInterest_0f, uX0_showInterest_1, uX0_showInterest_4, uX0_showInterest_4o, uX0_showInterest_4f, uX0_showInterest_5, uX0_showInterest_8, uX0_showInterest_11, uX0_showInterest_12, uX0_showInterest_13, uX0_showInterest_14, uX0_showInterest_15, uX0_showInterest_18, uX0_showInterest_19, uX0_showInterest_22, uX0_showInterest_23, uX0_showInterest_24, uX0_showInterest_25, uX0_showInterest_25o, uX0_showInterest_25f, uX0_showInterest_26, uX0_showInterest_29, uX0_showInterest_32, uX0_showInterest_32o, uX0_showInterest_32f, uX0_showInterest_33, uX0_showInterest_34, uX0_showInterest_37, uX0_showInterest_37o, uX0_showInterest_37f, uX0_showInterest_38, uX0_showInterest_39, uX0_showInterest_42, uX0_showInterest_43, uX0_showInterest_46, uX0_showInterest_47, uX0_showInterest_50, uX0_showInterest_50o, uX0_showInterest_50f, uX0_showInterest_51, uX0_showInterest_54, uX0_showInterest_54o, uX0_showInterest_54f, uX0_showInterest_55, uX0_showInterest_55o, uX0_showInterest_55f, uX0_showInterest_56, uX0_showInterest_59, uX0_showInterest_62, pq_C_sI, pq_C_sJ, pq_C_sR, pq_C_sA, pq_L_sI, pq_L_sJ, pq_L_sR, pq_L_sA, pq_I_sI, pq_I_sJ, pq_I_sR, pq_I_sA, pq_J_sI, pq_J_sJ, pq_J_sR, pq_J_sA, pq_R_sI, pq_R_sJ, pq_R_sR, pq_R_sA, pq_N_sI, pq_N_sJ, pq_N_sR, pq_N_sA, pq_S_sI, pq_S_sJ, pq_S_sR, pq_S_sA, pz_rf_s, pz_cut_i, pz_cut_r, pz_cut_n, pz_cut_f, pz_cut_u, pz_cut_o, true_and, and_true, true_or, or_true, Option.toList_some, Option.toList_none, List.cons_append, List.nil_append, Nat.add_left_cancel_iff, Nat.left_eq_add, Nat.add_eq_left, Nat.reduceEqDiff, if_true, if_false, ite_true, ite_false, false_and, and_false, false_or, or_false, reduceIte, reduceCtorEq, and_self, z_4, z_5, z_7, z_8, z_10, z_16, z_20, z_64, not_false_eq_true, b1, b2, b5, n2]
        refine c_send R2 (show a < 5 by omega) hb hab hj2 (I1.1.2.1 _ (by omega)) N2 (fun h3 F3 R3 => ?_)
        simp only [enX0_showInterest, uX0_showInterest_0, uX0_showInterest_0o, uX0_showInterest_0f, uX0_showInterest_1, uX0_showInterest_4, uX0_showInterest_4o, uX0_showInterest_4f, uX0_showInterest_5, uX0_showInterest_8, uX0_showInterest_11, uX0_showInterest_12, uX0_showInterest_13, uX0_showInterest_14, uX0_showInterest_15, uX0_showInterest_18, uX0_showInterest_19, uX0_showInterest_22, uX0_showInterest_23, uX0_showInterest_24, uX0_showInterest_25, uX0_showInterest_25o, uX0_showInterest_25f, uX0_showInterest_26, uX0_showInterest_29, uX0_showInterest_32, uX0_showInterest_32o, uX0_showInterest_32f, uX0_showInterest_33, uX0_showInterest_34, uX0_showInterest_37, uX0_showInterest_37o, uX0_showInterest_37f, uX0_showInterest_38, uX0_showInterest_39, uX0_showInterest_42, uX0_showInterest_43, uX0_showInterest_46, uX0_showInterest_47, uX0_showInterest_50, uX0_showInterest_50o, uX0_showInterest_50f, uX0_showInterest_51, uX0_showInterest_54, uX0_showInterest_54o, uX0_showInterest_54f, uX0_showInterest_55, uX0_showInterest_55o, uX0_showInterest_55f, uX0_showInterest_56, uX0_showInterest_59, uX0_showInterest_62, pq_C_sI, pq_C_sJ, pq_C_sR, pq_C_sA, pq_L_sI, pq_L_sJ, pq_L_sR, pq_L_sA, pq_I_sI, pq_I_sJ, pq_I_sR, pq_I_sA, pq_J_sI, pq_J_sJ, pq_J_sR, pq_J_sA, pq_R_sI, pq_R_sJ, pq_R_sR, pq_R_sA, pq_N_sI, pq_N_sJ, pq_N_sR, pq_N_sA, pq_S_sI, pq_S_sJ, pq_S_sR, pq_S_sA, pz_rf_s, pz_cut_i, pz_cut_r, pz_cut_n, pz_cut_f, pz_cut_u, pz_cut_o, true_and, and_true, true_or, or_true, Option.toList_some, Option.toList_none, List.cons_append, List.nil_append, Nat.add_left_cancel_iff, Nat.left_eq_add, Nat.add_eq_left, Nat.reduceEqDiff, if_true, if_false, ite_true, ite_false, false_and, and_false, false_or, or_false, reduceIte, reduceCtorEq, and_self, z_4, z_5, z_7, z_8, z_10, z_16, z_20, z_64, not_false_eq_true]
        rw [hv] at R3
        exact K h3 (HC_trans H1 (HC_trans (HC_note F2) (HC_HL F3))) R3
      cases hz : wnt A a b p with
      | true =>
        rw [hz] at fin
        rw [if_neg (show ¬ bw true = 0 by decide)]
        exact fin 2 rfl
      | false =>
        rw [hz] at fin
        rw [if_pos (show bw false = 0 by decide)]
        exact fin 3 rfl
  by_cases q : wnt A a b p = false
  · rw [if_pos (W.mpr q)]
    rw [q] at main
    exact main
  · rw [if_neg (fun z => q (W.mp z))]
    rw [Bool.not_eq_false] at q
    rw [q] at main
    exact main
theorem c_countUnchoked (R : RC h A) (I : OI A l c p) {a : Nat} (ha : a < 4) : pz_M (d + 2) mX0_countUnchoked [.ref 132, .int (nI a)] h Q ↔ Q (some (.int (nI (fre A a)))) h := by
  obtain ⟨a1, a2, a3, a4, a5, a6, a7, a8⟩ := ACT_of R
  have n1 := R.1.2.2.2.2.2.1.1
  simp only [enX0_countUnchoked, uX0_countUnchoked_0, uX0_countUnchoked_1, uX0_countUnchoked_2, uX0_countUnchoked_3, uX0_countUnchoked_5, uX0_countUnchoked_6, uX0_countUnchoked_9, uX0_countUnchoked_9o, uX0_countUnchoked_9f, uX0_countUnchoked_10, uX0_countUnchoked_13, uX0_countUnchoked_14, uX0_countUnchoked_15, uX0_countUnchoked_18, uX0_countUnchoked_18o, uX0_countUnchoked_20, uX0_countUnchoked_20o, uX0_countUnchoked_20f, uX0_countUnchoked_22, uX0_countUnchoked_22a, uX0_countUnchoked_25, uX0_countUnchoked_25o, uX0_countUnchoked_25f, uX0_countUnchoked_27, uX0_countUnchoked_30, uX0_countUnchoked_33, uX0_countUnchoked_33o, uX0_countUnchoked_33f, uX0_countUnchoked_35, uX0_countUnchoked_38, uX0_countUnchoked_41, uX0_countUnchoked_44, uX0_countUnchoked_47, uX0_countUnchoked_50, uX0_countUnchoked_51, pq_C_sI, pq_C_sJ, pq_C_sR, pq_C_sA, pq_L_sI, pq_L_sJ, pq_L_sR, pq_L_sA, pq_I_sI, pq_I_sJ, pq_I_sR, pq_I_sA, pq_J_sI, pq_J_sJ, pq_J_sR, pq_J_sA, pq_R_sI, pq_R_sJ, pq_R_sR, pq_R_sA, pq_N_sI, pq_N_sJ, pq_N_sR, pq_N_sA, pq_S_sI, pq_S_sJ, pq_S_sR, pq_S_sA, pz_rf_s, pz_cut_i, pz_cut_r, pz_cut_n, pz_cut_f, pz_cut_u, pz_cut_o, true_and, and_true, true_or, or_true, Option.toList_some, Option.toList_none, List.cons_append, List.nil_append, Nat.add_left_cancel_iff, Nat.left_eq_add, Nat.add_eq_left, Nat.reduceEqDiff, if_true, if_false, ite_true, ite_false, false_and, and_false, false_or, or_false, reduceIte, reduceCtorEq, and_self, z_4, z_5, z_7, z_8, z_10, z_16, z_20, z_64, not_false_eq_true]
  have key := wp_loop (d := d + 1) (m := mX0_countUnchoked) (pc := 4) (Q := Q) 5 (fun i ls h' => h' = h ∧ ∃ v4, ls = [.ref 132, .int (nI a), .int (nI (cnt (fun c => sB A 23 (5 * a + c) ≠ 0 ∧ sB A 26 (5 * a + c) = 0) i)), .int (nI i), v4]) (by
    rintro i ls h' hi ⟨rfl, v4, rfl⟩
    have stp : cnt (fun c => sB A 23 (5 * a + c) ≠ 0 ∧ sB A 26 (5 * a + c) = 0) (i + 1) = cnt (fun c => sB A 23 (5 * a + c) ≠ 0 ∧ sB A 26 (5 * a + c) = 0) i + (if sB A 23 (5 * a + i) ≠ 0 ∧ sB A 26 (5 * a + i) = 0 then 1 else 0) := rfl
    refine ⟨_, _, ⟨rfl, pz_rf (lkO (nI a) (nI i)), rfl⟩, ?_⟩
    rw [uX0_countUnchoked_4]
    by_cases e : a = i
    · subst e
      simp only [enX0_countUnchoked, uX0_countUnchoked_0, uX0_countUnchoked_1, uX0_countUnchoked_2, uX0_countUnchoked_3, uX0_countUnchoked_5, uX0_countUnchoked_6, uX0_countUnchoked_9, uX0_countUnchoked_9o, uX0_countUnchoked_9f, uX0_countUnchoked_10, uX0_countUnchoked_13, uX0_countUnchoked_14, uX0_countUnchoked_15, uX0_countUnchoked_18, uX0_countUnchoked_18o, uX0_countUnchoked_20, uX0_countUnchoked_20o, uX0_countUnchoked_20f, uX0_countUnchoked_22, uX0_countUnchoked_22a, uX0_countUnchoked_25, uX0_countUnchoked_25o, uX0_countUnchoked_25f, uX0_countUnchoked_27, uX0_countUnchoked_30, uX0_countUnchoked_33, uX0_countUnchoked_33o, uX0_countUnchoked_33f, uX0_countUnchoked_35, uX0_countUnchoked_38, uX0_countUnchoked_41, uX0_countUnchoked_44, uX0_countUnchoked_47, uX0_countUnchoked_50, uX0_countUnchoked_51, pq_C_sI, pq_C_sJ, pq_C_sR, pq_C_sA, pq_L_sI, pq_L_sJ, pq_L_sR, pq_L_sA, pq_I_sI, pq_I_sJ, pq_I_sR, pq_I_sA, pq_J_sI, pq_J_sJ, pq_J_sR, pq_J_sA, pq_R_sI, pq_R_sJ, pq_R_sR, pq_R_sA, pq_N_sI, pq_N_sJ, pq_N_sR, pq_N_sA, pq_S_sI, pq_S_sJ, pq_S_sR, pq_S_sA, pz_rf_s, pz_cut_i, pz_cut_r, pz_cut_n, pz_cut_f, pz_cut_u, pz_cut_o, true_and, and_true, true_or, or_true, Option.toList_some, Option.toList_none, List.cons_append, List.nil_append, Nat.add_left_cancel_iff, Nat.left_eq_add, Nat.add_eq_left, Nat.reduceEqDiff, if_true, if_false, ite_true, ite_false, false_and, and_false, false_or, or_false, reduceIte, reduceCtorEq, and_self, z_4, z_5, z_7, z_8, z_10, z_16, z_20, z_64, not_false_eq_true, a1, a2, n1, c_linkOf R.1, lkO_eq (show a < 5 by omega), nI_1]
      rw [if_neg (show ¬ (5 : Int32) ≤ nI a from nI_ge hi (by decide)), stp]
      have z : sB A 23 (5 * a + a) = 0 := Classical.byContradiction (fun z => ((I.2.1 a a (by omega) (by omega)).1 z).1 rfl)
      rw [if_neg (fun w => w.1 z)]
      exact Iff.rfl
    · obtain ⟨⟨k1, k2, k3, k4, k5⟩, L⟩ := LN_of R (show a < 5 by omega) hi e
      have r3 := L.2.2.1
      have r6 := L.2.2.2.2.2.1
      simp only [enX0_countUnchoked, uX0_countUnchoked_0, uX0_countUnchoked_1, uX0_countUnchoked_2, uX0_countUnchoked_3, uX0_countUnchoked_5, uX0_countUnchoked_6, uX0_countUnchoked_9, uX0_countUnchoked_9o, uX0_countUnchoked_9f, uX0_countUnchoked_10, uX0_countUnchoked_13, uX0_countUnchoked_14, uX0_countUnchoked_15, uX0_countUnchoked_18, uX0_countUnchoked_18o, uX0_countUnchoked_20, uX0_countUnchoked_20o, uX0_countUnchoked_20f, uX0_countUnchoked_22, uX0_countUnchoked_22a, uX0_countUnchoked_25, uX0_countUnchoked_25o, uX0_countUnchoked_25f, uX0_countUnchoked_27, uX0_countUnchoked_30, uX0_countUnchoked_33, uX0_countUnchoked_33o, uX0_countUnchoked_33f, uX0_countUnchoked_35, uX0_countUnchoked_38, uX0_countUnchoked_41, uX0_countUnchoked_44, uX0_countUnchoked_47, uX0_countUnchoked_50, uX0_countUnchoked_51, pq_C_sI, pq_C_sJ, pq_C_sR, pq_C_sA, pq_L_sI, pq_L_sJ, pq_L_sR, pq_L_sA, pq_I_sI, pq_I_sJ, pq_I_sR, pq_I_sA, pq_J_sI, pq_J_sJ, pq_J_sR, pq_J_sA, pq_R_sI, pq_R_sJ, pq_R_sR, pq_R_sA, pq_N_sI, pq_N_sJ, pq_N_sR, pq_N_sA, pq_S_sI, pq_S_sJ, pq_S_sR, pq_S_sA, pz_rf_s, pz_cut_i, pz_cut_r, pz_cut_n, pz_cut_f, pz_cut_u, pz_cut_o, true_and, and_true, true_or, or_true, Option.toList_some, Option.toList_none, List.cons_append, List.nil_append, Nat.add_left_cancel_iff, Nat.left_eq_add, Nat.add_eq_left, Nat.reduceEqDiff, if_true, if_false, ite_true, ite_false, false_and, and_false, false_or, or_false, reduceIte, reduceCtorEq, and_self, z_4, z_5, z_7, z_8, z_10, z_16, z_20, z_64, not_false_eq_true, a1, a2, n1, c_linkOf R.1, lkO_of (show a < 5 by omega) hi e, k1, r3, r6, nI_1]
      rw [if_neg (show ¬ (5 : Int32) ≤ nI i from nI_ge hi (by decide)), stp]
      by_cases z : sB A 23 (5 * a + i) = 0
      · simp [z]
      · by_cases z2 : sB A 26 (5 * a + i) = 0
        · simp [z, z2]
        · simp [z, z2]) _ _ ⟨rfl, .retAddr 0, rfl⟩
  obtain ⟨ls, h', ⟨rfl, v4, rfl⟩, key⟩ := key
  refine Iff.trans (show _ ↔ _ from key) ?_
  rw [uX0_countUnchoked_4]
  simp only [enX0_countUnchoked, uX0_countUnchoked_0, uX0_countUnchoked_1, uX0_countUnchoked_2, uX0_countUnchoked_3, uX0_countUnchoked_5, uX0_countUnchoked_6, uX0_countUnchoked_9, uX0_countUnchoked_9o, uX0_countUnchoked_9f, uX0_countUnchoked_10, uX0_countUnchoked_13, uX0_countUnchoked_14, uX0_countUnchoked_15, uX0_countUnchoked_18, uX0_countUnchoked_18o, uX0_countUnchoked_20, uX0_countUnchoked_20o, uX0_countUnchoked_20f, uX0_countUnchoked_22, uX0_countUnchoked_22a, uX0_countUnchoked_25, uX0_countUnchoked_25o, uX0_countUnchoked_25f, uX0_countUnchoked_27, uX0_countUnchoked_30, uX0_countUnchoked_33, uX0_countUnchoked_33o, uX0_countUnchoked_33f, uX0_countUnchoked_35, uX0_countUnchoked_38, uX0_countUnchoked_41, uX0_countUnchoked_44, uX0_countUnchoked_47, uX0_countUnchoked_50, uX0_countUnchoked_51, pq_C_sI, pq_C_sJ, pq_C_sR, pq_C_sA, pq_L_sI, pq_L_sJ, pq_L_sR, pq_L_sA, pq_I_sI, pq_I_sJ, pq_I_sR, pq_I_sA, pq_J_sI, pq_J_sJ, pq_J_sR, pq_J_sA, pq_R_sI, pq_R_sJ, pq_R_sR, pq_R_sA, pq_N_sI, pq_N_sJ, pq_N_sR, pq_N_sA, pq_S_sI, pq_S_sJ, pq_S_sR, pq_S_sA, pz_rf_s, pz_cut_i, pz_cut_r, pz_cut_n, pz_cut_f, pz_cut_u, pz_cut_o, true_and, and_true, true_or, or_true, Option.toList_some, Option.toList_none, List.cons_append, List.nil_append, Nat.add_left_cancel_iff, Nat.left_eq_add, Nat.add_eq_left, Nat.reduceEqDiff, if_true, if_false, ite_true, ite_false, false_and, and_false, false_or, or_false, reduceIte, reduceCtorEq, and_self, z_4, z_5, z_7, z_8, z_10, z_16, z_20, z_64, not_false_eq_true]
  rw [if_pos (show (5 : Int32) ≤ nI 5 by decide)]
  exact Iff.rfl
theorem c_showChoking (R : RC h A) (I : OI A l c p) {a b : Nat} (ha : a < 4) (hb : b < 5) (hab : a ≠ b) (hj : sB A 23 (5 * a + b) ≠ 0) (K : ∀ h', HC h h' → RC h' (choA A a b) → Q none h') : pz_M (d + 5) mX0_showChoking [.ref 132, .ref (lkA (5 * a + b))] h Q := by
  obtain ⟨a1, a2, a3, a4, a5, a6, a7, a8⟩ := ACT_of R
  obtain ⟨⟨k1, k2, k3, k4, k5⟩, L⟩ := LN_of R (show a < 5 by omega) hb hab
  have hj2 := ((I.2.1 a b (by omega) hb).1 hj).2.2
  have r0 := L.1
  have r9 := L.2.2.2.2.2.2.2.2.1
  have r6 := L.2.2.2.2.2.1
  rw [if_neg hj] at r6
  have n1 := R.1.2.2.2.2.2.1.1
  have hle : fre A a ≤ 5 := cnt_le 5
  simp only [enX0_showChoking, uX0_showChoking_0, uX0_showChoking_0o, uX0_showChoking_0f, uX0_showChoking_1, uX0_showChoking_4, uX0_showChoking_7, uX0_showChoking_7o, uX0_showChoking_7f, uX0_showChoking_8, uX0_showChoking_11, uX0_showChoking_14, uX0_showChoking_14o, uX0_showChoking_14f, uX0_showChoking_15, uX0_showChoking_15o, uX0_showChoking_15f, uX0_showChoking_16, uX0_showChoking_19, uX0_showChoking_22, uX0_showChoking_23, uX0_showChoking_26, uX0_showChoking_27, uX0_showChoking_30, uX0_showChoking_31, uX0_showChoking_33, uX0_showChoking_36, uX0_showChoking_39, uX0_showChoking_39o, uX0_showChoking_39f, uX0_showChoking_40, uX0_showChoking_43, uX0_showChoking_46, uX0_showChoking_47, uX0_showChoking_50, uX0_showChoking_51, uX0_showChoking_53, uX0_showChoking_56, uX0_showChoking_57, uX0_showChoking_60, uX0_showChoking_60o, uX0_showChoking_60f, uX0_showChoking_61, uX0_showChoking_62, uX0_showChoking_65, uX0_showChoking_65o, uX0_showChoking_65f, uX0_showChoking_66, uX0_showChoking_67, uX0_showChoking_70, uX0_showChoking_71, uX0_showChoking_74, uX0_showChoking_75, uX0_showChoking_78, uX0_showChoking_78o, uX0_showChoking_78f, uX0_showChoking_79, uX0_showChoking_82, uX0_showChoking_82o, uX0_showChoking_82f, uX0_showChoking_83, uX0_showChoking_83o, uX0_showChoking_83f, uX0_showChoking_84, uX0_showChoking_87, uX0_showChoking_90, pq_C_sI, pq_C_sJ, pq_C_sR, pq_C_sA, pq_L_sI, pq_L_sJ, pq_L_sR, pq_L_sA, pq_I_sI, pq_I_sJ, pq_I_sR, pq_I_sA, pq_J_sI, pq_J_sJ, pq_J_sR, pq_J_sA, pq_R_sI, pq_R_sJ, pq_R_sR, pq_R_sA, pq_N_sI, pq_N_sJ, pq_N_sR, pq_N_sA, pq_S_sI, pq_S_sJ, pq_S_sR, pq_S_sA, pz_rf_s, pz_cut_i, pz_cut_r, pz_cut_n, pz_cut_f, pz_cut_u, pz_cut_o, true_and, and_true, true_or, or_true, Option.toList_some, Option.toList_none, List.cons_append, List.nil_append, Nat.add_left_cancel_iff, Nat.left_eq_add, Nat.add_eq_left, Nat.reduceEqDiff, if_true, if_false, ite_true, ite_false, false_and, and_false, false_or, or_false, reduceIte, reduceCtorEq, and_self, z_4, z_5, z_7, z_8, z_10, z_16, z_20, z_64, not_false_eq_true, a1, k1, r0, r9, r6, c_countUnchoked R I ha]
  unfold choA at K
  have snd : ∀ (w v : Int32), (w = 0 ∧ v = 1) ∨ (w = 1 ∧ v = 0) → (∀ h', HC h h' → RC h' (sndA (pz_u2 (sB A) 26 (5 * a + b) w, A.2) a b (tel v)) → Q none h') → ∀ x2 : Int32, (x2 = 0 ∧ w = 1) ∨ (x2 = 1 ∧ w = 0) → wp (d + 4) mX0_showChoking 60 [.ref 132, .ref (lkA (5 * a + b)), .int x2, .int w] [] h Q := by
    intro w v hwv K2 x2 hx2
    have R1 := RC_fl (j := 6) (r := 26) (v := w) R (show a < 5 by omega) hb hab hj (by decide)
    have I1 := OI_u2 (r := 26) (k := 5 * a + b) (v := w) I (by decide) hj
    have hb01 : w = 0 ∨ w = 1 := by rcases hwv with z | z; exact Or.inl z.1; exact Or.inr z.1
    have H1 : HC h (pz_sI h (lkA (5 * a + b)) 6 w) := HC_HF (cs := [lkA (5 * a + b)]) (HF_sI (by simp)) (fun x hx => by
      have := lkA_in (k := 5 * a + b) (by omega) (by omega)
      simp at hx; omega)
    have fin : pz_M (d + 4) mX0_notePlain [.ref 132, .int v] (pz_sI h (lkA (5 * a + b)) 6 w) (fun r h2 => wp (d + 4) mX0_showChoking 78 [.ref 132, .ref (lkA (5 * a + b)), .int x2, .int w] (r.toList ++ []) h2 Q) := by
      refine c_notePlain R1 (fun h2 F2 N2 => ?_)
      have R2 := RC_note R1 F2 N2
      obtain ⟨b1, b2, b3, b4, b5, b6, b7, b8⟩ := ACT_of R2
      have n2 := R2.1.2.2.2.2.2.1.1
      simp only [enX0_showChoking, uX0_showChoking_0, uX0_showChoking_0o, uX0_showChoking_0f, uX0_showChoking_1, uX0_showChoking_4, uX0_showChoking_7, uX0_showChoking_7o, uX0_showChoking_7f, uX0_showChoking_8, uX0_showChoking_11, uX0_showChoking_14, uX0_showChoking_14o, uX0_showChoking_14f, uX0_showChoking_15, uX0_showChoking_15o, uX0_showChoking_15f, uX0_showChoking_16, uX0_showChoking_19, uX0_showChoking_22, uX0_showChoking_23, uX0_showChoking_26, uX0_showChoking_27, uX0_showChoking_30, uX0_showChoking_31, uX0_showChoking_32, uX0_showChoking_32o, uX0_showChoking_32f, uX0_showChoking_33, uX0_showChoking_36, uX0_showChoking_39, uX0_showChoking_39o, uX0_showChoking_39f, uX0_showChoking_40, uX0_showChoking_43, uX0_showChoking_46, uX0_showChoking_47, uX0_showChoking_50, uX0_showChoking_51, uX0_showChoking_52, uX0_showChoking_53, uX0_showChoking_56, uX0_showChoking_57, uX0_showChoking_60, uX0_showChoking_60o, uX0_showChoking_60f, uX0_showChoking_61, uX0_showChoking_62, uX0_showChoking_65, uX0_showChoking_65o, uX0_showChoking_65f, uX0_showChoking_66, uX0_showChoking_67, uX0_showChoking_70, uX0_showChoking_71, uX0_showChoking_74, uX0_showChoking_75, uX0_showChoking_78, uX0_showChoking_78o, uX0_showChoking_78f, uX0_showChoking_79, uX0_showChoking_82, uX0_showChoking_82o, uX0_showChoking_82f, uX0_showChoking_83, uX0_showChoking_83o, uX0_showChoking_83f, uX0_showChoking_84, uX0_showChoking_87, uX0_showChoking_90, pq_C_sI, pq_C_sJ, pq_C_sR, pq_C_sA, pq_L_sI, pq_L_sJ, pq_L_sR, pq_L_sA, pq_I_sI, pq_I_sJ, pq_I_sR, pq_I_sA, pq_J_sI, pq_J_sJ, pq_J_sR, pq_J_sA, pq_R_sI, pq_R_sJ, pq_R_sR, pq_R_sA, pq_N_sI, pq_N_sJ, pq_N_sR, pq_N_sA, pq_S_sI, pq_S_sJ, pq_S_sR, pq_S_sA, pz_rf_s, pz_cut_i, pz_cut_r, pz_cut_n, pz_cut_f, pz_cut_u, pz_cut_o, true_and, and_true, true_or, or_true, Option.toList_some, Option.toList_none, List.cons_append, List.nil_append, Nat.add_left_cancel_iff, Nat.left_eq_add, Nat.add_eq_left, Nat.reduceEqDiff, if_true, if_false, ite_true, ite_false, false_and, and_false, false_or, or_false, reduceIte, reduceCtorEq, and_self, z_4, z_5, z_7, z_8, z_10, z_16, z_20, z_64, not_false_eq_true, b1, b2, b5, n2]
      refine c_send R2 (show a < 5 by omega) hb hab hj2 (I1.1.2.1 _ (by omega)) N2 (fun h3 F3 R3 => ?_)
      simp only [enX0_showChoking, uX0_showChoking_0, uX0_showChoking_0o, uX0_showChoking_0f, uX0_showChoking_1, uX0_showChoking_4, uX0_showChoking_7, uX0_showChoking_7o, uX0_showChoking_7f, uX0_showChoking_8, uX0_showChoking_11, uX0_showChoking_14, uX0_showChoking_14o, uX0_showChoking_14f, uX0_showChoking_15, uX0_showChoking_15o, uX0_showChoking_15f, uX0_showChoking_16, uX0_showChoking_19, uX0_showChoking_22, uX0_showChoking_23, uX0_showChoking_26, uX0_showChoking_27, uX0_showChoking_30, uX0_showChoking_31, uX0_showChoking_32, uX0_showChoking_32o, uX0_showChoking_32f, uX0_showChoking_33, uX0_showChoking_36, uX0_showChoking_39, uX0_showChoking_39o, uX0_showChoking_39f, uX0_showChoking_40, uX0_showChoking_43, uX0_showChoking_46, uX0_showChoking_47, uX0_showChoking_50, uX0_showChoking_51, uX0_showChoking_52, uX0_showChoking_53, uX0_showChoking_56, uX0_showChoking_57, uX0_showChoking_60, uX0_showChoking_60o, uX0_showChoking_60f, uX0_showChoking_61, uX0_showChoking_62, uX0_showChoking_65, uX0_showChoking_65o, uX0_showChoking_65f, uX0_showChoking_66, uX0_showChoking_67, uX0_showChoking_70, uX0_showChoking_71, uX0_showChoking_74, uX0_showChoking_75, uX0_showChoking_78, uX0_showChoking_78o, uX0_showChoking_78f, uX0_showChoking_79, uX0_showChoking_82, uX0_showChoking_82o, uX0_showChoking_82f, uX0_showChoking_83, uX0_showChoking_83o, uX0_showChoking_83f, uX0_showChoking_84, uX0_showChoking_87, uX0_showChoking_90, pq_C_sI, pq_C_sJ, pq_C_sR, pq_C_sA, pq_L_sI, pq_L_sJ, pq_L_sR, pq_L_sA, pq_I_sI, pq_I_sJ, pq_I_sR, pq_I_sA, pq_J_sI, pq_J_sJ, pq_J_sR, pq_J_sA, pq_R_sI, pq_R_sJ, pq_R_sR, pq_R_sA, pq_N_sI, pq_N_sJ, pq_N_sR, pq_N_sA, pq_S_sI, pq_S_sJ, pq_S_sR, pq_S_sA, pz_rf_s, pz_cut_i, pz_cut_r, pz_cut_n, pz_cut_f, pz_cut_u, pz_cut_o, true_and, and_true, true_or, or_true, Option.toList_some, Option.toList_none, List.cons_append, List.nil_append, Nat.add_left_cancel_iff, Nat.left_eq_add, Nat.add_eq_left, Nat.reduceEqDiff, if_true, if_false, ite_true, ite_false, false_and, and_false, false_or, or_false, reduceIte, reduceCtorEq, and_self, z_4, z_5, z_7, z_8, z_10, z_16, z_20, z_64, not_false_eq_true]
      exact K2 h3 (HC_trans H1 (HC_trans (HC_note F2) (HC_HL F3))) R3
    simp only [enX0_showChoking, uX0_showChoking_0, uX0_showChoking_0o, uX0_showChoking_0f, uX0_showChoking_1, uX0_showChoking_4, uX0_showChoking_7, uX0_showChoking_7o, uX0_showChoking_7f, uX0_showChoking_8, uX0_showChoking_11, uX0_showChoking_14, uX0_showChoking_14o, uX0_showChoking_14f, uX0_showChoking_15, uX0_showChoking_15o, uX0_showChoking_15f, uX0_showChoking_16, uX0_showChoking_19, uX0_showChoking_22, uX0_showChoking_23, uX0_showChoking_26, uX0_showChoking_27, uX0_showChoking_30, uX0_showChoking_31, uX0_showChoking_33, uX0_showChoking_36, uX0_showChoking_39, uX0_showChoking_39o, uX0_showChoking_39f, uX0_showChoking_40, uX0_showChoking_43, uX0_showChoking_46, uX0_showChoking_47, uX0_showChoking_50, uX0_showChoking_51, uX0_showChoking_53, uX0_showChoking_56, uX0_showChoking_57, uX0_showChoking_60, uX0_showChoking_60o, uX0_showChoking_60f, uX0_showChoking_61, uX0_showChoking_62, uX0_showChoking_65, uX0_showChoking_65o, uX0_showChoking_65f, uX0_showChoking_66, uX0_showChoking_67, uX0_showChoking_70, uX0_showChoking_71, uX0_showChoking_74, uX0_showChoking_75, uX0_showChoking_78, uX0_showChoking_78o, uX0_showChoking_78f, uX0_showChoking_79, uX0_showChoking_82, uX0_showChoking_82o, uX0_showChoking_82f, uX0_showChoking_83, uX0_showChoking_83o, uX0_showChoking_83f, uX0_showChoking_84, uX0_showChoking_87, uX0_showChoking_90, pq_C_sI, pq_C_sJ, pq_C_sR, pq_C_sA, pq_L_sI, pq_L_sJ, pq_L_sR, pq_L_sA, pq_I_sI, pq_I_sJ, pq_I_sR, pq_I_sA, pq_J_sI, pq_J_sJ, pq_J_sR, pq_J_sA, pq_R_sI, pq_R_sJ, pq_R_sR, pq_R_sA, pq_N_sI, pq_N_sJ, pq_N_sR, pq_N_sA, pq_S_sI, pq_S_sJ, pq_S_sR, pq_S_sA, pz_rf_s, pz_cut_i, pz_cut_r, pz_cut_n, pz_cut_f, pz_cut_u, pz_cut_o, true_and, and_true, true_or, or_true, Option.toList_some, Option.toList_none, List.cons_append, List.nil_append, Nat.add_left_cancel_iff, Nat.left_eq_add, Nat.add_eq_left, Nat.reduceEqDiff, if_true, if_false, ite_true, ite_false, false_and, and_false, false_or, or_false, reduceIte, reduceCtorEq, and_self, z_4, z_5, z_7, z_8, z_10, z_16, z_20, z_64, not_false_eq_true, a1, k1, hb01]
    rcases hwv with ⟨rfl, rfl⟩ | ⟨rfl, rfl⟩
    · rw [if_pos rfl]
      exact fin
    · rw [if_neg (by decide)]
      exact fin
  have mid : ∀ x2 : Int32, (x2 = 1 ∧ sB A 29 (5 * a + b) ≠ 0 ∧ sB A 26 (5 * a + b) ≠ 0 ∧ fre A a < 3) ∨ (x2 = 0 ∧ ¬ (sB A 29 (5 * a + b) ≠ 0 ∧ sB A 26 (5 * a + b) ≠ 0 ∧ fre A a < 3)) → wp (d + 4) mX0_showChoking 32 [.ref 132, .ref (lkA (5 * a + b)), .int x2, .retAddr 0] [] h Q := by
    intro x2 hx
    simp only [enX0_showChoking, uX0_showChoking_0, uX0_showChoking_0o, uX0_showChoking_0f, uX0_showChoking_1, uX0_showChoking_4, uX0_showChoking_7, uX0_showChoking_7o, uX0_showChoking_7f, uX0_showChoking_8, uX0_showChoking_11, uX0_showChoking_14, uX0_showChoking_14o, uX0_showChoking_14f, uX0_showChoking_15, uX0_showChoking_15o, uX0_showChoking_15f, uX0_showChoking_16, uX0_showChoking_19, uX0_showChoking_22, uX0_showChoking_23, uX0_showChoking_26, uX0_showChoking_27, uX0_showChoking_30, uX0_showChoking_31, uX0_showChoking_32, uX0_showChoking_32o, uX0_showChoking_32f, uX0_showChoking_33, uX0_showChoking_36, uX0_showChoking_39, uX0_showChoking_39o, uX0_showChoking_39f, uX0_showChoking_40, uX0_showChoking_43, uX0_showChoking_46, uX0_showChoking_47, uX0_showChoking_50, uX0_showChoking_51, uX0_showChoking_52, uX0_showChoking_53, uX0_showChoking_56, uX0_showChoking_57, uX0_showChoking_61, uX0_showChoking_62, uX0_showChoking_65, uX0_showChoking_65o, uX0_showChoking_65f, uX0_showChoking_66, uX0_showChoking_67, uX0_showChoking_70, uX0_showChoking_71, uX0_showChoking_74, uX0_showChoking_75, uX0_showChoking_78, uX0_showChoking_78o, uX0_showChoking_78f, uX0_showChoking_79, uX0_showChoking_82, uX0_showChoking_82o, uX0_showChoking_82f, uX0_showChoking_83, uX0_showChoking_83o, uX0_showChoking_83f, uX0_showChoking_84, uX0_showChoking_87, uX0_showChoking_90, pq_C_sI, pq_C_sJ, pq_C_sR, pq_C_sA, pq_L_sI, pq_L_sJ, pq_L_sR, pq_L_sA, pq_I_sI, pq_I_sJ, pq_I_sR, pq_I_sA, pq_J_sI, pq_J_sJ, pq_J_sR, pq_J_sA, pq_R_sI, pq_R_sJ, pq_R_sR, pq_R_sA, pq_N_sI, pq_N_sJ, pq_N_sR, pq_N_sA, pq_S_sI, pq_S_sJ, pq_S_sR, pq_S_sA, pz_rf_s, pz_cut_i, pz_cut_r, pz_cut_n, pz_cut_f, pz_cut_u, pz_cut_o, true_and, and_true, true_or, or_true, Option.toList_some, Option.toList_none, List.cons_append, List.nil_append, Nat.add_left_cancel_iff, Nat.left_eq_add, Nat.add_eq_left, Nat.reduceEqDiff, if_true, if_false, ite_true, ite_false, false_and, and_false, false_or, or_false, reduceIte, reduceCtorEq, and_self, z_4, z_5, z_7, z_8, z_10, z_16, z_20, z_64, not_false_eq_true, k1, r9, r6]
    rcases hx with ⟨rfl, q1, q2, q3⟩ | ⟨rfl, q⟩
    · rw [if_pos ⟨q1, q2, q3⟩] at K
      rw [if_pos q1]
      simp only [show ¬ (1 : Int32) = 0 by decide, not_false_eq_true, if_true]
      exact snd 0 1 (Or.inl ⟨rfl, rfl⟩) K 1 (Or.inr ⟨rfl, rfl⟩)
    · rw [if_neg q] at K
      simp only [not_true_eq_false, if_false, if_true, show ¬ (1 : Int32) = 0 by decide]
      by_cases z1 : sB A 29 (5 * a + b) = 0
      · rw [if_neg (fun z => z z1)]
        by_cases z2 : sB A 26 (5 * a + b) = 0
        · rw [if_pos ⟨z1, z2⟩] at K
          rw [if_neg (fun z => z z2)]
          exact snd 1 0 (Or.inr ⟨rfl, rfl⟩) K 0 (Or.inl ⟨rfl, rfl⟩)
        · rw [if_neg (fun z => z2 z.2)] at K
          rw [if_pos z2]
          exact K h HC_refl R
      · rw [if_neg (fun z => z1 z.1)] at K
        rw [if_pos z1]
        exact K h HC_refl R
  by_cases z1 : sB A 29 (5 * a + b) = 0
  · rw [if_pos z1]
    exact mid 0 (Or.inr ⟨rfl, fun z => z.1 z1⟩)
  · rw [if_neg z1]
    by_cases z2 : sB A 26 (5 * a + b) = 0
    · rw [if_pos z2]
      exact mid 0 (Or.inr ⟨rfl, fun z => z.2.1 z2⟩)
    · rw [if_neg z2]
      by_cases z3 : fre A a < 3
      · rw [if_neg (show ¬ (3 : Int32) ≤ nI (fre A a) from nI_ge z3 (by decide))]
        exact mid 1 (Or.inl ⟨rfl, z1, z2, z3⟩)
      · rw [if_pos (show (3 : Int32) ≤ nI (fre A a) from nI_le (a := 3) (by omega) (by omega))]
        exact mid 0 (Or.inr ⟨rfl, fun z => z3 z.2.2⟩)
end
