/-! ===== the class: bytes ===== -/
section
variable {d : Nat} {h h' : PzH} {Q : Option Value → PzH → Prop} {A A' : St} {l c p : Nat}
theorem TRS_A (T : TRS h A) (e0 : ∀ j, (j = 18 ∨ j = 19 ∨ j = 20 ∨ j = 21) → sB A' 0 j = sB A 0 j) (e2 : sV A' 2 = sV A 2) (e3 : sV A' 3 = sV A 3) (eF : sF A' = sF A) : TRS h A' := by
  obtain ⟨t, ht, r1, r2, ⟨t0, t1, t2, t3, t4, t5, t6⟩, w1, w2⟩ := T
  refine ⟨t, ht, r1, r2, ⟨?_, ?_, ?_, ?_, ?_, ?_, ?_⟩, w1, w2⟩
  · rw [e0 18 (by decide)]; exact t0
  · rw [e0 19 (by decide)]; exact t1
  · rw [e0 20 (by decide)]; exact t2
  · rw [e0 21 (by decide)]; exact t3
  · rw [eF]; exact t4
  · rw [e2]; exact t5
  · rw [e3]; exact t6
/-- TAPE, OUT, CONTENT and the place change -/
theorem RC_by {cs : List Nat} (R : RC h A) (f : HF cs h h') (hc : ∀ x, x ∈ cs → x ≤ 6) (B' : BYS h' A') (e2 : sV A' 2 = sV A 2) (e3 : sV A' 3 = sV A 3) (eF : sF A' = sF A) (eW : sW A' = sW A) (eL : sL A' = sL A) (eD : sD A' = sD A) (e0 : ∀ j, (j = 18 ∨ j = 19 ∨ j = 20 ∨ j = 21) → sB A' 0 j = sB A 0 j) (eB : ∀ r, r ≠ 0 → sB A' r = sB A r) : RC h' A' := by
  obtain ⟨C, T, B, CL, LL, J⟩ := R
  have out : ∀ x, 6 < x → x ∉ cs := fun x hx z => by have := hc x z; omega
  refine ⟨CO_fr C f, TRS_A (TRS_fr T f (fun x h1 h2 => out x (by omega)) (fun _ => rfl) rfl rfl) e0 e2 e3 eF, B', fun k hk => CR_fr (CL k hk) f (fun x h1 h2 => out x (by omega)) (fun r hr => eB r (by rintro rfl; revert hr; decide)) eD, fun a b ha hb hab => ?_, JNK_fr J f (fun x hx => out x (by omega))⟩
  have lin := lkA_in (k := 5 * a + b) (by omega) (by omega)
  refine LR_A (LR_fr (LL a b ha hb hab) f (fun z hz => out z (by rw [lkC_m] at hz; omega))) (fun r hr => by rw [eB r (by rintro rfl; revert hr; decide)]) (fun q hq => by rw [eB 30 (by decide)]) (by rw [eL]) (by rw [eW])
theorem RC_V0 {m : List Int8} (R : RC h A) (f : HF [1, 2] h h') (W : ROW h' 1 2 6000 m) : RC h' (stV A 0 m) := by
  refine RC_by R f (fun x hx => by simp at hx; omega) ?_ rfl rfl rfl rfl rfl rfl (fun _ _ => rfl) (fun _ _ => rfl)
  obtain ⟨b1, b2, b3, b4⟩ := R.2.2.1
  refine ⟨W, ROW_fr b2 f (by simp) (by simp), ROW_fr b3 f (by simp) (by simp), ?_⟩
  rw [f.2.2.2.2.2.2.2.1 0 (by simp)]
  exact b4
theorem RC_V1 {m : List Int8} (R : RC h A) (f : HF [3, 4] h h') (W : ROW h' 3 4 6000 m) : RC h' (stV A 1 m) := by
  refine RC_by R f (fun x hx => by simp at hx; omega) ?_ rfl rfl rfl rfl rfl rfl (fun _ _ => rfl) (fun _ _ => rfl)
  obtain ⟨b1, b2, b3, b4⟩ := R.2.2.1
  refine ⟨ROW_fr b1 f (by simp) (by simp), W, ROW_fr b3 f (by simp) (by simp), ?_⟩
  rw [f.2.2.2.2.2.2.2.1 0 (by simp)]
  exact b4
theorem HC_12 (f : HF [1, 2] h h') : HC h h' := HC_HF f (fun x hx => by simp at hx; omega)
theorem HC_34 (f : HF [3, 4] h h') : HC h h' := HC_HF f (fun x hx => by simp at hx; omega)
theorem feedL_eq {a b c e f : Int32} : feedL a b c e f = be4 a ++ (be4 b ++ (be4 c ++ (be4 e ++ be4 f))) := by
  have e0 : (24 : Int32) - 8 * nI 0 = 24 := by decide
  have e1 : (24 : Int32) - 8 * nI 1 = 16 := by decide
  have e2 : (24 : Int32) - 8 * nI 2 = 8 := by decide
  have e3 : (24 : Int32) - 8 * nI 3 = 0 := by decide
  unfold feedL ofF be4
  simp only [show List.range 20 = [0, 1, 2, 3, 4, 5, 6, 7, 8, 9, 10, 11, 12, 13, 14, 15, 16, 17, 18, 19] from rfl, List.map_cons, List.map_nil, List.cons_append, List.nil_append]
  simp only [fdB, fdW, i88, Nat.reduceMod, Nat.reduceDiv, Nat.reduceLT, if_true, if_false, e0, e1, e2, e3]
theorem c_feed (R : RC h A) {a b c e f : Int32} (K : ∀ h', HC h h' → RC h' (feedA A a b c e f).2 → Q (some (.int (feedA A a b c e f).1)) h') : pz_M (d + 3) mX9_feed [.ref 0, .int a, .int b, .int c, .int e, .int f] h Q := by
  obtain ⟨s0, s1, s2, s3, s4, s5, s6, s7⟩ := DS_of R
  have W := R.2.2.1.1
  have W1 := W.1
  have w8 := W.2.2.2.2.2.2.2.1
  simp only [enX9_feed, uX9_feed_0, uX9_feed_0o, uX9_feed_0f, uX9_feed_1, uX9_feed_4, uX9_feed_6, uX9_feed_9, uX9_feed_12, uX9_feed_13, uX9_feed_14, uX9_feed_14o, uX9_feed_14f, uX9_feed_15, uX9_feed_18, uX9_feed_19, uX9_feed_22, uX9_feed_22o, uX9_feed_22f, uX9_feed_23, uX9_feed_26, uX9_feed_27, uX9_feed_30, uX9_feed_30o, uX9_feed_30f, uX9_feed_31, uX9_feed_34, uX9_feed_35, uX9_feed_38, uX9_feed_38o, uX9_feed_38f, uX9_feed_39, uX9_feed_42, uX9_feed_44, uX9_feed_47, uX9_feed_47o, uX9_feed_47f, uX9_feed_48, uX9_feed_51, uX9_feed_53, uX9_feed_56, uX9_feed_56o, uX9_feed_56f, uX9_feed_57, uX9_feed_60, uX9_feed_63, pq_C_sI, pq_C_sJ, pq_C_sR, pq_C_sA, pq_L_sI, pq_L_sJ, pq_L_sR, pq_L_sA, pq_I_sI, pq_I_sJ, pq_I_sR, pq_I_sA, pq_J_sI, pq_J_sJ, pq_J_sR, pq_J_sA, pq_R_sI, pq_R_sJ, pq_R_sR, pq_R_sA, pq_N_sI, pq_N_sJ, pq_N_sR, pq_N_sA, pq_S_sI, pq_S_sJ, pq_S_sR, pq_S_sA, pz_rf_s, pz_cut_i, pz_cut_r, pz_cut_n, pz_cut_f, pz_cut_u, pz_cut_o, true_and, and_true, true_or, or_true, Option.toList_some, Option.toList_none, List.cons_append, List.nil_append, Nat.add_left_cancel_iff, Nat.left_eq_add, Nat.add_eq_left, Nat.reduceEqDiff, if_true, if_false, ite_true, ite_false, false_and, and_false, false_or, or_false, reduceIte, reduceCtorEq, and_self, z_4, z_5, z_7, z_8, z_10, z_16, z_20, z_64, not_false_eq_true, s0, s1, W1, c_fits W]
  rw [if_neg (show ¬ (20 : Int32) < 0 by decide)]
  unfold feedA at K
  by_cases q : (sV A 0).length ≤ 5980
  · rw [if_pos q] at K
    rw [if_neg (show ¬ nI (6000 - (sV A 0).length) < 20 from nI_nlt (b := 20) (by omega) (by omega)), if_pos (show ¬ (1 : Int32) = 0 by decide)]
    refine c_addNumber W (by omega) (fun h1 F1 X1 => ?_)
    have A1 : pz_C h1 0 = 9 ∧ pz_R h1 0 0 = some 1 := by rw [F1.1, F1.2.2.1]; exact ⟨s0, s1⟩
    have Y1 := X1.1
    simp only [enX9_feed, uX9_feed_0, uX9_feed_0o, uX9_feed_0f, uX9_feed_1, uX9_feed_4, uX9_feed_6, uX9_feed_9, uX9_feed_12, uX9_feed_13, uX9_feed_14, uX9_feed_14o, uX9_feed_14f, uX9_feed_15, uX9_feed_18, uX9_feed_19, uX9_feed_22, uX9_feed_22o, uX9_feed_22f, uX9_feed_23, uX9_feed_26, uX9_feed_27, uX9_feed_30, uX9_feed_30o, uX9_feed_30f, uX9_feed_31, uX9_feed_34, uX9_feed_35, uX9_feed_38, uX9_feed_38o, uX9_feed_38f, uX9_feed_39, uX9_feed_42, uX9_feed_44, uX9_feed_47, uX9_feed_47o, uX9_feed_47f, uX9_feed_48, uX9_feed_51, uX9_feed_53, uX9_feed_56, uX9_feed_56o, uX9_feed_56f, uX9_feed_57, uX9_feed_60, uX9_feed_63, pq_C_sI, pq_C_sJ, pq_C_sR, pq_C_sA, pq_L_sI, pq_L_sJ, pq_L_sR, pq_L_sA, pq_I_sI, pq_I_sJ, pq_I_sR, pq_I_sA, pq_J_sI, pq_J_sJ, pq_J_sR, pq_J_sA, pq_R_sI, pq_R_sJ, pq_R_sR, pq_R_sA, pq_N_sI, pq_N_sJ, pq_N_sR, pq_N_sA, pq_S_sI, pq_S_sJ, pq_S_sR, pq_S_sA, pz_rf_s, pz_cut_i, pz_cut_r, pz_cut_n, pz_cut_f, pz_cut_u, pz_cut_o, true_and, and_true, true_or, or_true, Option.toList_some, Option.toList_none, List.cons_append, List.nil_append, Nat.add_left_cancel_iff, Nat.left_eq_add, Nat.add_eq_left, Nat.reduceEqDiff, if_true, if_false, ite_true, ite_false, false_and, and_false, false_or, or_false, reduceIte, reduceCtorEq, and_self, z_4, z_5, z_7, z_8, z_10, z_16, z_20, z_64, not_false_eq_true, A1, Y1]
    refine c_addNumber X1 (by simp [be4]; omega) (fun h2 F2 X2 => ?_)
    have A2 : pz_C h2 0 = 9 ∧ pz_R h2 0 0 = some 1 := by rw [F2.1, F2.2.2.1]; exact A1
    have Y2 := X2.1
    simp only [enX9_feed, uX9_feed_0, uX9_feed_0o, uX9_feed_0f, uX9_feed_1, uX9_feed_4, uX9_feed_6, uX9_feed_9, uX9_feed_12, uX9_feed_13, uX9_feed_14, uX9_feed_14o, uX9_feed_14f, uX9_feed_15, uX9_feed_18, uX9_feed_19, uX9_feed_22, uX9_feed_22o, uX9_feed_22f, uX9_feed_23, uX9_feed_26, uX9_feed_27, uX9_feed_30, uX9_feed_30o, uX9_feed_30f, uX9_feed_31, uX9_feed_34, uX9_feed_35, uX9_feed_38, uX9_feed_38o, uX9_feed_38f, uX9_feed_39, uX9_feed_42, uX9_feed_44, uX9_feed_47, uX9_feed_47o, uX9_feed_47f, uX9_feed_48, uX9_feed_51, uX9_feed_53, uX9_feed_56, uX9_feed_56o, uX9_feed_56f, uX9_feed_57, uX9_feed_60, uX9_feed_63, pq_C_sI, pq_C_sJ, pq_C_sR, pq_C_sA, pq_L_sI, pq_L_sJ, pq_L_sR, pq_L_sA, pq_I_sI, pq_I_sJ, pq_I_sR, pq_I_sA, pq_J_sI, pq_J_sJ, pq_J_sR, pq_J_sA, pq_R_sI, pq_R_sJ, pq_R_sR, pq_R_sA, pq_N_sI, pq_N_sJ, pq_N_sR, pq_N_sA, pq_S_sI, pq_S_sJ, pq_S_sR, pq_S_sA, pz_rf_s, pz_cut_i, pz_cut_r, pz_cut_n, pz_cut_f, pz_cut_u, pz_cut_o, true_and, and_true, true_or, or_true, Option.toList_some, Option.toList_none, List.cons_append, List.nil_append, Nat.add_left_cancel_iff, Nat.left_eq_add, Nat.add_eq_left, Nat.reduceEqDiff, if_true, if_false, ite_true, ite_false, false_and, and_false, false_or, or_false, reduceIte, reduceCtorEq, and_self, z_4, z_5, z_7, z_8, z_10, z_16, z_20, z_64, not_false_eq_true, A2, Y2]
    refine c_addNumber X2 (by simp [be4]; omega) (fun h3 F3 X3 => ?_)
    have A3 : pz_C h3 0 = 9 ∧ pz_R h3 0 0 = some 1 := by rw [F3.1, F3.2.2.1]; exact A2
    have Y3 := X3.1
    simp only [enX9_feed, uX9_feed_0, uX9_feed_0o, uX9_feed_0f, uX9_feed_1, uX9_feed_4, uX9_feed_6, uX9_feed_9, uX9_feed_12, uX9_feed_13, uX9_feed_14, uX9_feed_14o, uX9_feed_14f, uX9_feed_15, uX9_feed_18, uX9_feed_19, uX9_feed_22, uX9_feed_22o, uX9_feed_22f, uX9_feed_23, uX9_feed_26, uX9_feed_27, uX9_feed_30, uX9_feed_30o, uX9_feed_30f, uX9_feed_31, uX9_feed_34, uX9_feed_35, uX9_feed_38, uX9_feed_38o, uX9_feed_38f, uX9_feed_39, uX9_feed_42, uX9_feed_44, uX9_feed_47, uX9_feed_47o, uX9_feed_47f, uX9_feed_48, uX9_feed_51, uX9_feed_53, uX9_feed_56, uX9_feed_56o, uX9_feed_56f, uX9_feed_57, uX9_feed_60, uX9_feed_63, pq_C_sI, pq_C_sJ, pq_C_sR, pq_C_sA, pq_L_sI, pq_L_sJ, pq_L_sR, pq_L_sA, pq_I_sI, pq_I_sJ, pq_I_sR, pq_I_sA, pq_J_sI, pq_J_sJ, pq_J_sR, pq_J_sA, pq_R_sI, pq_R_sJ, pq_R_sR, pq_R_sA, pq_N_sI, pq_N_sJ, pq_N_sR, pq_N_sA, pq_S_sI, pq_S_sJ, pq_S_sR, pq_S_sA, pz_rf_s, pz_cut_i, pz_cut_r, pz_cut_n, pz_cut_f, pz_cut_u, pz_cut_o, true_and, and_true, true_or, or_true, Option.toList_some, Option.toList_none, List.cons_append, List.nil_append, Nat.add_left_cancel_iff, Nat.left_eq_add, Nat.add_eq_left, Nat.reduceEqDiff, if_true, if_false, ite_true, ite_false, false_and, and_false, false_or, or_false, reduceIte, reduceCtorEq, and_self, z_4, z_5, z_7, z_8, z_10, z_16, z_20, z_64, not_false_eq_true, A3, Y3]
    refine c_addNumber X3 (by simp [be4]; omega) (fun h4 F4 X4 => ?_)
    have A4 : pz_C h4 0 = 9 ∧ pz_R h4 0 0 = some 1 := by rw [F4.1, F4.2.2.1]; exact A3
    have Y4 := X4.1
    simp only [enX9_feed, uX9_feed_0, uX9_feed_0o, uX9_feed_0f, uX9_feed_1, uX9_feed_4, uX9_feed_6, uX9_feed_9, uX9_feed_12, uX9_feed_13, uX9_feed_14, uX9_feed_14o, uX9_feed_14f, uX9_feed_15, uX9_feed_18, uX9_feed_19, uX9_feed_22, uX9_feed_22o, uX9_feed_22f, uX9_feed_23, uX9_feed_26, uX9_feed_27, uX9_feed_30, uX9_feed_30o, uX9_feed_30f, uX9_feed_31, uX9_feed_34, uX9_feed_35, uX9_feed_38, uX9_feed_38o, uX9_feed_38f, uX9_feed_39, uX9_feed_42, uX9_feed_44, uX9_feed_47, uX9_feed_47o, uX9_feed_47f, uX9_feed_48, uX9_feed_51, uX9_feed_53, uX9_feed_56, uX9_feed_56o, uX9_feed_56f, uX9_feed_57, uX9_feed_60, uX9_feed_63, pq_C_sI, pq_C_sJ, pq_C_sR, pq_C_sA, pq_L_sI, pq_L_sJ, pq_L_sR, pq_L_sA, pq_I_sI, pq_I_sJ, pq_I_sR, pq_I_sA, pq_J_sI, pq_J_sJ, pq_J_sR, pq_J_sA, pq_R_sI, pq_R_sJ, pq_R_sR, pq_R_sA, pq_N_sI, pq_N_sJ, pq_N_sR, pq_N_sA, pq_S_sI, pq_S_sJ, pq_S_sR, pq_S_sA, pz_rf_s, pz_cut_i, pz_cut_r, pz_cut_n, pz_cut_f, pz_cut_u, pz_cut_o, true_and, and_true, true_or, or_true, Option.toList_some, Option.toList_none, List.cons_append, List.nil_append, Nat.add_left_cancel_iff, Nat.left_eq_add, Nat.add_eq_left, Nat.reduceEqDiff, if_true, if_false, ite_true, ite_false, false_and, and_false, false_or, or_false, reduceIte, reduceCtorEq, and_self, z_4, z_5, z_7, z_8, z_10, z_16, z_20, z_64, not_false_eq_true, A4, Y4]
    refine c_addNumber X4 (by simp [be4]; omega) (fun h5 F5 X5 => ?_)
    have A5 : pz_C h5 0 = 9 ∧ pz_R h5 0 0 = some 1 := by rw [F5.1, F5.2.2.1]; exact A4
    have Y5 := X5.1
    simp only [enX9_feed, uX9_feed_0, uX9_feed_0o, uX9_feed_0f, uX9_feed_1, uX9_feed_4, uX9_feed_6, uX9_feed_9, uX9_feed_12, uX9_feed_13, uX9_feed_14, uX9_feed_14o, uX9_feed_14f, uX9_feed_15, uX9_feed_18, uX9_feed_19, uX9_feed_22, uX9_feed_22o, uX9_feed_22f, uX9_feed_23, uX9_feed_26, uX9_feed_27, uX9_feed_30, uX9_feed_30o, uX9_feed_30f, uX9_feed_31, uX9_feed_34, uX9_feed_35, uX9_feed_38, uX9_feed_38o, uX9_feed_38f, uX9_feed_39, uX9_feed_42, uX9_feed_44, uX9_feed_47, uX9_feed_47o, uX9_feed_47f, uX9_feed_48, uX9_feed_51, uX9_feed_53, uX9_feed_56, uX9_feed_56o, uX9_feed_56f, uX9_feed_57, uX9_feed_60, uX9_feed_63, pq_C_sI, pq_C_sJ, pq_C_sR, pq_C_sA, pq_L_sI, pq_L_sJ, pq_L_sR, pq_L_sA, pq_I_sI, pq_I_sJ, pq_I_sR, pq_I_sA, pq_J_sI, pq_J_sJ, pq_J_sR, pq_J_sA, pq_R_sI, pq_R_sJ, pq_R_sR, pq_R_sA, pq_N_sI, pq_N_sJ, pq_N_sR, pq_N_sA, pq_S_sI, pq_S_sJ, pq_S_sR, pq_S_sA, pz_rf_s, pz_cut_i, pz_cut_r, pz_cut_n, pz_cut_f, pz_cut_u, pz_cut_o, true_and, and_true, true_or, or_true, Option.toList_some, Option.toList_none, List.cons_append, List.nil_append, Nat.add_left_cancel_iff, Nat.left_eq_add, Nat.add_eq_left, Nat.reduceEqDiff, if_true, if_false, ite_true, ite_false, false_and, and_false, false_or, or_false, reduceIte, reduceCtorEq, and_self, z_4, z_5, z_7, z_8, z_10, z_16, z_20, z_64, not_false_eq_true, A5, Y5, c_size X5]
    have eL : sV A 0 ++ be4 a ++ be4 b ++ be4 c ++ be4 e ++ be4 f = sV A 0 ++ feedL a b c e f := by
      rw [feedL_eq]
      simp only [List.append_assoc]
    have ll : (sV A 0 ++ feedL a b c e f).length = (sV A 0).length + 20 := by
      rw [List.length_append]
      congr 1
    rw [eL] at X5 ⊢
    rw [ll]
    have F15 := HF_trans F1 (HF_trans F2 (HF_trans F3 (HF_trans F4 F5)))
    exact K h5 (HC_12 F15) (RC_V0 R F15 X5)
  · rw [if_neg q] at K
    rw [if_pos (show nI (6000 - (sV A 0).length) < 20 from nI_lt (b := 20) (by omega) (by decide)), if_neg (fun z => z rfl)]
    exact K h HC_refl R
theorem c_end (R : RC h A) {n : Int32} (K : ∀ h', HC h h' → RC h' (endA A n).2 → Q (some (.int (endA A n).1)) h') : pz_M (d + 2) mX9_end [.ref 0, .int n] h Q := by
  obtain ⟨s0, s1, s2, s3, s4, s5, s6, s7⟩ := DS_of R
  have W := R.2.2.1.1
  have W1 := W.1
  have w8 := W.2.2.2.2.2.2.2.1
  simp only [enX9_end, uX9_end_0, uX9_end_1, uX9_end_4, uX9_end_5, uX9_end_5o, uX9_end_5f, uX9_end_6, uX9_end_9, uX9_end_12, uX9_end_15, uX9_end_16, uX9_end_17, uX9_end_17o, uX9_end_17f, uX9_end_18, uX9_end_21, uX9_end_22, uX9_end_25, uX9_end_26, pq_C_sI, pq_C_sJ, pq_C_sR, pq_C_sA, pq_L_sI, pq_L_sJ, pq_L_sR, pq_L_sA, pq_I_sI, pq_I_sJ, pq_I_sR, pq_I_sA, pq_J_sI, pq_J_sJ, pq_J_sR, pq_J_sA, pq_R_sI, pq_R_sJ, pq_R_sR, pq_R_sA, pq_N_sI, pq_N_sJ, pq_N_sR, pq_N_sA, pq_S_sI, pq_S_sJ, pq_S_sR, pq_S_sA, pz_rf_s, pz_cut_i, pz_cut_r, pz_cut_n, pz_cut_f, pz_cut_u, pz_cut_o, true_and, and_true, true_or, or_true, Option.toList_some, Option.toList_none, List.cons_append, List.nil_append, Nat.add_left_cancel_iff, Nat.left_eq_add, Nat.add_eq_left, Nat.reduceEqDiff, if_true, if_false, ite_true, ite_false, false_and, and_false, false_or, or_false, reduceIte, reduceCtorEq, and_self, z_4, z_5, z_7, z_8, z_10, z_16, z_20, z_64, not_false_eq_true, s0, s1, W1, c_size W]
  unfold endA vI at K
  by_cases h0 : n < 0
  · rw [if_pos h0] at K ⊢
    exact K h HC_refl R
  · rw [if_neg h0] at K ⊢
    obtain ⟨j, hj, rfl⟩ := nI_of h0
    by_cases h1 : j ≤ (sV A 0).length
    · rw [if_pos (nI_lt (by omega) (by omega))] at K
      rw [if_pos (nI_le h1 (by omega))]
      rw [nI_clamp hj] at K
      refine c_cut W h1 (fun h1 F1 X1 => ?_)
      simp only [enX9_end, uX9_end_0, uX9_end_1, uX9_end_4, uX9_end_5, uX9_end_5o, uX9_end_5f, uX9_end_6, uX9_end_9, uX9_end_12, uX9_end_15, uX9_end_16, uX9_end_17, uX9_end_17o, uX9_end_17f, uX9_end_18, uX9_end_21, uX9_end_22, uX9_end_25, uX9_end_26, pq_C_sI, pq_C_sJ, pq_C_sR, pq_C_sA, pq_L_sI, pq_L_sJ, pq_L_sR, pq_L_sA, pq_I_sI, pq_I_sJ, pq_I_sR, pq_I_sA, pq_J_sI, pq_J_sJ, pq_J_sR, pq_J_sA, pq_R_sI, pq_R_sJ, pq_R_sR, pq_R_sA, pq_N_sI, pq_N_sJ, pq_N_sR, pq_N_sA, pq_S_sI, pq_S_sJ, pq_S_sR, pq_S_sA, pz_rf_s, pz_cut_i, pz_cut_r, pz_cut_n, pz_cut_f, pz_cut_u, pz_cut_o, true_and, and_true, true_or, or_true, Option.toList_some, Option.toList_none, List.cons_append, List.nil_append, Nat.add_left_cancel_iff, Nat.left_eq_add, Nat.add_eq_left, Nat.reduceEqDiff, if_true, if_false, ite_true, ite_false, false_and, and_false, false_or, or_false, reduceIte, reduceCtorEq, and_self, z_4, z_5, z_7, z_8, z_10, z_16, z_20, z_64, not_false_eq_true]
      exact K h1 (HC_12 F1) (RC_V0 R F1 X1)
    · rw [if_neg (nI_nlt (by omega) (by omega))] at K
      rw [if_neg (nI_ge (show (sV A 0).length < j by omega) hj)]
      exact K h HC_refl R
theorem c_take (R : RC h A) (K : ∀ h', HC h h' → RC h' (takeA A).2 → Q (some (.int (takeA A).1)) h') : pz_M (d + 3) mX9_take [.ref 0] h Q := by
  obtain ⟨s0, s1, s2, s3, s4, s5, s6, s7⟩ := DS_of R
  have W := R.2.2.1.1
  have V := R.2.2.1.2.1
  have W1 := W.1
  have v8 := V.2.2.2.2.2.2.2.1
  simp only [enX9_take, uX9_take_0, uX9_take_0o, uX9_take_0f, uX9_take_1, uX9_take_4, uX9_take_5, uX9_take_8, uX9_take_8o, uX9_take_8f, uX9_take_9, uX9_take_12, uX9_take_12o, uX9_take_12f, uX9_take_13, uX9_take_16, uX9_take_17, uX9_take_17o, uX9_take_17f, uX9_take_18, uX9_take_21, uX9_take_24, uX9_take_27, uX9_take_27o, uX9_take_27f, uX9_take_28, uX9_take_31, uX9_take_34, pq_C_sI, pq_C_sJ, pq_C_sR, pq_C_sA, pq_L_sI, pq_L_sJ, pq_L_sR, pq_L_sA, pq_I_sI, pq_I_sJ, pq_I_sR, pq_I_sA, pq_J_sI, pq_J_sJ, pq_J_sR, pq_J_sA, pq_R_sI, pq_R_sJ, pq_R_sR, pq_R_sA, pq_N_sI, pq_N_sJ, pq_N_sR, pq_N_sA, pq_S_sI, pq_S_sJ, pq_S_sR, pq_S_sA, pz_rf_s, pz_cut_i, pz_cut_r, pz_cut_n, pz_cut_f, pz_cut_u, pz_cut_o, true_and, and_true, true_or, or_true, Option.toList_some, Option.toList_none, List.cons_append, List.nil_append, Nat.add_left_cancel_iff, Nat.left_eq_add, Nat.add_eq_left, Nat.reduceEqDiff, if_true, if_false, ite_true, ite_false, false_and, and_false, false_or, or_false, reduceIte, reduceCtorEq, and_self, z_4, z_5, z_7, z_8, z_10, z_16, z_20, z_64, not_false_eq_true, s0, s1, W1]
  refine c_cut0 W (fun h1 F1 X1 => ?_)
  have A1 : pz_C h1 0 = 9 ∧ pz_R h1 0 0 = some 1 ∧ pz_R h1 0 1 = some 3 := by rw [F1.1, F1.2.2.1]; exact ⟨s0, s1, s2⟩
  have V1 := ROW_fr V F1 (by simp) (by simp)
  have Y1 := X1.1
  have Z1 := V1.1
  simp only [enX9_take, uX9_take_0, uX9_take_0o, uX9_take_0f, uX9_take_1, uX9_take_4, uX9_take_5, uX9_take_8, uX9_take_8o, uX9_take_8f, uX9_take_9, uX9_take_12, uX9_take_12o, uX9_take_12f, uX9_take_13, uX9_take_16, uX9_take_17, uX9_take_17o, uX9_take_17f, uX9_take_18, uX9_take_21, uX9_take_24, uX9_take_27, uX9_take_27o, uX9_take_27f, uX9_take_28, uX9_take_31, uX9_take_34, pq_C_sI, pq_C_sJ, pq_C_sR, pq_C_sA, pq_L_sI, pq_L_sJ, pq_L_sR, pq_L_sA, pq_I_sI, pq_I_sJ, pq_I_sR, pq_I_sA, pq_J_sI, pq_J_sJ, pq_J_sR, pq_J_sA, pq_R_sI, pq_R_sJ, pq_R_sR, pq_R_sA, pq_N_sI, pq_N_sJ, pq_N_sR, pq_N_sA, pq_S_sI, pq_S_sJ, pq_S_sR, pq_S_sA, pz_rf_s, pz_cut_i, pz_cut_r, pz_cut_n, pz_cut_f, pz_cut_u, pz_cut_o, true_and, and_true, true_or, or_true, Option.toList_some, Option.toList_none, List.cons_append, List.nil_append, Nat.add_left_cancel_iff, Nat.left_eq_add, Nat.add_eq_left, Nat.reduceEqDiff, if_true, if_false, ite_true, ite_false, false_and, and_false, false_or, or_false, reduceIte, reduceCtorEq, and_self, z_4, z_5, z_7, z_8, z_10, z_16, z_20, z_64, not_false_eq_true, A1, Y1, Z1, c_size V1]
  refine (show _ from c_addPart (b := 0) (n := (sV A 1).length) X1 V1 ⟨by decide, by decide⟩ (by omega) (by simp; omega) (fun h2 F2 X2 => ?_) : pz_M (d + 2) mX6_addPart [.ref 1, .ref 3, .int 0, .int (nI (sV A 1).length)] h1 _)
  have A2 : pz_C h2 0 = 9 ∧ pz_R h2 0 0 = some 1 := by rw [F2.1, F2.2.2.1]; exact ⟨A1.1, A1.2.1⟩
  have Y2 := X2.1
  rw [List.nil_append, ofF_take (Nat.le_refl _), List.take_length] at X2
  simp only [enX9_take, uX9_take_0, uX9_take_0o, uX9_take_0f, uX9_take_1, uX9_take_4, uX9_take_5, uX9_take_8, uX9_take_8o, uX9_take_8f, uX9_take_9, uX9_take_12, uX9_take_12o, uX9_take_12f, uX9_take_13, uX9_take_16, uX9_take_17, uX9_take_17o, uX9_take_17f, uX9_take_18, uX9_take_21, uX9_take_24, uX9_take_27, uX9_take_27o, uX9_take_27f, uX9_take_28, uX9_take_31, uX9_take_34, pq_C_sI, pq_C_sJ, pq_C_sR, pq_C_sA, pq_L_sI, pq_L_sJ, pq_L_sR, pq_L_sA, pq_I_sI, pq_I_sJ, pq_I_sR, pq_I_sA, pq_J_sI, pq_J_sJ, pq_J_sR, pq_J_sA, pq_R_sI, pq_R_sJ, pq_R_sR, pq_R_sA, pq_N_sI, pq_N_sJ, pq_N_sR, pq_N_sA, pq_S_sI, pq_S_sJ, pq_S_sR, pq_S_sA, pz_rf_s, pz_cut_i, pz_cut_r, pz_cut_n, pz_cut_f, pz_cut_u, pz_cut_o, true_and, and_true, true_or, or_true, Option.toList_some, Option.toList_none, List.cons_append, List.nil_append, Nat.add_left_cancel_iff, Nat.left_eq_add, Nat.add_eq_left, Nat.reduceEqDiff, if_true, if_false, ite_true, ite_false, false_and, and_false, false_or, or_false, reduceIte, reduceCtorEq, and_self, z_4, z_5, z_7, z_8, z_10, z_16, z_20, z_64, not_false_eq_true, A2, Y2, c_size X2]
  have F12 := HF_trans F1 F2
  exact K h2 (HC_12 F12) (RC_V0 R F12 X2)
theorem c_alter (R : RC h A) {i v : Int32} (K : ∀ h', HC h h' → RC h' (altA A i v).2 → Q (some (.int (altA A i v).1)) h') : pz_M (d + 2) mX9_alter [.ref 0, .int i, .int v] h Q := by
  obtain ⟨s0, s1, s2, s3, s4, s5, s6, s7⟩ := DS_of R
  have W := R.2.2.1.1
  have W1 := W.1
  simp only [enX9_alter, uX9_alter_0, uX9_alter_0o, uX9_alter_0f, uX9_alter_1, uX9_alter_4, uX9_alter_5, uX9_alter_6, uX9_alter_9, pq_C_sI, pq_C_sJ, pq_C_sR, pq_C_sA, pq_L_sI, pq_L_sJ, pq_L_sR, pq_L_sA, pq_I_sI, pq_I_sJ, pq_I_sR, pq_I_sA, pq_J_sI, pq_J_sJ, pq_J_sR, pq_J_sA, pq_R_sI, pq_R_sJ, pq_R_sR, pq_R_sA, pq_N_sI, pq_N_sJ, pq_N_sR, pq_N_sA, pq_S_sI, pq_S_sJ, pq_S_sR, pq_S_sA, pz_rf_s, pz_cut_i, pz_cut_r, pz_cut_n, pz_cut_f, pz_cut_u, pz_cut_o, true_and, and_true, true_or, or_true, Option.toList_some, Option.toList_none, List.cons_append, List.nil_append, Nat.add_left_cancel_iff, Nat.left_eq_add, Nat.add_eq_left, Nat.reduceEqDiff, if_true, if_false, ite_true, ite_false, false_and, and_false, false_or, or_false, reduceIte, reduceCtorEq, and_self, z_4, z_5, z_7, z_8, z_10, z_16, z_20, z_64, not_false_eq_true, s0, s1, W1]
  refine c_change W (fun h1 F1 X1 => ?_)
  unfold altA at K
  cases e : vI i (sV A 0).length with
  | none =>
    rw [e] at K X1
    simp only [enX9_alter, uX9_alter_0, uX9_alter_0o, uX9_alter_0f, uX9_alter_1, uX9_alter_4, uX9_alter_5, uX9_alter_6, uX9_alter_9, pq_C_sI, pq_C_sJ, pq_C_sR, pq_C_sA, pq_L_sI, pq_L_sJ, pq_L_sR, pq_L_sA, pq_I_sI, pq_I_sJ, pq_I_sR, pq_I_sA, pq_J_sI, pq_J_sJ, pq_J_sR, pq_J_sA, pq_R_sI, pq_R_sJ, pq_R_sR, pq_R_sA, pq_N_sI, pq_N_sJ, pq_N_sR, pq_N_sA, pq_S_sI, pq_S_sJ, pq_S_sR, pq_S_sA, pz_rf_s, pz_cut_i, pz_cut_r, pz_cut_n, pz_cut_f, pz_cut_u, pz_cut_o, true_and, and_true, true_or, or_true, Option.toList_some, Option.toList_none, List.cons_append, List.nil_append, Nat.add_left_cancel_iff, Nat.left_eq_add, Nat.add_eq_left, Nat.reduceEqDiff, if_true, if_false, ite_true, ite_false, false_and, and_false, false_or, or_false, reduceIte, reduceCtorEq, and_self, z_4, z_5, z_7, z_8, z_10, z_16, z_20, z_64, not_false_eq_true, Option.isSome_none, Bool.false_eq_true]
    refine K h1 (HC_12 (HF_up F1 (by simp))) ?_
    have := RC_V0 R (HF_up F1 (by simp)) X1
    have e2 : stV A 0 (sV A 0) = A := by
      unfold stV
      refine Prod.ext rfl (Prod.ext rfl (Prod.ext ?_ rfl))
      funext j
      show upf (sV A) 0 (sV A 0) j = sV A j
      unfold upf
      split
      · rename_i z; rw [z]
      · rfl
    rwa [e2] at this
  | some j =>
    rw [e] at K X1
    simp only [enX9_alter, uX9_alter_0, uX9_alter_0o, uX9_alter_0f, uX9_alter_1, uX9_alter_4, uX9_alter_5, uX9_alter_6, uX9_alter_9, pq_C_sI, pq_C_sJ, pq_C_sR, pq_C_sA, pq_L_sI, pq_L_sJ, pq_L_sR, pq_L_sA, pq_I_sI, pq_I_sJ, pq_I_sR, pq_I_sA, pq_J_sI, pq_J_sJ, pq_J_sR, pq_J_sA, pq_R_sI, pq_R_sJ, pq_R_sR, pq_R_sA, pq_N_sI, pq_N_sJ, pq_N_sR, pq_N_sA, pq_S_sI, pq_S_sJ, pq_S_sR, pq_S_sA, pz_rf_s, pz_cut_i, pz_cut_r, pz_cut_n, pz_cut_f, pz_cut_u, pz_cut_o, true_and, and_true, true_or, or_true, Option.toList_some, Option.toList_none, List.cons_append, List.nil_append, Nat.add_left_cancel_iff, Nat.left_eq_add, Nat.add_eq_left, Nat.reduceEqDiff, if_true, if_false, ite_true, ite_false, false_and, and_false, false_or, or_false, reduceIte, reduceCtorEq, and_self, z_4, z_5, z_7, z_8, z_10, z_16, z_20, z_64, not_false_eq_true, Option.isSome_some]
    exact K h1 (HC_12 (HF_up F1 (by simp))) (RC_V0 R (HF_up F1 (by simp)) X1)
theorem c_out (R : RC h A) {i : Int32} : pz_M (d + 2) mX9_out [.ref 0, .int i] h Q ↔ Q (some (.int (outA A i))) h := by
  obtain ⟨s0, s1, s2, s3, s4, s5, s6, s7⟩ := DS_of R
  have V := R.2.2.1.2.1
  have V1 := V.1
  simp only [enX9_out, uX9_out_0, uX9_out_0o, uX9_out_0f, uX9_out_1, uX9_out_4, uX9_out_5, uX9_out_8, pq_C_sI, pq_C_sJ, pq_C_sR, pq_C_sA, pq_L_sI, pq_L_sJ, pq_L_sR, pq_L_sA, pq_I_sI, pq_I_sJ, pq_I_sR, pq_I_sA, pq_J_sI, pq_J_sJ, pq_J_sR, pq_J_sA, pq_R_sI, pq_R_sJ, pq_R_sR, pq_R_sA, pq_N_sI, pq_N_sJ, pq_N_sR, pq_N_sA, pq_S_sI, pq_S_sJ, pq_S_sR, pq_S_sA, pz_rf_s, pz_cut_i, pz_cut_r, pz_cut_n, pz_cut_f, pz_cut_u, pz_cut_o, true_and, and_true, true_or, or_true, Option.toList_some, Option.toList_none, List.cons_append, List.nil_append, Nat.add_left_cancel_iff, Nat.left_eq_add, Nat.add_eq_left, Nat.reduceEqDiff, if_true, if_false, ite_true, ite_false, false_and, and_false, false_or, or_false, reduceIte, reduceCtorEq, and_self, z_4, z_5, z_7, z_8, z_10, z_16, z_20, z_64, not_false_eq_true, s0, s2, V1, c_at V]
  exact Iff.rfl
theorem c_place (R : RC h A) : pz_M (d + 1) mX9_place [.ref 0] h Q ↔ Q (some (.int (sB A 0 27))) h := by
  obtain ⟨s0, _⟩ := DS_of R
  have b4 := R.2.2.1.2.2.2
  simp only [enX9_place, uX9_place_0, uX9_place_0o, uX9_place_0f, uX9_place_1, uX9_place_4, pq_C_sI, pq_C_sJ, pq_C_sR, pq_C_sA, pq_L_sI, pq_L_sJ, pq_L_sR, pq_L_sA, pq_I_sI, pq_I_sJ, pq_I_sR, pq_I_sA, pq_J_sI, pq_J_sJ, pq_J_sR, pq_J_sA, pq_R_sI, pq_R_sJ, pq_R_sR, pq_R_sA, pq_N_sI, pq_N_sJ, pq_N_sR, pq_N_sA, pq_S_sI, pq_S_sJ, pq_S_sR, pq_S_sA, pz_rf_s, pz_cut_i, pz_cut_r, pz_cut_n, pz_cut_f, pz_cut_u, pz_cut_o, true_and, and_true, true_or, or_true, Option.toList_some, Option.toList_none, List.cons_append, List.nil_append, Nat.add_left_cancel_iff, Nat.left_eq_add, Nat.add_eq_left, Nat.reduceEqDiff, if_true, if_false, ite_true, ite_false, false_and, and_false, false_or, or_false, reduceIte, reduceCtorEq, and_self, z_4, z_5, z_7, z_8, z_10, z_16, z_20, z_64, not_false_eq_true, s0, b4]
theorem c_digest (R : RC h A) (K : ∀ h', HC h h' → RC h' (digA A) → Q (some (.int 20)) h') : pz_M (d + 4) mX9_digest [.ref 0] h Q := by
  obtain ⟨s0, s1, s2, s3, s4, s5, s6, s7⟩ := DS_of R
  have W := R.2.2.1.1
  have W1 := W.1
  have w8 := W.2.2.2.2.2.2.2.1
  have S := R.1.2.1
  simp only [enX9_digest, uX9_digest_0, uX9_digest_0o, uX9_digest_0f, uX9_digest_1, uX9_digest_4, uX9_digest_4o, uX9_digest_4f, uX9_digest_5, uX9_digest_8, uX9_digest_9, uX9_digest_9o, uX9_digest_9f, uX9_digest_10, uX9_digest_13, uX9_digest_16, uX9_digest_19, uX9_digest_19o, uX9_digest_19f, uX9_digest_20, uX9_digest_23, uX9_digest_24, uX9_digest_27, uX9_digest_27o, uX9_digest_27f, uX9_digest_28, uX9_digest_31, uX9_digest_32, uX9_digest_35, uX9_digest_35o, uX9_digest_35f, uX9_digest_36, uX9_digest_39, uX9_digest_39o, uX9_digest_39f, uX9_digest_40, uX9_digest_43, uX9_digest_46, uX9_digest_48, pq_C_sI, pq_C_sJ, pq_C_sR, pq_C_sA, pq_L_sI, pq_L_sJ, pq_L_sR, pq_L_sA, pq_I_sI, pq_I_sJ, pq_I_sR, pq_I_sA, pq_J_sI, pq_J_sJ, pq_J_sR, pq_J_sA, pq_R_sI, pq_R_sJ, pq_R_sR, pq_R_sA, pq_N_sI, pq_N_sJ, pq_N_sR, pq_N_sA, pq_S_sI, pq_S_sJ, pq_S_sR, pq_S_sA, pz_rf_s, pz_cut_i, pz_cut_r, pz_cut_n, pz_cut_f, pz_cut_u, pz_cut_o, true_and, and_true, true_or, or_true, Option.toList_some, Option.toList_none, List.cons_append, List.nil_append, Nat.add_left_cancel_iff, Nat.left_eq_add, Nat.add_eq_left, Nat.reduceEqDiff, if_true, if_false, ite_true, ite_false, false_and, and_false, false_or, or_false, reduceIte, reduceCtorEq, and_self, z_4, z_5, z_7, z_8, z_10, z_16, z_20, z_64, not_false_eq_true, s0, s1, s4, W1, S.1, c_size W]
  refine (show _ from c_run (b := 0) (n := (sV A 0).length) S W (by decide) (by omega) (fun h1 F1 M1 => ?_) : pz_M (d + 3) mX7_run [.ref 7, .ref 1, .int 0, .int (nI (sV A 0).length)] h _)
  rw [ofF_take (Nat.le_refl _), List.take_length] at M1
  have R1 : RC h1 A := RC_jk R F1 (fun x hx => by simp at hx; omega) (JNK_fr R.2.2.2.2.2 F1 (fun x hx => by simp; omega))
  obtain ⟨t0, t1, t2, t3, t4, t5, t6, t7⟩ := DS_of R1
  have X1 := R1.2.2.1.1
  have Y1 := X1.1
  simp only [enX9_digest, uX9_digest_0, uX9_digest_0o, uX9_digest_0f, uX9_digest_1, uX9_digest_4, uX9_digest_4o, uX9_digest_4f, uX9_digest_5, uX9_digest_8, uX9_digest_9, uX9_digest_9o, uX9_digest_9f, uX9_digest_10, uX9_digest_13, uX9_digest_16, uX9_digest_19, uX9_digest_19o, uX9_digest_19f, uX9_digest_20, uX9_digest_23, uX9_digest_24, uX9_digest_27, uX9_digest_27o, uX9_digest_27f, uX9_digest_28, uX9_digest_31, uX9_digest_32, uX9_digest_35, uX9_digest_35o, uX9_digest_35f, uX9_digest_36, uX9_digest_39, uX9_digest_39o, uX9_digest_39f, uX9_digest_40, uX9_digest_43, uX9_digest_46, uX9_digest_48, pq_C_sI, pq_C_sJ, pq_C_sR, pq_C_sA, pq_L_sI, pq_L_sJ, pq_L_sR, pq_L_sA, pq_I_sI, pq_I_sJ, pq_I_sR, pq_I_sA, pq_J_sI, pq_J_sJ, pq_J_sR, pq_J_sA, pq_R_sI, pq_R_sJ, pq_R_sR, pq_R_sA, pq_N_sI, pq_N_sJ, pq_N_sR, pq_N_sA, pq_S_sI, pq_S_sJ, pq_S_sR, pq_S_sA, pz_rf_s, pz_cut_i, pz_cut_r, pz_cut_n, pz_cut_f, pz_cut_u, pz_cut_o, true_and, and_true, true_or, or_true, Option.toList_some, Option.toList_none, List.cons_append, List.nil_append, Nat.add_left_cancel_iff, Nat.left_eq_add, Nat.add_eq_left, Nat.reduceEqDiff, if_true, if_false, ite_true, ite_false, false_and, and_false, false_or, or_false, reduceIte, reduceCtorEq, and_self, z_4, z_5, z_7, z_8, z_10, z_16, z_20, z_64, not_false_eq_true, t0, t1, Y1]
  refine c_cut0 X1 (fun h2 F2 X2 => ?_)
  have R2 := RC_V0 R1 F2 X2
  obtain ⟨t0, t1, t2, t3, t4, t5, t6, t7⟩ := DS_of R2
  have V2 := R2.2.2.1.2.1
  have Y2 := V2.1
  simp only [enX9_digest, uX9_digest_0, uX9_digest_0o, uX9_digest_0f, uX9_digest_1, uX9_digest_4, uX9_digest_4o, uX9_digest_4f, uX9_digest_5, uX9_digest_8, uX9_digest_9, uX9_digest_9o, uX9_digest_9f, uX9_digest_10, uX9_digest_13, uX9_digest_16, uX9_digest_19, uX9_digest_19o, uX9_digest_19f, uX9_digest_20, uX9_digest_23, uX9_digest_24, uX9_digest_27, uX9_digest_27o, uX9_digest_27f, uX9_digest_28, uX9_digest_31, uX9_digest_32, uX9_digest_35, uX9_digest_35o, uX9_digest_35f, uX9_digest_36, uX9_digest_39, uX9_digest_39o, uX9_digest_39f, uX9_digest_40, uX9_digest_43, uX9_digest_46, uX9_digest_48, pq_C_sI, pq_C_sJ, pq_C_sR, pq_C_sA, pq_L_sI, pq_L_sJ, pq_L_sR, pq_L_sA, pq_I_sI, pq_I_sJ, pq_I_sR, pq_I_sA, pq_J_sI, pq_J_sJ, pq_J_sR, pq_J_sA, pq_R_sI, pq_R_sJ, pq_R_sR, pq_R_sA, pq_N_sI, pq_N_sJ, pq_N_sR, pq_N_sA, pq_S_sI, pq_S_sJ, pq_S_sR, pq_S_sA, pz_rf_s, pz_cut_i, pz_cut_r, pz_cut_n, pz_cut_f, pz_cut_u, pz_cut_o, true_and, and_true, true_or, or_true, Option.toList_some, Option.toList_none, List.cons_append, List.nil_append, Nat.add_left_cancel_iff, Nat.left_eq_add, Nat.add_eq_left, Nat.reduceEqDiff, if_true, if_false, ite_true, ite_false, false_and, and_false, false_or, or_false, reduceIte, reduceCtorEq, and_self, z_4, z_5, z_7, z_8, z_10, z_16, z_20, z_64, not_false_eq_true, t0, t2, Y2]
  refine c_cut0 V2 (fun h3 F3 X3 => ?_)
  have R3 := RC_V1 R2 F3 X3
  obtain ⟨t0, t1, t2, t3, t4, t5, t6, t7⟩ := DS_of R3
  have V3 := R3.2.2.1.2.1
  have Y3 := X3.1
  have S3 := R3.1.2.1
  have M3 : SUM h3 (sV A 0) := fun j hj => by
    rw [F3.2.2.2.2.2.2.2.1 9 (by simp), F2.2.2.2.2.2.2.2.1 9 (by simp)]
    exact M1 j hj
  simp only [enX9_digest, uX9_digest_0, uX9_digest_0o, uX9_digest_0f, uX9_digest_1, uX9_digest_4, uX9_digest_4o, uX9_digest_4f, uX9_digest_5, uX9_digest_8, uX9_digest_9, uX9_digest_9o, uX9_digest_9f, uX9_digest_10, uX9_digest_13, uX9_digest_16, uX9_digest_19, uX9_digest_19o, uX9_digest_19f, uX9_digest_20, uX9_digest_23, uX9_digest_24, uX9_digest_27, uX9_digest_27o, uX9_digest_27f, uX9_digest_28, uX9_digest_31, uX9_digest_32, uX9_digest_35, uX9_digest_35o, uX9_digest_35f, uX9_digest_36, uX9_digest_39, uX9_digest_39o, uX9_digest_39f, uX9_digest_40, uX9_digest_43, uX9_digest_46, uX9_digest_48, pq_C_sI, pq_C_sJ, pq_C_sR, pq_C_sA, pq_L_sI, pq_L_sJ, pq_L_sR, pq_L_sA, pq_I_sI, pq_I_sJ, pq_I_sR, pq_I_sA, pq_J_sI, pq_J_sJ, pq_J_sR, pq_J_sA, pq_R_sI, pq_R_sJ, pq_R_sR, pq_R_sA, pq_N_sI, pq_N_sJ, pq_N_sR, pq_N_sA, pq_S_sI, pq_S_sJ, pq_S_sR, pq_S_sA, pz_rf_s, pz_cut_i, pz_cut_r, pz_cut_n, pz_cut_f, pz_cut_u, pz_cut_o, true_and, and_true, true_or, or_true, Option.toList_some, Option.toList_none, List.cons_append, List.nil_append, Nat.add_left_cancel_iff, Nat.left_eq_add, Nat.add_eq_left, Nat.reduceEqDiff, if_true, if_false, ite_true, ite_false, false_and, and_false, false_or, or_false, reduceIte, reduceCtorEq, and_self, z_4, z_5, z_7, z_8, z_10, z_16, z_20, z_64, not_false_eq_true, t0, t2, t4, Y3, S3.1]
  refine c_addTo S3 M3 X3 (by decide) (by simp) (fun h4 F4 X4 => ?_)
  simp only [enX9_digest, uX9_digest_0, uX9_digest_0o, uX9_digest_0f, uX9_digest_1, uX9_digest_4, uX9_digest_4o, uX9_digest_4f, uX9_digest_5, uX9_digest_8, uX9_digest_9, uX9_digest_9o, uX9_digest_9f, uX9_digest_10, uX9_digest_13, uX9_digest_16, uX9_digest_19, uX9_digest_19o, uX9_digest_19f, uX9_digest_20, uX9_digest_23, uX9_digest_24, uX9_digest_27, uX9_digest_27o, uX9_digest_27f, uX9_digest_28, uX9_digest_31, uX9_digest_32, uX9_digest_35, uX9_digest_35o, uX9_digest_35f, uX9_digest_36, uX9_digest_39, uX9_digest_39o, uX9_digest_39f, uX9_digest_40, uX9_digest_43, uX9_digest_46, uX9_digest_48, pq_C_sI, pq_C_sJ, pq_C_sR, pq_C_sA, pq_L_sI, pq_L_sJ, pq_L_sR, pq_L_sA, pq_I_sI, pq_I_sJ, pq_I_sR, pq_I_sA, pq_J_sI, pq_J_sJ, pq_J_sR, pq_J_sA, pq_R_sI, pq_R_sJ, pq_R_sR, pq_R_sA, pq_N_sI, pq_N_sJ, pq_N_sR, pq_N_sA, pq_S_sI, pq_S_sJ, pq_S_sR, pq_S_sA, pz_rf_s, pz_cut_i, pz_cut_r, pz_cut_n, pz_cut_f, pz_cut_u, pz_cut_o, true_and, and_true, true_or, or_true, Option.toList_some, Option.toList_none, List.cons_append, List.nil_append, Nat.add_left_cancel_iff, Nat.left_eq_add, Nat.add_eq_left, Nat.reduceEqDiff, if_true, if_false, ite_true, ite_false, false_and, and_false, false_or, or_false, reduceIte, reduceCtorEq, and_self, z_4, z_5, z_7, z_8, z_10, z_16, z_20, z_64, not_false_eq_true]
  rw [List.nil_append] at X4
  have R4 := RC_V1 R2 (HF_trans F3 F4) X4
  exact K h4 (HC_trans (HC_HF F1 (fun x hx => by simp at hx; omega)) (HC_trans (HC_12 F2) (HC_34 (HF_trans F3 F4)))) R4
end
