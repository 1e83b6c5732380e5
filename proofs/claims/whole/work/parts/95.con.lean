/-! ===== the class: connect ===== -/
section
variable {d : Nat} {h h' : PzH} {Q : Option Value → PzH → Prop} {A A' : St} {l c p : Nat}
theorem hel_1 : [(19 : Int32).toInt8] ++ txL 12 = gr1 := by decide +kernel
theorem hel_2 : be4 0 ++ be4 0 = ofF (fun _ => (0 : Int32).toInt8) 8 := by decide +kernel
theorem hel_3 : txL 13 = ca1 ++ ofF (fun _ => (48 : Int32).toInt8) 11 := by decide +kernel
theorem heL_len {nm : List Int8} {a : Nat} (h : nm.length = 20) : (heL nm a).length = 68 := by
  unfold heL gr1 ca1
  simp [ofF_len, h]
/-- writeHello -/
theorem c_writeHello {t a : Nat} (hC : pz_C h t = 8) (hR : pz_R h t 7 = some (t + 4)) (ht : t = 15 ∨ t = 28) (T : TR h A t) (hn : (sV A 2).length = 20) {l0 : List Int8} (W : ROW h 26 27 68 l0) (K : ∀ h', HF [26, 27] h h' → ROW h' 26 27 68 (heL (sV A 2) a) → Q none h') : pz_M (d + 4) mX8_writeHello [.ref t, .ref 26, .int (nI a)] h Q := by
  have N := T.2.2.2.2.2.1
  have W1 := W.1
  have e12 : (12 : UInt32).toNat = 12 := by decide
  have e13 : (13 : UInt32).toNat = 13 := by decide
  have es : pz_sl.getD 12 0 = 19 := by decide
  have es' : pz_sl.getD 13 0 = 19 := by decide
  have es2 : 12 < pz_sn := by decide
  have es3 : 13 < pz_sn := by decide
  simp only [enX8_writeHello, uX8_writeHello_0, uX8_writeHello_0o, uX8_writeHello_0f, uX8_writeHello_1, uX8_writeHello_2, uX8_writeHello_5, uX8_writeHello_5o, uX8_writeHello_5f, uX8_writeHello_6, uX8_writeHello_8, uX8_writeHello_11, uX8_writeHello_14, uX8_writeHello_14o, uX8_writeHello_14f, uX8_writeHello_15, uX8_writeHello_17, uX8_writeHello_20, uX8_writeHello_20o, uX8_writeHello_20f, uX8_writeHello_21, uX8_writeHello_22, uX8_writeHello_25, uX8_writeHello_25o, uX8_writeHello_25f, uX8_writeHello_26, uX8_writeHello_27, uX8_writeHello_30, uX8_writeHello_30o, uX8_writeHello_30f, uX8_writeHello_31, uX8_writeHello_31o, uX8_writeHello_31f, uX8_writeHello_32, uX8_writeHello_35, uX8_writeHello_36, uX8_writeHello_38, uX8_writeHello_41, uX8_writeHello_41o, uX8_writeHello_41f, uX8_writeHello_42, uX8_writeHello_44, uX8_writeHello_47, uX8_writeHello_47o, uX8_writeHello_47f, uX8_writeHello_48, uX8_writeHello_50, uX8_writeHello_51, uX8_writeHello_52, uX8_writeHello_55, pq_C_sI, pq_C_sJ, pq_C_sR, pq_C_sA, pq_L_sI, pq_L_sJ, pq_L_sR, pq_L_sA, pq_I_sI, pq_I_sJ, pq_I_sR, pq_I_sA, pq_J_sI, pq_J_sJ, pq_J_sR, pq_J_sA, pq_R_sI, pq_R_sJ, pq_R_sR, pq_R_sA, pq_N_sI, pq_N_sJ, pq_N_sR, pq_N_sA, pq_S_sI, pq_S_sJ, pq_S_sR, pq_S_sA, pz_rf_s, pz_cut_i, pz_cut_r, pz_cut_n, pz_cut_f, pz_cut_u, pz_cut_o, true_and, and_true, true_or, or_true, Option.toList_some, Option.toList_none, List.cons_append, List.nil_append, Nat.add_left_cancel_iff, Nat.left_eq_add, Nat.add_eq_left, Nat.reduceEqDiff, if_true, if_false, ite_true, ite_false, false_and, and_false, false_or, or_false, reduceIte, reduceCtorEq, and_self, z_4, z_5, z_7, z_8, z_10, z_16, z_20, z_64, not_false_eq_true, W1, e12, es, es2]
  refine c_cut0 W (fun h1 F1 X1 => ?_)
  have Y1 := X1.1
  simp only [enX8_writeHello, uX8_writeHello_0, uX8_writeHello_0o, uX8_writeHello_0f, uX8_writeHello_1, uX8_writeHello_2, uX8_writeHello_5, uX8_writeHello_5o, uX8_writeHello_5f, uX8_writeHello_6, uX8_writeHello_8, uX8_writeHello_11, uX8_writeHello_14, uX8_writeHello_14o, uX8_writeHello_14f, uX8_writeHello_15, uX8_writeHello_17, uX8_writeHello_20, uX8_writeHello_20o, uX8_writeHello_20f, uX8_writeHello_21, uX8_writeHello_22, uX8_writeHello_25, uX8_writeHello_25o, uX8_writeHello_25f, uX8_writeHello_26, uX8_writeHello_27, uX8_writeHello_30, uX8_writeHello_30o, uX8_writeHello_30f, uX8_writeHello_31, uX8_writeHello_31o, uX8_writeHello_31f, uX8_writeHello_32, uX8_writeHello_35, uX8_writeHello_36, uX8_writeHello_38, uX8_writeHello_41, uX8_writeHello_41o, uX8_writeHello_41f, uX8_writeHello_42, uX8_writeHello_44, uX8_writeHello_47, uX8_writeHello_47o, uX8_writeHello_47f, uX8_writeHello_48, uX8_writeHello_50, uX8_writeHello_51, uX8_writeHello_52, uX8_writeHello_55, pq_C_sI, pq_C_sJ, pq_C_sR, pq_C_sA, pq_L_sI, pq_L_sJ, pq_L_sR, pq_L_sA, pq_I_sI, pq_I_sJ, pq_I_sR, pq_I_sA, pq_J_sI, pq_J_sJ, pq_J_sR, pq_J_sA, pq_R_sI, pq_R_sJ, pq_R_sR, pq_R_sA, pq_N_sI, pq_N_sJ, pq_N_sR, pq_N_sA, pq_S_sI, pq_S_sJ, pq_S_sR, pq_S_sA, pz_rf_s, pz_cut_i, pz_cut_r, pz_cut_n, pz_cut_f, pz_cut_u, pz_cut_o, true_and, and_true, true_or, or_true, Option.toList_some, Option.toList_none, List.cons_append, List.nil_append, Nat.add_left_cancel_iff, Nat.left_eq_add, Nat.add_eq_left, Nat.reduceEqDiff, if_true, if_false, ite_true, ite_false, false_and, and_false, false_or, or_false, reduceIte, reduceCtorEq, and_self, z_4, z_5, z_7, z_8, z_10, z_16, z_20, z_64, not_false_eq_true, Y1, e12, es, es2]
  refine (show _ from c_add (v := nI 19) X1 (by simp) (fun h2 F2 X2 => ?_) : pz_M (d + 3) mX6_add [.ref 26, .int (nI 19)] h1 _)
  have Y2 := X2.1
  simp only [enX8_writeHello, uX8_writeHello_0, uX8_writeHello_0o, uX8_writeHello_0f, uX8_writeHello_1, uX8_writeHello_2, uX8_writeHello_5, uX8_writeHello_5o, uX8_writeHello_5f, uX8_writeHello_6, uX8_writeHello_8, uX8_writeHello_11, uX8_writeHello_14, uX8_writeHello_14o, uX8_writeHello_14f, uX8_writeHello_15, uX8_writeHello_17, uX8_writeHello_20, uX8_writeHello_20o, uX8_writeHello_20f, uX8_writeHello_21, uX8_writeHello_22, uX8_writeHello_25, uX8_writeHello_25o, uX8_writeHello_25f, uX8_writeHello_26, uX8_writeHello_27, uX8_writeHello_30, uX8_writeHello_30o, uX8_writeHello_30f, uX8_writeHello_31, uX8_writeHello_31o, uX8_writeHello_31f, uX8_writeHello_32, uX8_writeHello_35, uX8_writeHello_36, uX8_writeHello_38, uX8_writeHello_41, uX8_writeHello_41o, uX8_writeHello_41f, uX8_writeHello_42, uX8_writeHello_44, uX8_writeHello_47, uX8_writeHello_47o, uX8_writeHello_47f, uX8_writeHello_48, uX8_writeHello_50, uX8_writeHello_51, uX8_writeHello_52, uX8_writeHello_55, pq_C_sI, pq_C_sJ, pq_C_sR, pq_C_sA, pq_L_sI, pq_L_sJ, pq_L_sR, pq_L_sA, pq_I_sI, pq_I_sJ, pq_I_sR, pq_I_sA, pq_J_sI, pq_J_sJ, pq_J_sR, pq_J_sA, pq_R_sI, pq_R_sJ, pq_R_sR, pq_R_sA, pq_N_sI, pq_N_sJ, pq_N_sR, pq_N_sA, pq_S_sI, pq_S_sJ, pq_S_sR, pq_S_sA, pz_rf_s, pz_cut_i, pz_cut_r, pz_cut_n, pz_cut_f, pz_cut_u, pz_cut_o, true_and, and_true, true_or, or_true, Option.toList_some, Option.toList_none, List.cons_append, List.nil_append, Nat.add_left_cancel_iff, Nat.left_eq_add, Nat.add_eq_left, Nat.reduceEqDiff, if_true, if_false, ite_true, ite_false, false_and, and_false, false_or, or_false, reduceIte, reduceCtorEq, and_self, z_4, z_5, z_7, z_8, z_10, z_16, z_20, z_64, not_false_eq_true, Y2, e12, es, es2]
  refine c_addText (k := 12) X2 (by decide) (by decide) (by rw [e12, es]; simp) (fun h3 F3 X3 => ?_)
  rw [e12, List.nil_append, show [(nI 19).toInt8] ++ txL 12 = gr1 from hel_1] at X3
  have g20 : gr1.length = 20 := ofF_len
  have Y3 := X3.1
  simp only [enX8_writeHello, uX8_writeHello_0, uX8_writeHello_0o, uX8_writeHello_0f, uX8_writeHello_1, uX8_writeHello_2, uX8_writeHello_5, uX8_writeHello_5o, uX8_writeHello_5f, uX8_writeHello_6, uX8_writeHello_8, uX8_writeHello_11, uX8_writeHello_14, uX8_writeHello_14o, uX8_writeHello_14f, uX8_writeHello_15, uX8_writeHello_17, uX8_writeHello_20, uX8_writeHello_20o, uX8_writeHello_20f, uX8_writeHello_21, uX8_writeHello_22, uX8_writeHello_25, uX8_writeHello_25o, uX8_writeHello_25f, uX8_writeHello_26, uX8_writeHello_27, uX8_writeHello_30, uX8_writeHello_30o, uX8_writeHello_30f, uX8_writeHello_31, uX8_writeHello_31o, uX8_writeHello_31f, uX8_writeHello_32, uX8_writeHello_35, uX8_writeHello_36, uX8_writeHello_38, uX8_writeHello_41, uX8_writeHello_41o, uX8_writeHello_41f, uX8_writeHello_42, uX8_writeHello_44, uX8_writeHello_47, uX8_writeHello_47o, uX8_writeHello_47f, uX8_writeHello_48, uX8_writeHello_50, uX8_writeHello_51, uX8_writeHello_52, uX8_writeHello_55, pq_C_sI, pq_C_sJ, pq_C_sR, pq_C_sA, pq_L_sI, pq_L_sJ, pq_L_sR, pq_L_sA, pq_I_sI, pq_I_sJ, pq_I_sR, pq_I_sA, pq_J_sI, pq_J_sJ, pq_J_sR, pq_J_sA, pq_R_sI, pq_R_sJ, pq_R_sR, pq_R_sA, pq_N_sI, pq_N_sJ, pq_N_sR, pq_N_sA, pq_S_sI, pq_S_sJ, pq_S_sR, pq_S_sA, pz_rf_s, pz_cut_i, pz_cut_r, pz_cut_n, pz_cut_f, pz_cut_u, pz_cut_o, true_and, and_true, true_or, or_true, Option.toList_some, Option.toList_none, List.cons_append, List.nil_append, Nat.add_left_cancel_iff, Nat.left_eq_add, Nat.add_eq_left, Nat.reduceEqDiff, if_true, if_false, ite_true, ite_false, false_and, and_false, false_or, or_false, reduceIte, reduceCtorEq, and_self, z_4, z_5, z_7, z_8, z_10, z_16, z_20, z_64, not_false_eq_true, Y3]
  refine c_addNumber X3 (by omega) (fun h4 F4 X4 => ?_)
  have Y4 := X4.1
  simp only [enX8_writeHello, uX8_writeHello_0, uX8_writeHello_0o, uX8_writeHello_0f, uX8_writeHello_1, uX8_writeHello_2, uX8_writeHello_5, uX8_writeHello_5o, uX8_writeHello_5f, uX8_writeHello_6, uX8_writeHello_8, uX8_writeHello_11, uX8_writeHello_14, uX8_writeHello_14o, uX8_writeHello_14f, uX8_writeHello_15, uX8_writeHello_17, uX8_writeHello_20, uX8_writeHello_20o, uX8_writeHello_20f, uX8_writeHello_21, uX8_writeHello_22, uX8_writeHello_25, uX8_writeHello_25o, uX8_writeHello_25f, uX8_writeHello_26, uX8_writeHello_27, uX8_writeHello_30, uX8_writeHello_30o, uX8_writeHello_30f, uX8_writeHello_31, uX8_writeHello_31o, uX8_writeHello_31f, uX8_writeHello_32, uX8_writeHello_35, uX8_writeHello_36, uX8_writeHello_38, uX8_writeHello_41, uX8_writeHello_41o, uX8_writeHello_41f, uX8_writeHello_42, uX8_writeHello_44, uX8_writeHello_47, uX8_writeHello_47o, uX8_writeHello_47f, uX8_writeHello_48, uX8_writeHello_50, uX8_writeHello_51, uX8_writeHello_52, uX8_writeHello_55, pq_C_sI, pq_C_sJ, pq_C_sR, pq_C_sA, pq_L_sI, pq_L_sJ, pq_L_sR, pq_L_sA, pq_I_sI, pq_I_sJ, pq_I_sR, pq_I_sA, pq_J_sI, pq_J_sJ, pq_J_sR, pq_J_sA, pq_R_sI, pq_R_sJ, pq_R_sR, pq_R_sA, pq_N_sI, pq_N_sJ, pq_N_sR, pq_N_sA, pq_S_sI, pq_S_sJ, pq_S_sR, pq_S_sA, pz_rf_s, pz_cut_i, pz_cut_r, pz_cut_n, pz_cut_f, pz_cut_u, pz_cut_o, true_and, and_true, true_or, or_true, Option.toList_some, Option.toList_none, List.cons_append, List.nil_append, Nat.add_left_cancel_iff, Nat.left_eq_add, Nat.add_eq_left, Nat.reduceEqDiff, if_true, if_false, ite_true, ite_false, false_and, and_false, false_or, or_false, reduceIte, reduceCtorEq, and_self, z_4, z_5, z_7, z_8, z_10, z_16, z_20, z_64, not_false_eq_true, Y4]
  refine c_addNumber X4 (by simp [be4, g20]) (fun h5 F5 X5 => ?_)
  rw [List.append_assoc, hel_2] at X5
  have Y5 := X5.1
  have F15 : HF [26, 27] h h5 := HF_trans F1 (HF_trans F2 (HF_trans F3 (HF_trans F4 F5)))
  have N5 := ROW_fr N F15 (by simp; omega) (by simp; omega)
  have C5 : pz_C h5 t = 8 ∧ pz_R h5 t 7 = some (t + 4) := by rw [F15.1, F15.2.2.1]; exact ⟨hC, hR⟩
  have Z5 := N5.1
  simp only [enX8_writeHello, uX8_writeHello_0, uX8_writeHello_0o, uX8_writeHello_0f, uX8_writeHello_1, uX8_writeHello_2, uX8_writeHello_5, uX8_writeHello_5o, uX8_writeHello_5f, uX8_writeHello_6, uX8_writeHello_8, uX8_writeHello_11, uX8_writeHello_14, uX8_writeHello_14o, uX8_writeHello_14f, uX8_writeHello_15, uX8_writeHello_17, uX8_writeHello_20, uX8_writeHello_20o, uX8_writeHello_20f, uX8_writeHello_21, uX8_writeHello_22, uX8_writeHello_25, uX8_writeHello_25o, uX8_writeHello_25f, uX8_writeHello_26, uX8_writeHello_27, uX8_writeHello_30, uX8_writeHello_30o, uX8_writeHello_30f, uX8_writeHello_31, uX8_writeHello_31o, uX8_writeHello_31f, uX8_writeHello_32, uX8_writeHello_35, uX8_writeHello_36, uX8_writeHello_38, uX8_writeHello_41, uX8_writeHello_41o, uX8_writeHello_41f, uX8_writeHello_42, uX8_writeHello_44, uX8_writeHello_47, uX8_writeHello_47o, uX8_writeHello_47f, uX8_writeHello_48, uX8_writeHello_50, uX8_writeHello_51, uX8_writeHello_52, uX8_writeHello_55, pq_C_sI, pq_C_sJ, pq_C_sR, pq_C_sA, pq_L_sI, pq_L_sJ, pq_L_sR, pq_L_sA, pq_I_sI, pq_I_sJ, pq_I_sR, pq_I_sA, pq_J_sI, pq_J_sJ, pq_J_sR, pq_J_sA, pq_R_sI, pq_R_sJ, pq_R_sR, pq_R_sA, pq_N_sI, pq_N_sJ, pq_N_sR, pq_N_sA, pq_S_sI, pq_S_sJ, pq_S_sR, pq_S_sA, pz_rf_s, pz_cut_i, pz_cut_r, pz_cut_n, pz_cut_f, pz_cut_u, pz_cut_o, true_and, and_true, true_or, or_true, Option.toList_some, Option.toList_none, List.cons_append, List.nil_append, Nat.add_left_cancel_iff, Nat.left_eq_add, Nat.add_eq_left, Nat.reduceEqDiff, if_true, if_false, ite_true, ite_false, false_and, and_false, false_or, or_false, reduceIte, reduceCtorEq, and_self, z_4, z_5, z_7, z_8, z_10, z_16, z_20, z_64, not_false_eq_true, Y5, C5, Z5]
  refine (show _ from c_addPart (b := 0) (n := 20) X5 N5 ⟨by omega, by omega⟩ (by omega) (by simp [ofF_len, g20]) (fun h6 F6 X6 => ?_) : pz_M (d + 3) mX6_addPart [.ref 26, .ref (t + 4), .int 0, .int 20] h5 _)
  rw [ofF_take (by omega), List.take_of_length_le (by omega)] at X6
  have Y6 := X6.1
  simp only [enX8_writeHello, uX8_writeHello_0, uX8_writeHello_0o, uX8_writeHello_0f, uX8_writeHello_1, uX8_writeHello_2, uX8_writeHello_5, uX8_writeHello_5o, uX8_writeHello_5f, uX8_writeHello_6, uX8_writeHello_8, uX8_writeHello_11, uX8_writeHello_14, uX8_writeHello_14o, uX8_writeHello_14f, uX8_writeHello_15, uX8_writeHello_17, uX8_writeHello_20, uX8_writeHello_20o, uX8_writeHello_20f, uX8_writeHello_21, uX8_writeHello_22, uX8_writeHello_25, uX8_writeHello_25o, uX8_writeHello_25f, uX8_writeHello_26, uX8_writeHello_27, uX8_writeHello_30, uX8_writeHello_30o, uX8_writeHello_30f, uX8_writeHello_31, uX8_writeHello_31o, uX8_writeHello_31f, uX8_writeHello_32, uX8_writeHello_35, uX8_writeHello_36, uX8_writeHello_38, uX8_writeHello_41, uX8_writeHello_41o, uX8_writeHello_41f, uX8_writeHello_42, uX8_writeHello_44, uX8_writeHello_47, uX8_writeHello_47o, uX8_writeHello_47f, uX8_writeHello_48, uX8_writeHello_50, uX8_writeHello_51, uX8_writeHello_52, uX8_writeHello_55, pq_C_sI, pq_C_sJ, pq_C_sR, pq_C_sA, pq_L_sI, pq_L_sJ, pq_L_sR, pq_L_sA, pq_I_sI, pq_I_sJ, pq_I_sR, pq_I_sA, pq_J_sI, pq_J_sJ, pq_J_sR, pq_J_sA, pq_R_sI, pq_R_sJ, pq_R_sR, pq_R_sA, pq_N_sI, pq_N_sJ, pq_N_sR, pq_N_sA, pq_S_sI, pq_S_sJ, pq_S_sR, pq_S_sA, pz_rf_s, pz_cut_i, pz_cut_r, pz_cut_n, pz_cut_f, pz_cut_u, pz_cut_o, true_and, and_true, true_or, or_true, Option.toList_some, Option.toList_none, List.cons_append, List.nil_append, Nat.add_left_cancel_iff, Nat.left_eq_add, Nat.add_eq_left, Nat.reduceEqDiff, if_true, if_false, ite_true, ite_false, false_and, and_false, false_or, or_false, reduceIte, reduceCtorEq, and_self, z_4, z_5, z_7, z_8, z_10, z_16, z_20, z_64, not_false_eq_true, Y6, e13, es', es3]
  refine c_addText (k := 13) X6 (by decide) (by decide) (by rw [e13, es']; simp [ofF_len, g20, hn]) (fun h7 F7 X7 => ?_)
  rw [e13, hel_3] at X7
  have Y7 := X7.1
  simp only [enX8_writeHello, uX8_writeHello_0, uX8_writeHello_0o, uX8_writeHello_0f, uX8_writeHello_1, uX8_writeHello_2, uX8_writeHello_5, uX8_writeHello_5o, uX8_writeHello_5f, uX8_writeHello_6, uX8_writeHello_8, uX8_writeHello_11, uX8_writeHello_14, uX8_writeHello_14o, uX8_writeHello_14f, uX8_writeHello_15, uX8_writeHello_17, uX8_writeHello_20, uX8_writeHello_20o, uX8_writeHello_20f, uX8_writeHello_21, uX8_writeHello_22, uX8_writeHello_25, uX8_writeHello_25o, uX8_writeHello_25f, uX8_writeHello_26, uX8_writeHello_27, uX8_writeHello_30, uX8_writeHello_30o, uX8_writeHello_30f, uX8_writeHello_31, uX8_writeHello_31o, uX8_writeHello_31f, uX8_writeHello_32, uX8_writeHello_35, uX8_writeHello_36, uX8_writeHello_38, uX8_writeHello_41, uX8_writeHello_41o, uX8_writeHello_41f, uX8_writeHello_42, uX8_writeHello_44, uX8_writeHello_47, uX8_writeHello_47o, uX8_writeHello_47f, uX8_writeHello_48, uX8_writeHello_50, uX8_writeHello_51, uX8_writeHello_52, uX8_writeHello_55, pq_C_sI, pq_C_sJ, pq_C_sR, pq_C_sA, pq_L_sI, pq_L_sJ, pq_L_sR, pq_L_sA, pq_I_sI, pq_I_sJ, pq_I_sR, pq_I_sA, pq_J_sI, pq_J_sJ, pq_J_sR, pq_J_sA, pq_R_sI, pq_R_sJ, pq_R_sR, pq_R_sA, pq_N_sI, pq_N_sJ, pq_N_sR, pq_N_sA, pq_S_sI, pq_S_sJ, pq_S_sR, pq_S_sA, pz_rf_s, pz_cut_i, pz_cut_r, pz_cut_n, pz_cut_f, pz_cut_u, pz_cut_o, true_and, and_true, true_or, or_true, Option.toList_some, Option.toList_none, List.cons_append, List.nil_append, Nat.add_left_cancel_iff, Nat.left_eq_add, Nat.add_eq_left, Nat.reduceEqDiff, if_true, if_false, ite_true, ite_false, false_and, and_false, false_or, or_false, reduceIte, reduceCtorEq, and_self, z_4, z_5, z_7, z_8, z_10, z_16, z_20, z_64, not_false_eq_true, Y7]
  refine c_add X7 (by simp [ofF_len, g20, hn, ca1]) (fun h8 F8 X8 => ?_)
  simp only [enX8_writeHello, uX8_writeHello_0, uX8_writeHello_0o, uX8_writeHello_0f, uX8_writeHello_1, uX8_writeHello_2, uX8_writeHello_5, uX8_writeHello_5o, uX8_writeHello_5f, uX8_writeHello_6, uX8_writeHello_8, uX8_writeHello_11, uX8_writeHello_14, uX8_writeHello_14o, uX8_writeHello_14f, uX8_writeHello_15, uX8_writeHello_17, uX8_writeHello_20, uX8_writeHello_20o, uX8_writeHello_20f, uX8_writeHello_21, uX8_writeHello_22, uX8_writeHello_25, uX8_writeHello_25o, uX8_writeHello_25f, uX8_writeHello_26, uX8_writeHello_27, uX8_writeHello_30, uX8_writeHello_30o, uX8_writeHello_30f, uX8_writeHello_31, uX8_writeHello_31o, uX8_writeHello_31f, uX8_writeHello_32, uX8_writeHello_35, uX8_writeHello_36, uX8_writeHello_38, uX8_writeHello_41, uX8_writeHello_41o, uX8_writeHello_41f, uX8_writeHello_42, uX8_writeHello_44, uX8_writeHello_47, uX8_writeHello_47o, uX8_writeHello_47f, uX8_writeHello_48, uX8_writeHello_50, uX8_writeHello_51, uX8_writeHello_52, uX8_writeHello_55, pq_C_sI, pq_C_sJ, pq_C_sR, pq_C_sA, pq_L_sI, pq_L_sJ, pq_L_sR, pq_L_sA, pq_I_sI, pq_I_sJ, pq_I_sR, pq_I_sA, pq_J_sI, pq_J_sJ, pq_J_sR, pq_J_sA, pq_R_sI, pq_R_sJ, pq_R_sR, pq_R_sA, pq_N_sI, pq_N_sJ, pq_N_sR, pq_N_sA, pq_S_sI, pq_S_sJ, pq_S_sR, pq_S_sA, pz_rf_s, pz_cut_i, pz_cut_r, pz_cut_n, pz_cut_f, pz_cut_u, pz_cut_o, true_and, and_true, true_or, or_true, Option.toList_some, Option.toList_none, List.cons_append, List.nil_append, Nat.add_left_cancel_iff, Nat.left_eq_add, Nat.add_eq_left, Nat.reduceEqDiff, if_true, if_false, ite_true, ite_false, false_and, and_false, false_or, or_false, reduceIte, reduceCtorEq, and_self, z_4, z_5, z_7, z_8, z_10, z_16, z_20, z_64, not_false_eq_true]
  refine K h8 (HF_trans F15 (HF_trans F6 (HF_trans F7 F8))) ?_
  have e : gr1 ++ ofF (fun _ => (0 : Int32).toInt8) 8 ++ sV A 2 ++ (ca1 ++ ofF (fun _ => (48 : Int32).toInt8) 11) ++ [(48 + nI a).toInt8] = heL (sV A 2) a := by
    unfold heL
    simp only [List.append_assoc]
  rw [← e]
  exact X8
theorem RC_26 {m : List Int8} (R : RC h A) (f : HF [26, 27] h h') (N : ROW h' 26 27 68 m) : RC h' A := by
  obtain ⟨C, ⟨t, ht, r1, r2, T, ⟨l1, w1⟩, ⟨l2, w2⟩⟩, B, CL, LL, ⟨_, ⟨l3, w3⟩, ⟨l4, w4⟩⟩⟩ := R
  have out : ∀ x, (x < 26 ∨ 27 < x) → x ∉ [26, 27] := fun x hx z => by simp at z; omega
  refine ⟨CO_fr C f, ⟨t, ht, by rw [f.2.2.1]; exact r1, by rw [f.2.2.1]; exact r2, TR_fr T f (fun x h1 h2 => out x (by omega)) (fun _ => rfl) rfl rfl, ⟨l1, ROW_fr w1 f (out _ (by omega)) (out _ (by omega))⟩, ⟨l2, ROW_fr w2 f (out _ (by omega)) (out _ (by omega))⟩⟩, BYS_fr B f (fun x hx => out x (by omega)) (fun _ => rfl) rfl, fun k hk => CR_fr (CL k hk) f (fun x h1 h2 => out x (by omega)) (fun _ _ => rfl) rfl, fun a b ha hb hab => ?_, ⟨m, N⟩, ⟨l3, ROW_fr w3 f (by simp) (by simp)⟩, ⟨l4, ROW_fr w4 f (by simp) (by simp)⟩⟩
  have l1 := lkA_in (k := 5 * a + b) (by omega) (by omega)
  exact LR_fr (LL a b ha hb hab) f (fun x hx => out x (by rw [lkC_m] at hx; omega))
theorem c_greet (R : RC h A) {a b : Nat} (ha : a < 5) (hb : b < 5) (hab : a ≠ b) (hw : (sW A (5 * a + b)).length + 68 ≤ 4000) (hn : a ≠ 4 → (sV A 2).length = 20) (K : ∀ h', HC h h' → RC h' (greA A a b) → Q none h') : pz_M (d + 5) mX5_greet [.ref 23, .int (nI a), .ref (lkA (5 * b + a))] h Q := by
  obtain ⟨t, ht, tr, tc, T⟩ := TS_of R
  obtain ⟨n1, n2, n3, n4⟩ := R.1.2.2.2.2.2.1
  obtain ⟨l0, W⟩ := R.2.2.2.2.2.1
  have W1 := W.1
  have tR := (TOR_of R ht).2.2.2.2.1
  unfold greA at K
  by_cases e : a = 4
  · rw [if_pos e] at K
    subst e
    simp only [enX5_greet, uX5_greet_0, uX5_greet_1, uX5_greet_2, uX5_greet_5, uX5_greet_5o, uX5_greet_5f, uX5_greet_6, uX5_greet_9, uX5_greet_9o, uX5_greet_9f, uX5_greet_10, uX5_greet_13, uX5_greet_14, uX5_greet_17, uX5_greet_17o, uX5_greet_17f, uX5_greet_18, uX5_greet_21, uX5_greet_21o, uX5_greet_21f, uX5_greet_22, uX5_greet_25, uX5_greet_26, uX5_greet_26o, uX5_greet_26f, uX5_greet_27, uX5_greet_30, uX5_greet_33, uX5_greet_36, pq_C_sI, pq_C_sJ, pq_C_sR, pq_C_sA, pq_L_sI, pq_L_sJ, pq_L_sR, pq_L_sA, pq_I_sI, pq_I_sJ, pq_I_sR, pq_I_sA, pq_J_sI, pq_J_sJ, pq_J_sR, pq_J_sA, pq_R_sI, pq_R_sJ, pq_R_sR, pq_R_sA, pq_N_sI, pq_N_sJ, pq_N_sR, pq_N_sA, pq_S_sI, pq_S_sJ, pq_S_sR, pq_S_sA, pz_rf_s, pz_cut_i, pz_cut_r, pz_cut_n, pz_cut_f, pz_cut_u, pz_cut_o, true_and, and_true, true_or, or_true, Option.toList_some, Option.toList_none, List.cons_append, List.nil_append, Nat.add_left_cancel_iff, Nat.left_eq_add, Nat.add_eq_left, Nat.reduceEqDiff, if_true, if_false, ite_true, ite_false, false_and, and_false, false_or, or_false, reduceIte, reduceCtorEq, and_self, z_4, z_5, z_7, z_8, z_10, z_16, z_20, z_64, not_false_eq_true, show nI 4 = 4 from rfl]
    exact K h HC_refl R
  · rw [if_neg e] at K
    have ne : ¬ nI a = 4 := fun z => e ((nI_eq (b := 4) (by omega) (by decide)).mp z)
    have h20 := hn e
    have hl := heL_len (a := a) h20
    simp only [enX5_greet, uX5_greet_0, uX5_greet_1, uX5_greet_2, uX5_greet_5, uX5_greet_5o, uX5_greet_5f, uX5_greet_6, uX5_greet_9, uX5_greet_9o, uX5_greet_9f, uX5_greet_10, uX5_greet_13, uX5_greet_14, uX5_greet_17, uX5_greet_17o, uX5_greet_17f, uX5_greet_18, uX5_greet_21, uX5_greet_21o, uX5_greet_21f, uX5_greet_22, uX5_greet_25, uX5_greet_26, uX5_greet_26o, uX5_greet_26f, uX5_greet_27, uX5_greet_30, uX5_greet_33, uX5_greet_36, pq_C_sI, pq_C_sJ, pq_C_sR, pq_C_sA, pq_L_sI, pq_L_sJ, pq_L_sR, pq_L_sA, pq_I_sI, pq_I_sJ, pq_I_sR, pq_I_sA, pq_J_sI, pq_J_sJ, pq_J_sR, pq_J_sA, pq_R_sI, pq_R_sJ, pq_R_sR, pq_R_sA, pq_N_sI, pq_N_sJ, pq_N_sR, pq_N_sA, pq_S_sI, pq_S_sJ, pq_S_sR, pq_S_sA, pz_rf_s, pz_cut_i, pz_cut_r, pz_cut_n, pz_cut_f, pz_cut_u, pz_cut_o, true_and, and_true, true_or, or_true, Option.toList_some, Option.toList_none, List.cons_append, List.nil_append, Nat.add_left_cancel_iff, Nat.left_eq_add, Nat.add_eq_left, Nat.reduceEqDiff, if_true, if_false, ite_true, ite_false, false_and, and_false, false_or, or_false, reduceIte, reduceCtorEq, and_self, z_4, z_5, z_7, z_8, z_10, z_16, z_20, z_64, not_false_eq_true, ne, n1, n4, tr, tc, W1]
    refine c_writeHello tc tR ht T h20 W (fun h1 F1 X1 => ?_)
    have R1 := RC_26 R F1 X1
    obtain ⟨m1, m2, m3, m4⟩ := R1.1.2.2.2.2.2.1
    obtain ⟨⟨g1, g2, _⟩, L1⟩ := LN_of R1 hb ha (fun z => hab z.symm)
    have Wa := L1.2.2.2.2.2.2.2.2.2.2.2.2.2
    have Y1 := X1.1
    have Y2 := Wa.1
    have lin := lkA_in (k := 5 * b + a) (by omega) (by omega)
    simp only [enX5_greet, uX5_greet_0, uX5_greet_1, uX5_greet_2, uX5_greet_5, uX5_greet_5o, uX5_greet_5f, uX5_greet_6, uX5_greet_9, uX5_greet_9o, uX5_greet_9f, uX5_greet_10, uX5_greet_13, uX5_greet_14, uX5_greet_17, uX5_greet_17o, uX5_greet_17f, uX5_greet_18, uX5_greet_21, uX5_greet_21o, uX5_greet_21f, uX5_greet_22, uX5_greet_25, uX5_greet_26, uX5_greet_26o, uX5_greet_26f, uX5_greet_27, uX5_greet_30, uX5_greet_33, uX5_greet_36, pq_C_sI, pq_C_sJ, pq_C_sR, pq_C_sA, pq_L_sI, pq_L_sJ, pq_L_sR, pq_L_sA, pq_I_sI, pq_I_sJ, pq_I_sR, pq_I_sA, pq_J_sI, pq_J_sJ, pq_J_sR, pq_J_sA, pq_R_sI, pq_R_sJ, pq_R_sR, pq_R_sA, pq_N_sI, pq_N_sJ, pq_N_sR, pq_N_sA, pq_S_sI, pq_S_sJ, pq_S_sR, pq_S_sA, pz_rf_s, pz_cut_i, pz_cut_r, pz_cut_n, pz_cut_f, pz_cut_u, pz_cut_o, true_and, and_true, true_or, or_true, Option.toList_some, Option.toList_none, List.cons_append, List.nil_append, Nat.add_left_cancel_iff, Nat.left_eq_add, Nat.add_eq_left, Nat.reduceEqDiff, if_true, if_false, ite_true, ite_false, false_and, and_false, false_or, or_false, reduceIte, reduceCtorEq, and_self, z_4, z_5, z_7, z_8, z_10, z_16, z_20, z_64, not_false_eq_true, m1, m4, g1, g2, Y1, Y2, c_size X1]
    refine (show _ from c_addPart (b := 0) (n := (heL (sV A 2) a).length) Wa X1 ⟨by omega, by omega⟩ (by omega) (by rw [hl]; exact hw) (fun h2 F2 X2 => ?_) : pz_M (d + 4) mX6_addPart [.ref (lkA (5 * b + a) + 1), .ref 26, .int 0, .int (nI (heL (sV A 2) a).length)] h1 _)
    simp only [enX5_greet, uX5_greet_0, uX5_greet_1, uX5_greet_2, uX5_greet_5, uX5_greet_5o, uX5_greet_5f, uX5_greet_6, uX5_greet_9, uX5_greet_9o, uX5_greet_9f, uX5_greet_10, uX5_greet_13, uX5_greet_14, uX5_greet_17, uX5_greet_17o, uX5_greet_17f, uX5_greet_18, uX5_greet_21, uX5_greet_21o, uX5_greet_21f, uX5_greet_22, uX5_greet_25, uX5_greet_26, uX5_greet_26o, uX5_greet_26f, uX5_greet_27, uX5_greet_30, uX5_greet_33, uX5_greet_36, pq_C_sI, pq_C_sJ, pq_C_sR, pq_C_sA, pq_L_sI, pq_L_sJ, pq_L_sR, pq_L_sA, pq_I_sI, pq_I_sJ, pq_I_sR, pq_I_sA, pq_J_sI, pq_J_sJ, pq_J_sR, pq_J_sA, pq_R_sI, pq_R_sJ, pq_R_sR, pq_R_sA, pq_N_sI, pq_N_sJ, pq_N_sR, pq_N_sA, pq_S_sI, pq_S_sJ, pq_S_sR, pq_S_sA, pz_rf_s, pz_cut_i, pz_cut_r, pz_cut_n, pz_cut_f, pz_cut_u, pz_cut_o, true_and, and_true, true_or, or_true, Option.toList_some, Option.toList_none, List.cons_append, List.nil_append, Nat.add_left_cancel_iff, Nat.left_eq_add, Nat.add_eq_left, Nat.reduceEqDiff, if_true, if_false, ite_true, ite_false, false_and, and_false, false_or, or_false, reduceIte, reduceCtorEq, and_self, z_4, z_5, z_7, z_8, z_10, z_16, z_20, z_64, not_false_eq_true]
    rw [ofF_take (Nat.le_refl _), List.take_length] at X2
    have R2 := RC_W R1 hb ha (fun z => hab z.symm) F2 X2
    refine K h2 (HC_trans (HC_HF F1 (fun x hx => by simp at hx; omega)) (HC_W hb ha (fun z => hab z.symm) F2)) ?_
    unfold sndA
    rw [if_pos (by rw [hl]; exact hw)]
    exact R2
theorem c_start {a b : Nat} (C : CO h) (ha : a < 5) (hb : b < 5) (hab : a ≠ b) : pz_M (d + 1) mX3_start [.ref (lkA (5 * a + b))] h Q ↔ Q none (pz_sI (pz_sI (pz_sI h (lkA (5 * a + b)) 3 1) (lkA (5 * a + b)) 6 1) (lkA (5 * a + b)) 7 1) := by
  have k1 := (C.2.2.2.2.2.2.2.1 (5 * a + b) (by omega) (by omega)).2.1
  simp only [enX3_start, uX3_start_0, uX3_start_0o, uX3_start_0f, uX3_start_1, uX3_start_2, uX3_start_5, uX3_start_5o, uX3_start_5f, uX3_start_6, uX3_start_7, uX3_start_10, uX3_start_10o, uX3_start_10f, uX3_start_11, uX3_start_12, uX3_start_15, pq_C_sI, pq_C_sJ, pq_C_sR, pq_C_sA, pq_L_sI, pq_L_sJ, pq_L_sR, pq_L_sA, pq_I_sI, pq_I_sJ, pq_I_sR, pq_I_sA, pq_J_sI, pq_J_sJ, pq_J_sR, pq_J_sA, pq_R_sI, pq_R_sJ, pq_R_sR, pq_R_sA, pq_N_sI, pq_N_sJ, pq_N_sR, pq_N_sA, pq_S_sI, pq_S_sJ, pq_S_sR, pq_S_sA, pz_rf_s, pz_cut_i, pz_cut_r, pz_cut_n, pz_cut_f, pz_cut_u, pz_cut_o, true_and, and_true, true_or, or_true, Option.toList_some, Option.toList_none, List.cons_append, List.nil_append, Nat.add_left_cancel_iff, Nat.left_eq_add, Nat.add_eq_left, Nat.reduceEqDiff, if_true, if_false, ite_true, ite_false, false_and, and_false, false_or, or_false, reduceIte, reduceCtorEq, and_self, z_4, z_5, z_7, z_8, z_10, z_16, z_20, z_64, not_false_eq_true, k1]
/-- a link that was closed begins -/
theorem LR_st {a b : Nat} (L : LR h A a b) (I : LI A l c p) (ha : a < 5) (hb : b < 5) (hj : sB A 23 (5 * a + b) = 0) (f : HF (lkC (5 * a + b)) h h') (e : h' = pz_sI (pz_sI (pz_sI h (lkA (5 * a + b)) 3 1) (lkA (5 * a + b)) 6 1) (lkA (5 * a + b)) 7 1) (v23 : sB A' 23 (5 * a + b) = 1) (v24 : sB A' 24 (5 * a + b) = 0) (v25 : sB A' 25 (5 * a + b) = 0) (v26 : sB A' 26 (5 * a + b) = 1) (v27 : sB A' 27 (5 * a + b) = 1) (v28 : sB A' 28 (5 * a + b) = 0) (v29 : sB A' 29 (5 * a + b) = 0) (v30 : ∀ q, q < 64 → sB A' 30 (64 * (5 * a + b) + q) = 0) (v31 : sB A' 31 (5 * a + b) = sB A 31 (5 * a + b)) (vL : sL A' (5 * a + b) = []) (vW : sW A' (5 * b + a) = []) : LR h' A' a b := by
  obtain ⟨r0, r1, r3, r4, r5, r6, r7, r8, r9, r10, r12, r11, r13, rw⟩ := L
  obtain ⟨z24, z25, z28, z29, z30, zW, zL⟩ := (I.1 a b ha hb).2.1 hj
  have h23' : sB A 23 (5 * b + a) = 0 := Classical.byContradiction (fun z => ((I.1 b a hb ha).1 z).2.2 hj)
  have zW' := ((I.1 b a hb ha).2.1 h23').2.2.2.2.2.1
  have iv : ∀ i, pz_I h' (lkA (5 * a + b)) i = if i = 7 then 1 else if i = 6 then 1 else if i = 3 then 1 else pz_I h (lkA (5 * a + b)) i := by
    intro i
    rw [e]
    simp only [pq_I_sI, true_and]
  have jv : pz_J h' (lkA (5 * a + b)) = pz_J h (lkA (5 * a + b)) := by rw [e]; rfl
  have i3 : pz_I h' (lkA (5 * a + b) + 3) = pz_I h (lkA (5 * a + b) + 3) := by
    rw [e]
    funext i
    rw [pq_I_sI, if_neg (by omega), pq_I_sI, if_neg (by omega), pq_I_sI, if_neg (by omega)]
  have f2 : HF [lkA (5 * a + b)] h h' := by
    rw [e]
    exact HF_trans (HF_trans (HF_sI (by simp)) (HF_sI (by simp))) (HF_sI (by simp))
  rw [zL] at r12
  rw [zW'] at rw
  unfold LR
  rw [iv 0, iv 1, iv 3, iv 4, iv 5, iv 6, iv 7, iv 8, iv 9, iv 12, iv 13, jv, v23, v24, v25, v26, v27, v28, v29, v31, vL, vW]
  refine ⟨r0, r1, rfl, r4.trans z24, r5.trans z25, rfl, rfl, r8.trans z28, r9.trans z29, fun q hq => ?_, r12, ASK_0, r13, ROW_fr rw f2 (by simp) (by simp)⟩
  rw [r10 q hq]
  show decide (sB A 30 (64 * (5 * a + b) + q) ≠ 0) = decide (sB A' 30 (64 * (5 * a + b) + q) ≠ 0)
  rw [z30 q hq, v30 q hq]
theorem fo_w {B : Tb} {k r j : Nat} (hr : r ∈ [23, 24, 25, 26, 27, 28, 29, 31]) : fo B k r j = if r = 31 then B r j else if j = k then (if r = 26 ∨ r = 27 then 1 else 0) else B r j := by
  have hc : r = 23 ∨ r = 24 ∨ r = 25 ∨ r = 26 ∨ r = 27 ∨ r = 28 ∨ r = 29 ∨ r = 31 := by simpa using hr
  unfold fo fo7
  by_cases e : j = k
  · subst e
    rcases hc with rfl | rfl | rfl | rfl | rfl | rfl | rfl | rfl <;> simp [gu_11, gu_22]
  · rcases hc with rfl | rfl | rfl | rfl | rfl | rfl | rfl | rfl <;> simp [gu_11, gu_22, e]
def jpA (A : St) (x y : Nat) : St := jnA (prA A x y) x y
theorem jp_v {x y r j : Nat} (hr : r ∈ [23, 24, 25, 26, 27, 28, 29, 31]) : sB (jpA A x y) r j = if r = 31 then sB A r j else if j = 5 * x + y ∨ j = 5 * y + x then (if r = 23 ∨ r = 26 ∨ r = 27 then 1 else 0) else sB A r j := by
  show pz_u2 (pz_u2 (fo (fo (sB A) (5 * x + y)) (5 * y + x)) 23 (5 * x + y) 1) 23 (5 * y + x) 1 r j = _
  have hc : r = 23 ∨ r = 24 ∨ r = 25 ∨ r = 26 ∨ r = 27 ∨ r = 28 ∨ r = 29 ∨ r = 31 := by simpa using hr
  rw [gu_22, gu_22, fo_w hr, fo_w hr]
  by_cases e1 : j = 5 * y + x
  · subst e1
    rcases hc with rfl | rfl | rfl | rfl | rfl | rfl | rfl | rfl <;> simp
  · by_cases e2 : j = 5 * x + y
    · subst e2
      rcases hc with rfl | rfl | rfl | rfl | rfl | rfl | rfl | rfl <;> simp
    · rcases hc with rfl | rfl | rfl | rfl | rfl | rfl | rfl | rfl <;> simp [e1, e2]
theorem jp_30 {x y : Nat} : sB (jpA A x y) 30 = fil (fil (sB A 30) (64 * (5 * x + y)) 64 0) (64 * (5 * y + x)) 64 0 := rfl
theorem c_join (R : RC h A) (I : LI A l c p) {x y : Nat} (hx : x < 5) (hy : y < 5) (hxy : x ≠ y) (hj : sB A 23 (5 * x + y) = 0) (hn : (sV A 2).length = 20 ∨ (x = 4 ∧ y = 4)) (K : ∀ h', HC h h' → RC h' (greA (greA (jnA (prA A x y) x y) x y) y x) → Q none h') : pz_M (d + 6) mX5_join [.ref 23, .int (nI x), .int (nI y)] h Q := by
  have h20 : (sV A 2).length = 20 := by
    rcases hn with z | z
    · exact z
    · omega
  have n1 := R.1.2.2.2.2.2.1.1
  have k1 := (LN_of R hx hy hxy).1.1
  have k2 := (LN_of R hy hx hxy.symm).1.1
  have l1 := lkA_in (k := 5 * x + y) (by omega) (by omega)
  have l2 := lkA_in (k := 5 * y + x) (by omega) (by omega)
  have hj' : sB A 23 (5 * y + x) = 0 := Classical.byContradiction (fun z => ((I.1 y x hy hx).1 z).2.2 hj)
  have C1 := CO_fr R.1 (HF_trans (HF_trans (HF_sI (cs := [lkA (5 * x + y)]) (h := h) (a := lkA (5 * x + y)) (k := 3) (v := 1) (by simp)) (HF_sI (a := lkA (5 * x + y)) (k := 6) (v := 1) (by simp))) (HF_sI (a := lkA (5 * x + y)) (k := 7) (v := 1) (by simp)))
  simp only [enX5_join, uX5_join_0, uX5_join_0o, uX5_join_0f, uX5_join_1, uX5_join_2, uX5_join_3, uX5_join_6, uX5_join_6o, uX5_join_7, uX5_join_7o, uX5_join_7f, uX5_join_8, uX5_join_9, uX5_join_10, uX5_join_13, uX5_join_13o, uX5_join_15, uX5_join_15o, uX5_join_15f, uX5_join_16, uX5_join_16a, uX5_join_19, uX5_join_19o, uX5_join_19f, uX5_join_21, uX5_join_21a, uX5_join_24, uX5_join_24o, uX5_join_24f, uX5_join_25, uX5_join_28, uX5_join_28o, uX5_join_28f, uX5_join_30, uX5_join_33, uX5_join_33o, uX5_join_33f, uX5_join_34, uX5_join_35, uX5_join_35o, uX5_join_35f, uX5_join_37, uX5_join_40, uX5_join_40o, uX5_join_40f, uX5_join_41, uX5_join_42, uX5_join_42o, uX5_join_42f, uX5_join_43, uX5_join_46, pq_C_sI, pq_C_sJ, pq_C_sR, pq_C_sA, pq_L_sI, pq_L_sJ, pq_L_sR, pq_L_sA, pq_I_sI, pq_I_sJ, pq_I_sR, pq_I_sA, pq_J_sI, pq_J_sJ, pq_J_sR, pq_J_sA, pq_R_sI, pq_R_sJ, pq_R_sR, pq_R_sA, pq_N_sI, pq_N_sJ, pq_N_sR, pq_N_sA, pq_S_sI, pq_S_sJ, pq_S_sR, pq_S_sA, pz_rf_s, pz_cut_i, pz_cut_r, pz_cut_n, pz_cut_f, pz_cut_u, pz_cut_o, true_and, and_true, true_or, or_true, Option.toList_some, Option.toList_none, List.cons_append, List.nil_append, Nat.add_left_cancel_iff, Nat.left_eq_add, Nat.add_eq_left, Nat.reduceEqDiff, if_true, if_false, ite_true, ite_false, false_and, and_false, false_or, or_false, reduceIte, reduceCtorEq, and_self, z_4, z_5, z_7, z_8, z_10, z_16, z_20, z_64, not_false_eq_true, n1, c_linkOf R.1, lkO_of hx hy hxy, lkO_of hy hx hxy.symm, k1, k2, c_start R.1 hx hy hxy, c_start C1 hy hx hxy.symm]
  have f1 : HF (lkC (5 * x + y)) h (pz_sI (pz_sI (pz_sI h (lkA (5 * x + y)) 3 1) (lkA (5 * x + y)) 6 1) (lkA (5 * x + y)) 7 1) := HF_trans (HF_trans (HF_sI (lkC_m.mpr (by omega))) (HF_sI (lkC_m.mpr (by omega)))) (HF_sI (lkC_m.mpr (by omega)))
  generalize e1 : pz_sI (pz_sI (pz_sI h (lkA (5 * x + y)) 3 1) (lkA (5 * x + y)) 6 1) (lkA (5 * x + y)) 7 1 = h1 at f1
  have f2 : HF (lkC (5 * y + x)) h1 (pz_sI (pz_sI (pz_sI h1 (lkA (5 * y + x)) 3 1) (lkA (5 * y + x)) 6 1) (lkA (5 * y + x)) 7 1) := HF_trans (HF_trans (HF_sI (lkC_m.mpr (by omega))) (HF_sI (lkC_m.mpr (by omega)))) (HF_sI (lkC_m.mpr (by omega)))
  generalize e2 : pz_sI (pz_sI (pz_sI h1 (lkA (5 * y + x)) 3 1) (lkA (5 * y + x)) 6 1) (lkA (5 * y + x)) 7 1 = h2 at f2
  have R2 : RC h2 (jpA A x y) := by
    obtain ⟨C, T, B, CL, LL, J⟩ := R
    have f : HF (lkC (5 * x + y) ++ lkC (5 * y + x)) h h2 := HF_trans (HF_up f1 (fun z hz => List.mem_append_left _ hz)) (HF_up f2 (fun z hz => List.mem_append_right _ hz))
    have out : ∀ z, (z < 52 ∨ 131 < z) → z ∉ lkC (5 * x + y) ++ lkC (5 * y + x) := by
      intro z hz q
      rw [List.mem_append, lkC_m, lkC_m] at q
      omega
    have LL1 := LR_st (A' := jpA A x y) (h' := h1) (LL x y hx hy hxy) I hx hy hj f1 e1.symm (by rw [jp_v (by decide)]; simp) (by rw [jp_v (by decide)]; simp) (by rw [jp_v (by decide)]; simp) (by rw [jp_v (by decide)]; simp) (by rw [jp_v (by decide)]; simp) (by rw [jp_v (by decide)]; simp) (by rw [jp_v (by decide)]; simp) (fun q hq => by
      rw [jp_30]
      rw [fil_out (by omega), fil_in (by omega)]) (by rw [jp_v (by decide)]; simp) (by
      show upf (upf (sL A) (5 * x + y) []) (5 * y + x) [] (5 * x + y) = []
      unfold upf
      split
      · rfl
      · rw [if_pos rfl]) (by
      show upf (upf (sW A) (5 * x + y) []) (5 * y + x) [] (5 * y + x) = []
      exact upf_s)
    have LL2 := LR_st (A' := jpA A x y) (h' := h2) (LR_fr (LL y x hy hx hxy.symm) f1 (lk_ne hx hy hxy hy hx hxy.symm (fun z => hxy z.2))) I hy hx hj' f2 e2.symm (by rw [jp_v (by decide)]; simp) (by rw [jp_v (by decide)]; simp) (by rw [jp_v (by decide)]; simp) (by rw [jp_v (by decide)]; simp) (by rw [jp_v (by decide)]; simp) (by rw [jp_v (by decide)]; simp) (by rw [jp_v (by decide)]; simp) (fun q hq => by
      rw [jp_30]
      rw [fil_in (by omega)]) (by rw [jp_v (by decide)]; simp) (by
      show upf (upf (sL A) (5 * x + y) []) (5 * y + x) [] (5 * y + x) = []
      exact upf_s) (by
      show upf (upf (sW A) (5 * x + y) []) (5 * y + x) [] (5 * x + y) = []
      unfold upf
      split
      · rfl
      · rw [if_pos rfl])
    refine ⟨CO_fr C f, TRS_fr T f (fun z h1 h2 => out z (by omega)) (fun j => rfl) rfl rfl, BYS_fr B f (fun z hz => out z (by omega)) (fun j => rfl) rfl, fun k hk => CR_fr (CL k hk) f (fun z h1 h2 => out z (by omega)) (fun r hr => ?_) rfl, fun a b ha hb hab => ?_, JNK_fr J f (fun z hz => out z (by omega))⟩
    · have hc : r = 18 ∨ r = 20 ∨ r = 21 ∨ r = 22 := by simpa using hr
      rcases hc with rfl | rfl | rfl | rfl <;> rfl
    · by_cases q1 : a = x ∧ b = y
      · obtain ⟨rfl, rfl⟩ := q1
        exact LR_fr LL1 f2 (lk_ne hb ha hab.symm ha hb hab (fun z => hab z.1))
      · by_cases q2 : a = y ∧ b = x
        · obtain ⟨rfl, rfl⟩ := q2
          exact LL2
        · have n1 : 5 * a + b ≠ 5 * x + y := fun z => q1 (k_inj hb hy z)
          have n2 : 5 * a + b ≠ 5 * y + x := fun z => q2 (k_inj hb hx z)
          have n3 : 5 * b + a ≠ 5 * x + y := fun z => by have := k_inj ha hy z; exact q2 ⟨this.2, this.1⟩
          have n4 : 5 * b + a ≠ 5 * y + x := fun z => by have := k_inj ha hx z; exact q1 ⟨this.2, this.1⟩
          refine LR_A (LR_fr (LL a b ha hb hab) f (fun z hz => ?_)) (fun r hr => ?_) (fun q hq => ?_) ?_ ?_
          · rw [List.mem_append, not_or]
            exact ⟨lk_ne hx hy hxy ha hb hab q1 z hz, lk_ne hy hx hxy.symm ha hb hab q2 z hz⟩
          · rw [jp_v hr]
            split
            · rfl
            · rw [if_neg (fun z => z.elim n1 n2)]
          · rw [jp_30, fil_out (by omega), fil_out (by omega)]
          · show upf (upf (sL A) _ _) _ _ _ = _
            rw [upf_n n2, upf_n n1]
          · show upf (upf (sW A) _ _) _ _ _ = _
            rw [upf_n n4, upf_n n3]
  have H2 : HC h h2 := HC_trans (HC_HF f1 (fun z hz => by rw [lkC_m] at hz; omega)) (HC_HF f2 (fun z hz => by rw [lkC_m] at hz; omega))
  have w1 : sW (jpA A x y) (5 * x + y) = [] := by
    show upf (upf (sW A) (5 * x + y) []) (5 * y + x) [] (5 * x + y) = []
    unfold upf
    split
    · rfl
    · rw [if_pos rfl]
  have w2 : sW (jpA A x y) (5 * y + x) = [] := upf_s
  have v2 : sV (jpA A x y) = sV A := rfl
  have K' : ∀ h', HC h h' → RC h' (greA (greA (jpA A x y) x y) y x) → Q none h' := K
  generalize jpA A x y = A2 at R2 w1 w2 v2 K'
  have n2 := R2.1.2.2.2.2.2.1.1
  have w3 : (sW (greA A2 x y) (5 * y + x)).length + 68 ≤ 4000 := by
    unfold greA
    split
    · rw [w2]; decide
    · unfold sndA
      rw [if_pos (by rw [w1, v2, heL_len h20]; decide)]
      show (upf (sW A2) (5 * x + y) _ (5 * y + x)).length + 68 ≤ 4000
      rw [upf_n (by omega), w2]
      decide
  have v3 : sV (greA A2 x y) = sV A := by
    unfold greA
    split
    · exact v2
    · unfold sndA
      split
      · exact v2
      · exact v2
  refine c_greet R2 hx hy hxy (by rw [w1]; decide) (fun _ => by rw [v2]; exact h20) (fun h3 H3 R3 => ?_)
  have n3 := R3.1.2.2.2.2.2.1.1
  simp only [enX5_join, uX5_join_0, uX5_join_0o, uX5_join_0f, uX5_join_1, uX5_join_2, uX5_join_3, uX5_join_6, uX5_join_6o, uX5_join_7, uX5_join_7o, uX5_join_7f, uX5_join_8, uX5_join_9, uX5_join_10, uX5_join_13, uX5_join_13o, uX5_join_15, uX5_join_15o, uX5_join_15f, uX5_join_16, uX5_join_16a, uX5_join_19, uX5_join_19o, uX5_join_19f, uX5_join_21, uX5_join_21a, uX5_join_24, uX5_join_24o, uX5_join_24f, uX5_join_25, uX5_join_28, uX5_join_28o, uX5_join_28f, uX5_join_30, uX5_join_33, uX5_join_33o, uX5_join_33f, uX5_join_34, uX5_join_35, uX5_join_35o, uX5_join_35f, uX5_join_37, uX5_join_40, uX5_join_40o, uX5_join_40f, uX5_join_41, uX5_join_42, uX5_join_42o, uX5_join_42f, uX5_join_43, uX5_join_46, pq_C_sI, pq_C_sJ, pq_C_sR, pq_C_sA, pq_L_sI, pq_L_sJ, pq_L_sR, pq_L_sA, pq_I_sI, pq_I_sJ, pq_I_sR, pq_I_sA, pq_J_sI, pq_J_sJ, pq_J_sR, pq_J_sA, pq_R_sI, pq_R_sJ, pq_R_sR, pq_R_sA, pq_N_sI, pq_N_sJ, pq_N_sR, pq_N_sA, pq_S_sI, pq_S_sJ, pq_S_sR, pq_S_sA, pz_rf_s, pz_cut_i, pz_cut_r, pz_cut_n, pz_cut_f, pz_cut_u, pz_cut_o, true_and, and_true, true_or, or_true, Option.toList_some, Option.toList_none, List.cons_append, List.nil_append, Nat.add_left_cancel_iff, Nat.left_eq_add, Nat.add_eq_left, Nat.reduceEqDiff, if_true, if_false, ite_true, ite_false, false_and, and_false, false_or, or_false, reduceIte, reduceCtorEq, and_self, z_4, z_5, z_7, z_8, z_10, z_16, z_20, z_64, not_false_eq_true, n3]
  refine c_greet R3 hy hx hxy.symm w3 (fun _ => by rw [v3]; exact h20) (fun h4 H4 R4 => ?_)
  simp only [enX5_join, uX5_join_0, uX5_join_0o, uX5_join_0f, uX5_join_1, uX5_join_2, uX5_join_3, uX5_join_6, uX5_join_6o, uX5_join_7, uX5_join_7o, uX5_join_7f, uX5_join_8, uX5_join_9, uX5_join_10, uX5_join_13, uX5_join_13o, uX5_join_15, uX5_join_15o, uX5_join_15f, uX5_join_16, uX5_join_16a, uX5_join_19, uX5_join_19o, uX5_join_19f, uX5_join_21, uX5_join_21a, uX5_join_24, uX5_join_24o, uX5_join_24f, uX5_join_25, uX5_join_28, uX5_join_28o, uX5_join_28f, uX5_join_30, uX5_join_33, uX5_join_33o, uX5_join_33f, uX5_join_34, uX5_join_35, uX5_join_35o, uX5_join_35f, uX5_join_37, uX5_join_40, uX5_join_40o, uX5_join_40f, uX5_join_41, uX5_join_42, uX5_join_42o, uX5_join_42f, uX5_join_43, uX5_join_46, pq_C_sI, pq_C_sJ, pq_C_sR, pq_C_sA, pq_L_sI, pq_L_sJ, pq_L_sR, pq_L_sA, pq_I_sI, pq_I_sJ, pq_I_sR, pq_I_sA, pq_J_sI, pq_J_sJ, pq_J_sR, pq_J_sA, pq_R_sI, pq_R_sJ, pq_R_sR, pq_R_sA, pq_N_sI, pq_N_sJ, pq_N_sR, pq_N_sA, pq_S_sI, pq_S_sJ, pq_S_sR, pq_S_sA, pz_rf_s, pz_cut_i, pz_cut_r, pz_cut_n, pz_cut_f, pz_cut_u, pz_cut_o, true_and, and_true, true_or, or_true, Option.toList_some, Option.toList_none, List.cons_append, List.nil_append, Nat.add_left_cancel_iff, Nat.left_eq_add, Nat.add_eq_left, Nat.reduceEqDiff, if_true, if_false, ite_true, ite_false, false_and, and_false, false_or, or_false, reduceIte, reduceCtorEq, and_self, z_4, z_5, z_7, z_8, z_10, z_16, z_20, z_64, not_false_eq_true]
  exact K' h4 (HC_trans H2 (HC_trans H3 H4)) R4
theorem c_canJoin (R : RC h A) {a : Nat} (ha : a < 5) : pz_M (d + 2) mX5_canJoin [.ref 23, .int (nI a)] h Q ↔ Q (some (.int (if a = 4 ∨ sB A 18 a ≠ 0 then 1 else 0))) h := by
  have n1 := R.1.2.2.2.2.2.1.1
  by_cases e : a = 4
  · subst e
    simp only [enX5_canJoin, uX5_canJoin_0, uX5_canJoin_1, uX5_canJoin_2, uX5_canJoin_5, uX5_canJoin_5o, uX5_canJoin_5f, uX5_canJoin_6, uX5_canJoin_7, uX5_canJoin_10, uX5_canJoin_10a, uX5_canJoin_13, uX5_canJoin_14, uX5_canJoin_17, uX5_canJoin_18, pq_C_sI, pq_C_sJ, pq_C_sR, pq_C_sA, pq_L_sI, pq_L_sJ, pq_L_sR, pq_L_sA, pq_I_sI, pq_I_sJ, pq_I_sR, pq_I_sA, pq_J_sI, pq_J_sJ, pq_J_sR, pq_J_sA, pq_R_sI, pq_R_sJ, pq_R_sR, pq_R_sA, pq_N_sI, pq_N_sJ, pq_N_sR, pq_N_sA, pq_S_sI, pq_S_sJ, pq_S_sR, pq_S_sA, pz_rf_s, pz_cut_i, pz_cut_r, pz_cut_n, pz_cut_f, pz_cut_u, pz_cut_o, true_and, and_true, true_or, or_true, Option.toList_some, Option.toList_none, List.cons_append, List.nil_append, Nat.add_left_cancel_iff, Nat.left_eq_add, Nat.add_eq_left, Nat.reduceEqDiff, if_true, if_false, ite_true, ite_false, false_and, and_false, false_or, or_false, reduceIte, reduceCtorEq, and_self, z_4, z_5, z_7, z_8, z_10, z_16, z_20, z_64, not_false_eq_true, show nI 4 = 4 from rfl]
  · have ne : ¬ nI a = 4 := fun z => e ((nI_eq (b := 4) (by omega) (by decide)).mp z)
    have cc : ∀ {Q : Option Value → PzH → Prop}, pz_M (d + 1) mX5_clientOf [.ref 23, .int (nI a)] h Q ↔ Q (some (pz_rf (if sB A 18 a = 0 then none else some (36 + 4 * a)))) h := fun {Q} => by
      have := c_clientOf (d := d) (Q := Q) R.1 R.2.2.2.1 (a := nI a)
      unfold clO at this
      rw [vI_of (by decide) (show a < 4 by omega)] at this
      exact this
    by_cases q : sB A 18 a = 0
    · simp only [q, if_true] at cc
      rw [if_neg (show ¬ (a = 4 ∨ sB A 18 a ≠ 0) from fun z => z.elim e (fun y => y q))]
      simp only [enX5_canJoin, uX5_canJoin_0, uX5_canJoin_1, uX5_canJoin_2, uX5_canJoin_5, uX5_canJoin_5o, uX5_canJoin_5f, uX5_canJoin_6, uX5_canJoin_7, uX5_canJoin_10, uX5_canJoin_10a, uX5_canJoin_13, uX5_canJoin_14, uX5_canJoin_17, uX5_canJoin_18, pq_C_sI, pq_C_sJ, pq_C_sR, pq_C_sA, pq_L_sI, pq_L_sJ, pq_L_sR, pq_L_sA, pq_I_sI, pq_I_sJ, pq_I_sR, pq_I_sA, pq_J_sI, pq_J_sJ, pq_J_sR, pq_J_sA, pq_R_sI, pq_R_sJ, pq_R_sR, pq_R_sA, pq_N_sI, pq_N_sJ, pq_N_sR, pq_N_sA, pq_S_sI, pq_S_sJ, pq_S_sR, pq_S_sA, pz_rf_s, pz_cut_i, pz_cut_r, pz_cut_n, pz_cut_f, pz_cut_u, pz_cut_o, true_and, and_true, true_or, or_true, Option.toList_some, Option.toList_none, List.cons_append, List.nil_append, Nat.add_left_cancel_iff, Nat.left_eq_add, Nat.add_eq_left, Nat.reduceEqDiff, if_true, if_false, ite_true, ite_false, false_and, and_false, false_or, or_false, reduceIte, reduceCtorEq, and_self, z_4, z_5, z_7, z_8, z_10, z_16, z_20, z_64, not_false_eq_true, ne, n1, cc, pz_cut_o]
    · simp only [q, if_false] at cc
      rw [if_pos (show a = 4 ∨ sB A 18 a ≠ 0 from Or.inr q)]
      simp only [enX5_canJoin, uX5_canJoin_0, uX5_canJoin_1, uX5_canJoin_2, uX5_canJoin_5, uX5_canJoin_5o, uX5_canJoin_5f, uX5_canJoin_6, uX5_canJoin_7, uX5_canJoin_10, uX5_canJoin_10a, uX5_canJoin_13, uX5_canJoin_14, uX5_canJoin_17, uX5_canJoin_18, pq_C_sI, pq_C_sJ, pq_C_sR, pq_C_sA, pq_L_sI, pq_L_sJ, pq_L_sR, pq_L_sA, pq_I_sI, pq_I_sJ, pq_I_sR, pq_I_sA, pq_J_sI, pq_J_sJ, pq_J_sR, pq_J_sA, pq_R_sI, pq_R_sJ, pq_R_sR, pq_R_sA, pq_N_sI, pq_N_sJ, pq_N_sR, pq_N_sA, pq_S_sI, pq_S_sJ, pq_S_sR, pq_S_sA, pz_rf_s, pz_cut_i, pz_cut_r, pz_cut_n, pz_cut_f, pz_cut_u, pz_cut_o, true_and, and_true, true_or, or_true, Option.toList_some, Option.toList_none, List.cons_append, List.nil_append, Nat.add_left_cancel_iff, Nat.left_eq_add, Nat.add_eq_left, Nat.reduceEqDiff, if_true, if_false, ite_true, ite_false, false_and, and_false, false_or, or_false, reduceIte, reduceCtorEq, and_self, z_4, z_5, z_7, z_8, z_10, z_16, z_20, z_64, not_false_eq_true, ne, n1, cc]
theorem c_connect (R : RC h A) (I : LI A l c p) (hn : ∀ x, x < 4 → sB A 18 x ≠ 0 → (sV A 2).length = 20) {a b : Int32} (K : ∀ h', HC h h' → RC h' (conA A a b).2 → Q (some (.int (conA A a b).1)) h') : pz_M (d + 7) mX9_connect [.ref 0, .int a, .int b] h Q := by
  obtain ⟨s0, s1, s2, s3, s4, s5, s6, s7⟩ := DS_of R
  have n1 := R.1.2.2.2.2.2.1.1
  have lk : ∀ {Q : Option Value → PzH → Prop}, pz_M (d + 6) mX5_linkOf [.ref 23, .int a, .int b] h Q ↔ Q (some (pz_rf (lkO a b))) h := fun {Q} => c_linkOf R.1
  have no : lkO a b = none → conA A a b = (0, A) := by
    intro z
    unfold lkO at z
    unfold conA exB
    cases ea : vI a 5 with
    | none => rfl
    | some x =>
      rw [ea] at z
      cases eb : vI b 5 with
      | none => dsimp only; split <;> first | rfl | (rename_i q; exact absurd q (by simp))
      | some y =>
        rw [eb] at z
        dsimp only at z ⊢
        by_cases e : x = y
        · subst e
          by_cases q : x = 4 ∨ sB A 18 x ≠ 0
          · rw [if_pos q]
            dsimp only
            rw [if_pos (Or.inl rfl)]
          · rw [if_neg q]
        · rw [if_neg e] at z
          exact absurd z (by simp)
  cases el : lkO a b with
  | none =>
    rw [el] at lk
    rw [no el] at K
    simp only [enX9_connect, uX9_connect_0, uX9_connect_0o, uX9_connect_0f, uX9_connect_1, uX9_connect_4, uX9_connect_5, uX9_connect_6, uX9_connect_9, uX9_connect_9o, uX9_connect_10, uX9_connect_10o, uX9_connect_10f, uX9_connect_11, uX9_connect_11a, uX9_connect_14, uX9_connect_14o, uX9_connect_14f, uX9_connect_15, uX9_connect_18, uX9_connect_21, uX9_connect_21o, uX9_connect_21f, uX9_connect_22, uX9_connect_25, uX9_connect_26, uX9_connect_29, uX9_connect_32, uX9_connect_32o, uX9_connect_32f, uX9_connect_33, uX9_connect_36, uX9_connect_37, uX9_connect_40, uX9_connect_43, uX9_connect_44, uX9_connect_45, uX9_connect_45o, uX9_connect_45f, uX9_connect_46, uX9_connect_49, uX9_connect_50, uX9_connect_51, uX9_connect_54, uX9_connect_55, pq_C_sI, pq_C_sJ, pq_C_sR, pq_C_sA, pq_L_sI, pq_L_sJ, pq_L_sR, pq_L_sA, pq_I_sI, pq_I_sJ, pq_I_sR, pq_I_sA, pq_J_sI, pq_J_sJ, pq_J_sR, pq_J_sA, pq_R_sI, pq_R_sJ, pq_R_sR, pq_R_sA, pq_N_sI, pq_N_sJ, pq_N_sR, pq_N_sA, pq_S_sI, pq_S_sJ, pq_S_sR, pq_S_sA, pz_rf_s, pz_cut_i, pz_cut_r, pz_cut_n, pz_cut_f, pz_cut_u, pz_cut_o, true_and, and_true, true_or, or_true, Option.toList_some, Option.toList_none, List.cons_append, List.nil_append, Nat.add_left_cancel_iff, Nat.left_eq_add, Nat.add_eq_left, Nat.reduceEqDiff, if_true, if_false, ite_true, ite_false, false_and, and_false, false_or, or_false, reduceIte, reduceCtorEq, and_self, z_4, z_5, z_7, z_8, z_10, z_16, z_20, z_64, not_false_eq_true, s0, s6, n1, lk, pz_cut_o]
    exact K h HC_refl R
  | some k =>
    unfold lkO at el
    cases ea : vI a 5 with
    | none => rw [ea] at el; exact absurd el (by simp)
    | some x =>
      rw [ea] at el
      cases eb : vI b 5 with
      | none => rw [eb] at el; exact absurd el (by simp)
      | some y =>
        rw [eb] at el
        dsimp only at el
        by_cases exy : x = y
        · rw [if_pos exy] at el; exact absurd el (by simp)
        · obtain ⟨x5, rfl⟩ := vI_some (by decide) ea
          obtain ⟨y5, rfl⟩ := vI_some (by decide) eb
          rw [lkO_of x5 y5 exy] at lk
          obtain ⟨⟨k1, k2, k3, k4, k5⟩, L⟩ := LN_of R x5 y5 exy
          have r3 := L.2.2.1
          by_cases hj : sB A 23 (5 * x + y) = 0
          · unfold conA exB at K
            rw [ea, eb] at K
            dsimp only at K
            by_cases qx : x = 4 ∨ sB A 18 x ≠ 0
            · rw [if_pos qx] at K
              by_cases qy : y = 4 ∨ sB A 18 y ≠ 0
              · rw [if_pos qy] at K
                dsimp only at K
                rw [if_neg (show ¬ (x = y ∨ sB A 23 (5 * x + y) ≠ 0) from fun z => z.elim exy (fun w => w hj))] at K
                simp only [enX9_connect, uX9_connect_0, uX9_connect_0o, uX9_connect_0f, uX9_connect_1, uX9_connect_4, uX9_connect_5, uX9_connect_6, uX9_connect_9, uX9_connect_9o, uX9_connect_10, uX9_connect_10o, uX9_connect_10f, uX9_connect_11, uX9_connect_11a, uX9_connect_14, uX9_connect_14o, uX9_connect_14f, uX9_connect_15, uX9_connect_18, uX9_connect_21, uX9_connect_21o, uX9_connect_21f, uX9_connect_22, uX9_connect_25, uX9_connect_26, uX9_connect_29, uX9_connect_32, uX9_connect_32o, uX9_connect_32f, uX9_connect_33, uX9_connect_36, uX9_connect_37, uX9_connect_40, uX9_connect_43, uX9_connect_44, uX9_connect_45, uX9_connect_45o, uX9_connect_45f, uX9_connect_46, uX9_connect_49, uX9_connect_50, uX9_connect_51, uX9_connect_54, uX9_connect_55, pq_C_sI, pq_C_sJ, pq_C_sR, pq_C_sA, pq_L_sI, pq_L_sJ, pq_L_sR, pq_L_sA, pq_I_sI, pq_I_sJ, pq_I_sR, pq_I_sA, pq_J_sI, pq_J_sJ, pq_J_sR, pq_J_sA, pq_R_sI, pq_R_sJ, pq_R_sR, pq_R_sA, pq_N_sI, pq_N_sJ, pq_N_sR, pq_N_sA, pq_S_sI, pq_S_sJ, pq_S_sR, pq_S_sA, pz_rf_s, pz_cut_i, pz_cut_r, pz_cut_n, pz_cut_f, pz_cut_u, pz_cut_o, true_and, and_true, true_or, or_true, Option.toList_some, Option.toList_none, List.cons_append, List.nil_append, Nat.add_left_cancel_iff, Nat.left_eq_add, Nat.add_eq_left, Nat.reduceEqDiff, if_true, if_false, ite_true, ite_false, false_and, and_false, false_or, or_false, reduceIte, reduceCtorEq, and_self, z_4, z_5, z_7, z_8, z_10, z_16, z_20, z_64, not_false_eq_true, s0, s6, n1, lk, k1, r3, hj, not_true_eq_false, c_canJoin R x5, c_canJoin R y5, qx, qy, show ¬ (1 : Int32) = 0 by decide]
                refine c_join R I x5 y5 exy hj (Or.inl ?_) (fun h1 H1 R1 => ?_)
                · by_cases x4 : x = 4
                  · rcases qy with z | z
                    · omega
                    · exact hn y (by omega) z
                  · rcases qx with z | z
                    · exact absurd z x4
                    · exact hn x (by omega) z
                · simp only [enX9_connect, uX9_connect_0, uX9_connect_0o, uX9_connect_0f, uX9_connect_1, uX9_connect_4, uX9_connect_5, uX9_connect_6, uX9_connect_9, uX9_connect_9o, uX9_connect_10, uX9_connect_10o, uX9_connect_10f, uX9_connect_11, uX9_connect_11a, uX9_connect_14, uX9_connect_14o, uX9_connect_14f, uX9_connect_15, uX9_connect_18, uX9_connect_21, uX9_connect_21o, uX9_connect_21f, uX9_connect_22, uX9_connect_25, uX9_connect_26, uX9_connect_29, uX9_connect_32, uX9_connect_32o, uX9_connect_32f, uX9_connect_33, uX9_connect_36, uX9_connect_37, uX9_connect_40, uX9_connect_43, uX9_connect_44, uX9_connect_45, uX9_connect_45o, uX9_connect_45f, uX9_connect_46, uX9_connect_49, uX9_connect_50, uX9_connect_51, uX9_connect_54, uX9_connect_55, pq_C_sI, pq_C_sJ, pq_C_sR, pq_C_sA, pq_L_sI, pq_L_sJ, pq_L_sR, pq_L_sA, pq_I_sI, pq_I_sJ, pq_I_sR, pq_I_sA, pq_J_sI, pq_J_sJ, pq_J_sR, pq_J_sA, pq_R_sI, pq_R_sJ, pq_R_sR, pq_R_sA, pq_N_sI, pq_N_sJ, pq_N_sR, pq_N_sA, pq_S_sI, pq_S_sJ, pq_S_sR, pq_S_sA, pz_rf_s, pz_cut_i, pz_cut_r, pz_cut_n, pz_cut_f, pz_cut_u, pz_cut_o, true_and, and_true, true_or, or_true, Option.toList_some, Option.toList_none, List.cons_append, List.nil_append, Nat.add_left_cancel_iff, Nat.left_eq_add, Nat.add_eq_left, Nat.reduceEqDiff, if_true, if_false, ite_true, ite_false, false_and, and_false, false_or, or_false, reduceIte, reduceCtorEq, and_self, z_4, z_5, z_7, z_8, z_10, z_16, z_20, z_64, not_false_eq_true]
                  exact K h1 H1 R1
              · rw [if_neg qy] at K
                simp only [enX9_connect, uX9_connect_0, uX9_connect_0o, uX9_connect_0f, uX9_connect_1, uX9_connect_4, uX9_connect_5, uX9_connect_6, uX9_connect_9, uX9_connect_9o, uX9_connect_10, uX9_connect_10o, uX9_connect_10f, uX9_connect_11, uX9_connect_11a, uX9_connect_14, uX9_connect_14o, uX9_connect_14f, uX9_connect_15, uX9_connect_18, uX9_connect_21, uX9_connect_21o, uX9_connect_21f, uX9_connect_22, uX9_connect_25, uX9_connect_26, uX9_connect_29, uX9_connect_32, uX9_connect_32o, uX9_connect_32f, uX9_connect_33, uX9_connect_36, uX9_connect_37, uX9_connect_40, uX9_connect_43, uX9_connect_44, uX9_connect_45, uX9_connect_45o, uX9_connect_45f, uX9_connect_46, uX9_connect_49, uX9_connect_50, uX9_connect_51, uX9_connect_54, uX9_connect_55, pq_C_sI, pq_C_sJ, pq_C_sR, pq_C_sA, pq_L_sI, pq_L_sJ, pq_L_sR, pq_L_sA, pq_I_sI, pq_I_sJ, pq_I_sR, pq_I_sA, pq_J_sI, pq_J_sJ, pq_J_sR, pq_J_sA, pq_R_sI, pq_R_sJ, pq_R_sR, pq_R_sA, pq_N_sI, pq_N_sJ, pq_N_sR, pq_N_sA, pq_S_sI, pq_S_sJ, pq_S_sR, pq_S_sA, pz_rf_s, pz_cut_i, pz_cut_r, pz_cut_n, pz_cut_f, pz_cut_u, pz_cut_o, true_and, and_true, true_or, or_true, Option.toList_some, Option.toList_none, List.cons_append, List.nil_append, Nat.add_left_cancel_iff, Nat.left_eq_add, Nat.add_eq_left, Nat.reduceEqDiff, if_true, if_false, ite_true, ite_false, false_and, and_false, false_or, or_false, reduceIte, reduceCtorEq, and_self, z_4, z_5, z_7, z_8, z_10, z_16, z_20, z_64, not_false_eq_true, s0, s6, n1, lk, k1, r3, hj, not_true_eq_false, c_canJoin R x5, c_canJoin R y5, qx, qy, show ¬ (1 : Int32) = 0 by decide]
                exact K h HC_refl R
            · rw [if_neg qx] at K
              simp only [enX9_connect, uX9_connect_0, uX9_connect_0o, uX9_connect_0f, uX9_connect_1, uX9_connect_4, uX9_connect_5, uX9_connect_6, uX9_connect_9, uX9_connect_9o, uX9_connect_10, uX9_connect_10o, uX9_connect_10f, uX9_connect_11, uX9_connect_11a, uX9_connect_14, uX9_connect_14o, uX9_connect_14f, uX9_connect_15, uX9_connect_18, uX9_connect_21, uX9_connect_21o, uX9_connect_21f, uX9_connect_22, uX9_connect_25, uX9_connect_26, uX9_connect_29, uX9_connect_32, uX9_connect_32o, uX9_connect_32f, uX9_connect_33, uX9_connect_36, uX9_connect_37, uX9_connect_40, uX9_connect_43, uX9_connect_44, uX9_connect_45, uX9_connect_45o, uX9_connect_45f, uX9_connect_46, uX9_connect_49, uX9_connect_50, uX9_connect_51, uX9_connect_54, uX9_connect_55, pq_C_sI, pq_C_sJ, pq_C_sR, pq_C_sA, pq_L_sI, pq_L_sJ, pq_L_sR, pq_L_sA, pq_I_sI, pq_I_sJ, pq_I_sR, pq_I_sA, pq_J_sI, pq_J_sJ, pq_J_sR, pq_J_sA, pq_R_sI, pq_R_sJ, pq_R_sR, pq_R_sA, pq_N_sI, pq_N_sJ, pq_N_sR, pq_N_sA, pq_S_sI, pq_S_sJ, pq_S_sR, pq_S_sA, pz_rf_s, pz_cut_i, pz_cut_r, pz_cut_n, pz_cut_f, pz_cut_u, pz_cut_o, true_and, and_true, true_or, or_true, Option.toList_some, Option.toList_none, List.cons_append, List.nil_append, Nat.add_left_cancel_iff, Nat.left_eq_add, Nat.add_eq_left, Nat.reduceEqDiff, if_true, if_false, ite_true, ite_false, false_and, and_false, false_or, or_false, reduceIte, reduceCtorEq, and_self, z_4, z_5, z_7, z_8, z_10, z_16, z_20, z_64, not_false_eq_true, s0, s6, n1, lk, k1, r3, hj, not_true_eq_false, c_canJoin R x5, qx]
              exact K h HC_refl R
          · simp only [enX9_connect, uX9_connect_0, uX9_connect_0o, uX9_connect_0f, uX9_connect_1, uX9_connect_4, uX9_connect_5, uX9_connect_6, uX9_connect_9, uX9_connect_9o, uX9_connect_10, uX9_connect_10o, uX9_connect_10f, uX9_connect_11, uX9_connect_11a, uX9_connect_14, uX9_connect_14o, uX9_connect_14f, uX9_connect_15, uX9_connect_18, uX9_connect_21, uX9_connect_21o, uX9_connect_21f, uX9_connect_22, uX9_connect_25, uX9_connect_26, uX9_connect_29, uX9_connect_32, uX9_connect_32o, uX9_connect_32f, uX9_connect_33, uX9_connect_36, uX9_connect_37, uX9_connect_40, uX9_connect_43, uX9_connect_44, uX9_connect_45, uX9_connect_45o, uX9_connect_45f, uX9_connect_46, uX9_connect_49, uX9_connect_50, uX9_connect_51, uX9_connect_54, uX9_connect_55, pq_C_sI, pq_C_sJ, pq_C_sR, pq_C_sA, pq_L_sI, pq_L_sJ, pq_L_sR, pq_L_sA, pq_I_sI, pq_I_sJ, pq_I_sR, pq_I_sA, pq_J_sI, pq_J_sJ, pq_J_sR, pq_J_sA, pq_R_sI, pq_R_sJ, pq_R_sR, pq_R_sA, pq_N_sI, pq_N_sJ, pq_N_sR, pq_N_sA, pq_S_sI, pq_S_sJ, pq_S_sR, pq_S_sA, pz_rf_s, pz_cut_i, pz_cut_r, pz_cut_n, pz_cut_f, pz_cut_u, pz_cut_o, true_and, and_true, true_or, or_true, Option.toList_some, Option.toList_none, List.cons_append, List.nil_append, Nat.add_left_cancel_iff, Nat.left_eq_add, Nat.add_eq_left, Nat.reduceEqDiff, if_true, if_false, ite_true, ite_false, false_and, and_false, false_or, or_false, reduceIte, reduceCtorEq, and_self, z_4, z_5, z_7, z_8, z_10, z_16, z_20, z_64, not_false_eq_true, s0, s6, n1, lk, k1, r3, hj]
            have e : conA A (nI x) (nI y) = (0, A) := by
              unfold conA exB
              rw [ea, eb]
              dsimp only
              by_cases qx : x = 4 ∨ sB A 18 x ≠ 0
              · rw [if_pos qx]
                by_cases qy : y = 4 ∨ sB A 18 y ≠ 0
                · rw [if_pos qy]
                  exact if_pos (Or.inr hj)
                · rw [if_neg qy]
              · rw [if_neg qx]
            have K2 := K h HC_refl
            rw [e] at K2
            exact K2 R
end
