/-! ===== the class: say, hear, meddle, close ===== -/
section
variable {d : Nat} {h h' : PzH} {Q : Option Value → PzH → Prop} {A A' : St} {l c p : Nat}
/-- a wire changes -/
theorem RC_W {a b : Nat} {m : List Int8} (R : RC h A) (ha : a < 5) (hb : b < 5) (hab : a ≠ b) (f : HF [lkA (5 * a + b) + 1, lkA (5 * a + b) + 2] h h') (W : ROW h' (lkA (5 * a + b) + 1) (lkA (5 * a + b) + 2) 4000 m) : RC h' (stW A (5 * b + a) m) := by
  have f' : HF (lkC (5 * a + b)) h h' := HF_up f (fun x hx => by
    rw [lkC_m]
    have : x = lkA (5 * a + b) + 1 ∨ x = lkA (5 * a + b) + 2 := by simpa using hx
    omega)
  refine RC_lk R ha hb hab f' ?_ (fun _ => rfl) rfl rfl rfl (fun _ _ => rfl) (fun _ _ _ _ => rfl) (fun _ _ _ _ => rfl) (fun _ _ => rfl) (fun j hj => upf_n hj)
  obtain ⟨q0, q1, q3, q4, q5, q6, q7, q8, q9, q10, q12, q11, q13, qw⟩ := R.2.2.2.2.1 a b ha hb hab
  have f8 := f.2.2.2.2.2.2.2.1
  have f9 := f.2.2.2.2.2.2.2.2
  unfold LR
  rw [f8 (lkA (5 * a + b)) (by simp), f9 (lkA (5 * a + b)) (by simp), f8 (lkA (5 * a + b) + 3) (by simp)]
  refine ⟨q0, q1, q3, q4, q5, q6, q7, q8, q9, q10, q12, q11, q13, ?_⟩
  show ROW h' _ _ 4000 (upf (sW A) (5 * b + a) _ (5 * b + a))
  rw [upf_s]
  exact W
theorem HC_W {a b : Nat} (ha : a < 5) (hb : b < 5) (hab : a ≠ b) (f : HF [lkA (5 * a + b) + 1, lkA (5 * a + b) + 2] h h') : HC h h' := HC_HF f (fun x hx => by
  have lin := lkA_in (k := 5 * a + b) (by omega) (by omega)
  simp at hx
  omega)
/-- two that are joined, and what the class finds there -/
theorem aj_cases (I : LI A l c p) {a b : Int32} : (∃ x y, x < 5 ∧ y < 5 ∧ x ≠ y ∧ a = nI x ∧ b = nI y ∧ lkO a b = some (lkA (5 * x + y)) ∧ ((sB A 23 (5 * x + y) = 0 ∧ ajB (sB A) a b = none) ∨ (sB A 23 (5 * x + y) ≠ 0 ∧ ajB (sB A) a b = some (x, y)))) ∨ (lkO a b = none ∧ ajB (sB A) a b = none) := by
  unfold lkO ajB
  cases ea : vI a 5 with
  | none => exact Or.inr ⟨rfl, rfl⟩
  | some x =>
    cases eb : vI b 5 with
    | none => exact Or.inr ⟨rfl, rfl⟩
    | some y =>
      obtain ⟨x5, rfl⟩ := vI_some (by decide) ea
      obtain ⟨y5, rfl⟩ := vI_some (by decide) eb
      dsimp only
      by_cases e : x = y
      · subst e
        have z : sB A 23 (5 * x + x) = 0 := Classical.byContradiction (fun z => ((I.1 x x x5 x5).1 z).1 rfl)
        exact Or.inr ⟨if_pos rfl, if_pos z⟩
      · refine Or.inl ⟨x, y, x5, y5, e, rfl, rfl, if_neg e, ?_⟩
        by_cases z : sB A 23 (5 * x + y) = 0
        · exact Or.inl ⟨z, if_pos z⟩
        · exact Or.inr ⟨z, if_neg z⟩
theorem c_say (R : RC h A) (I : LI A l c p) {a : Int32} (K : ∀ h', HC h h' → RC h' (sayA A a).2 → Q (some (.int (sayA A a).1)) h') : pz_M (d + 3) mX9_say [.ref 0, .int a] h Q := by
  obtain ⟨s0, s1, s2, s3, s4, s5, s6, s7⟩ := DS_of R
  have n1 := R.1.2.2.2.2.2.1.1
  have T := R.2.2.1.1
  have T1 := T.1
  have t8 := T.2.2.2.2.2.2.2.1
  have lk : ∀ {Q : Option Value → PzH → Prop}, pz_M (d + 2) mX5_linkOf [.ref 23, .int a, .int 4] h Q ↔ Q (some (pz_rf (lkO a 4))) h := fun {Q} => c_linkOf R.1
  unfold sayA at K
  rcases aj_cases (A := A) I (a := a) (b := 4) with ⟨x, y, x5, y5, hxy, rfl, ey, el, hz⟩ | ⟨el, ej⟩
  · have y4 : y = 4 := ((nI_eq (a := 4) (b := y) (by decide) (by omega)).mp (show nI 4 = nI y from ey)).symm
    subst y4
    rw [el] at lk
    obtain ⟨⟨k1, k2, k3, k4, k5⟩, L⟩ := LN_of R x5 y5 hxy
    have r3 := L.2.2.1
    have W : ROW h (lkA (5 * x + 4) + 1) (lkA (5 * x + 4) + 2) 4000 (sW A (20 + x)) := L.2.2.2.2.2.2.2.2.2.2.2.2.2
    have W1 := W.1
    have w8 := W.2.2.2.2.2.2.2.1
    have lin := lkA_in (k := 5 * x + 4) (by omega) (by omega)
    rcases hz with ⟨z, ej⟩ | ⟨z, ej⟩
    · rw [ej] at K
      dsimp only at K
      simp only [enX9_say, uX9_say_0, uX9_say_0o, uX9_say_0f, uX9_say_1, uX9_say_4, uX9_say_5, uX9_say_6, uX9_say_9, uX9_say_9o, uX9_say_10, uX9_say_10o, uX9_say_10f, uX9_say_11, uX9_say_11a, uX9_say_14, uX9_say_14o, uX9_say_14f, uX9_say_15, uX9_say_18, uX9_say_21, uX9_say_21o, uX9_say_21f, uX9_say_22, uX9_say_25, uX9_say_25o, uX9_say_25f, uX9_say_26, uX9_say_29, uX9_say_32, uX9_say_35, uX9_say_38, uX9_say_39, uX9_say_42, uX9_say_43, uX9_say_44, uX9_say_45, uX9_say_48, uX9_say_48o, uX9_say_48f, uX9_say_49, uX9_say_52, uX9_say_52o, uX9_say_52f, uX9_say_53, uX9_say_56, uX9_say_57, uX9_say_57o, uX9_say_57f, uX9_say_58, uX9_say_61, uX9_say_64, uX9_say_67, uX9_say_67o, uX9_say_67f, uX9_say_68, uX9_say_71, uX9_say_72, uX9_say_75, uX9_say_76, uX9_say_79, uX9_say_79o, uX9_say_79f, uX9_say_80, uX9_say_83, uX9_say_86, uX9_say_89, uX9_say_90, pq_C_sI, pq_C_sJ, pq_C_sR, pq_C_sA, pq_L_sI, pq_L_sJ, pq_L_sR, pq_L_sA, pq_I_sI, pq_I_sJ, pq_I_sR, pq_I_sA, pq_J_sI, pq_J_sJ, pq_J_sR, pq_J_sA, pq_R_sI, pq_R_sJ, pq_R_sR, pq_R_sA, pq_N_sI, pq_N_sJ, pq_N_sR, pq_N_sA, pq_S_sI, pq_S_sJ, pq_S_sR, pq_S_sA, pz_rf_s, pz_cut_i, pz_cut_r, pz_cut_n, pz_cut_f, pz_cut_u, pz_cut_o, true_and, and_true, true_or, or_true, Option.toList_some, Option.toList_none, List.cons_append, List.nil_append, Nat.add_left_cancel_iff, Nat.left_eq_add, Nat.add_eq_left, Nat.reduceEqDiff, if_true, if_false, ite_true, ite_false, false_and, and_false, false_or, or_false, reduceIte, reduceCtorEq, and_self, z_4, z_5, z_7, z_8, z_10, z_16, z_20, z_64, not_false_eq_true, s0, s1, s6, n1, lk, k1, r3, z, T1]
      refine c_cut0 T (fun h1 F1 X1 => ?_)
      simp only [enX9_say, uX9_say_0, uX9_say_0o, uX9_say_0f, uX9_say_1, uX9_say_4, uX9_say_5, uX9_say_6, uX9_say_9, uX9_say_9o, uX9_say_10, uX9_say_10o, uX9_say_10f, uX9_say_11, uX9_say_11a, uX9_say_14, uX9_say_14o, uX9_say_14f, uX9_say_15, uX9_say_18, uX9_say_21, uX9_say_21o, uX9_say_21f, uX9_say_22, uX9_say_25, uX9_say_25o, uX9_say_25f, uX9_say_26, uX9_say_29, uX9_say_32, uX9_say_35, uX9_say_38, uX9_say_39, uX9_say_42, uX9_say_43, uX9_say_44, uX9_say_45, uX9_say_48, uX9_say_48o, uX9_say_48f, uX9_say_49, uX9_say_52, uX9_say_52o, uX9_say_52f, uX9_say_53, uX9_say_56, uX9_say_57, uX9_say_57o, uX9_say_57f, uX9_say_58, uX9_say_61, uX9_say_64, uX9_say_67, uX9_say_67o, uX9_say_67f, uX9_say_68, uX9_say_71, uX9_say_72, uX9_say_75, uX9_say_76, uX9_say_79, uX9_say_79o, uX9_say_79f, uX9_say_80, uX9_say_83, uX9_say_86, uX9_say_89, uX9_say_90, pq_C_sI, pq_C_sJ, pq_C_sR, pq_C_sA, pq_L_sI, pq_L_sJ, pq_L_sR, pq_L_sA, pq_I_sI, pq_I_sJ, pq_I_sR, pq_I_sA, pq_J_sI, pq_J_sJ, pq_J_sR, pq_J_sA, pq_R_sI, pq_R_sJ, pq_R_sR, pq_R_sA, pq_N_sI, pq_N_sJ, pq_N_sR, pq_N_sA, pq_S_sI, pq_S_sJ, pq_S_sR, pq_S_sA, pz_rf_s, pz_cut_i, pz_cut_r, pz_cut_n, pz_cut_f, pz_cut_u, pz_cut_o, true_and, and_true, true_or, or_true, Option.toList_some, Option.toList_none, List.cons_append, List.nil_append, Nat.add_left_cancel_iff, Nat.left_eq_add, Nat.add_eq_left, Nat.reduceEqDiff, if_true, if_false, ite_true, ite_false, false_and, and_false, false_or, or_false, reduceIte, reduceCtorEq, and_self, z_4, z_5, z_7, z_8, z_10, z_16, z_20, z_64, not_false_eq_true]
      exact K h1 (HC_12 F1) (RC_V0 R F1 X1)
    · rw [ej] at K
      dsimp only at K
      simp only [enX9_say, uX9_say_0, uX9_say_0o, uX9_say_0f, uX9_say_1, uX9_say_4, uX9_say_5, uX9_say_6, uX9_say_9, uX9_say_9o, uX9_say_10, uX9_say_10o, uX9_say_10f, uX9_say_11, uX9_say_11a, uX9_say_14, uX9_say_14o, uX9_say_14f, uX9_say_15, uX9_say_18, uX9_say_21, uX9_say_21o, uX9_say_21f, uX9_say_22, uX9_say_25, uX9_say_25o, uX9_say_25f, uX9_say_26, uX9_say_29, uX9_say_32, uX9_say_35, uX9_say_38, uX9_say_39, uX9_say_42, uX9_say_43, uX9_say_44, uX9_say_45, uX9_say_48, uX9_say_48o, uX9_say_48f, uX9_say_49, uX9_say_52, uX9_say_52o, uX9_say_52f, uX9_say_53, uX9_say_56, uX9_say_57, uX9_say_57o, uX9_say_57f, uX9_say_58, uX9_say_61, uX9_say_64, uX9_say_67, uX9_say_67o, uX9_say_67f, uX9_say_68, uX9_say_71, uX9_say_72, uX9_say_75, uX9_say_76, uX9_say_79, uX9_say_79o, uX9_say_79f, uX9_say_80, uX9_say_83, uX9_say_86, uX9_say_89, uX9_say_90, pq_C_sI, pq_C_sJ, pq_C_sR, pq_C_sA, pq_L_sI, pq_L_sJ, pq_L_sR, pq_L_sA, pq_I_sI, pq_I_sJ, pq_I_sR, pq_I_sA, pq_J_sI, pq_J_sJ, pq_J_sR, pq_J_sA, pq_R_sI, pq_R_sJ, pq_R_sR, pq_R_sA, pq_N_sI, pq_N_sJ, pq_N_sR, pq_N_sA, pq_S_sI, pq_S_sJ, pq_S_sR, pq_S_sA, pz_rf_s, pz_cut_i, pz_cut_r, pz_cut_n, pz_cut_f, pz_cut_u, pz_cut_o, true_and, and_true, true_or, or_true, Option.toList_some, Option.toList_none, List.cons_append, List.nil_append, Nat.add_left_cancel_iff, Nat.left_eq_add, Nat.add_eq_left, Nat.reduceEqDiff, if_true, if_false, ite_true, ite_false, false_and, and_false, false_or, or_false, reduceIte, reduceCtorEq, and_self, z_4, z_5, z_7, z_8, z_10, z_16, z_20, z_64, not_false_eq_true, s0, s1, s6, n1, lk, k1, k2, r3, z, T1, W1, c_size T, c_fits W]
      rw [if_neg (nI_pos (by omega))]
      by_cases q : (sW A (20 + x)).length + (sV A 0).length ≤ 4000
      · rw [if_pos q] at K
        rw [if_neg (show ¬ nI (4000 - (sW A (20 + x)).length) < nI (sV A 0).length from nI_nlt (by omega) (by omega)), if_neg (show ¬ (1 : Int32) = 0 by decide), if_neg (show ¬ (1 : Int32) = 0 by decide)]
        refine (show _ from c_addPart (b := 0) (n := (sV A 0).length) W T ⟨by omega, by omega⟩ (by omega) q (fun h1 F1 X1 => ?_) : pz_M (d + 2) mX6_addPart [.ref (lkA (5 * x + 4) + 1), .ref 1, .int 0, .int (nI (sV A 0).length)] h _)
        rw [ofF_take (Nat.le_refl _), List.take_length] at X1
        have R1 := RC_W R x5 y5 hxy F1 X1
        have H1 := HC_W x5 y5 hxy F1
        obtain ⟨t0, t1, t2, t3, t4, t5, t6, t7⟩ := DS_of R1
        have T' := R1.2.2.1.1
        have Y1 := T'.1
        simp only [enX9_say, uX9_say_0, uX9_say_0o, uX9_say_0f, uX9_say_1, uX9_say_4, uX9_say_5, uX9_say_6, uX9_say_9, uX9_say_9o, uX9_say_10, uX9_say_10o, uX9_say_10f, uX9_say_11, uX9_say_11a, uX9_say_14, uX9_say_14o, uX9_say_14f, uX9_say_15, uX9_say_18, uX9_say_21, uX9_say_21o, uX9_say_21f, uX9_say_22, uX9_say_25, uX9_say_25o, uX9_say_25f, uX9_say_26, uX9_say_29, uX9_say_32, uX9_say_35, uX9_say_38, uX9_say_39, uX9_say_42, uX9_say_43, uX9_say_44, uX9_say_45, uX9_say_48, uX9_say_48o, uX9_say_48f, uX9_say_49, uX9_say_52, uX9_say_52o, uX9_say_52f, uX9_say_53, uX9_say_56, uX9_say_57, uX9_say_57o, uX9_say_57f, uX9_say_58, uX9_say_61, uX9_say_64, uX9_say_67, uX9_say_67o, uX9_say_67f, uX9_say_68, uX9_say_71, uX9_say_72, uX9_say_75, uX9_say_76, uX9_say_79, uX9_say_79o, uX9_say_79f, uX9_say_80, uX9_say_83, uX9_say_86, uX9_say_89, uX9_say_90, pq_C_sI, pq_C_sJ, pq_C_sR, pq_C_sA, pq_L_sI, pq_L_sJ, pq_L_sR, pq_L_sA, pq_I_sI, pq_I_sJ, pq_I_sR, pq_I_sA, pq_J_sI, pq_J_sJ, pq_J_sR, pq_J_sA, pq_R_sI, pq_R_sJ, pq_R_sR, pq_R_sA, pq_N_sI, pq_N_sJ, pq_N_sR, pq_N_sA, pq_S_sI, pq_S_sJ, pq_S_sR, pq_S_sA, pz_rf_s, pz_cut_i, pz_cut_r, pz_cut_n, pz_cut_f, pz_cut_u, pz_cut_o, true_and, and_true, true_or, or_true, Option.toList_some, Option.toList_none, List.cons_append, List.nil_append, Nat.add_left_cancel_iff, Nat.left_eq_add, Nat.add_eq_left, Nat.reduceEqDiff, if_true, if_false, ite_true, ite_false, false_and, and_false, false_or, or_false, reduceIte, reduceCtorEq, and_self, z_4, z_5, z_7, z_8, z_10, z_16, z_20, z_64, not_false_eq_true, t0, t1, Y1]
        refine c_cut0 T' (fun h2 F2 X2 => ?_)
        have R2 := RC_V0 R1 F2 X2
        obtain ⟨⟨g1, g2, _⟩, L2⟩ := LN_of R2 x5 y5 hxy
        have W2 := L2.2.2.2.2.2.2.2.2.2.2.2.2.2
        have Y2 := W2.1
        simp only [enX9_say, uX9_say_0, uX9_say_0o, uX9_say_0f, uX9_say_1, uX9_say_4, uX9_say_5, uX9_say_6, uX9_say_9, uX9_say_9o, uX9_say_10, uX9_say_10o, uX9_say_10f, uX9_say_11, uX9_say_11a, uX9_say_14, uX9_say_14o, uX9_say_14f, uX9_say_15, uX9_say_18, uX9_say_21, uX9_say_21o, uX9_say_21f, uX9_say_22, uX9_say_25, uX9_say_25o, uX9_say_25f, uX9_say_26, uX9_say_29, uX9_say_32, uX9_say_35, uX9_say_38, uX9_say_39, uX9_say_42, uX9_say_43, uX9_say_44, uX9_say_45, uX9_say_48, uX9_say_48o, uX9_say_48f, uX9_say_49, uX9_say_52, uX9_say_52o, uX9_say_52f, uX9_say_53, uX9_say_56, uX9_say_57, uX9_say_57o, uX9_say_57f, uX9_say_58, uX9_say_61, uX9_say_64, uX9_say_67, uX9_say_67o, uX9_say_67f, uX9_say_68, uX9_say_71, uX9_say_72, uX9_say_75, uX9_say_76, uX9_say_79, uX9_say_79o, uX9_say_79f, uX9_say_80, uX9_say_83, uX9_say_86, uX9_say_89, uX9_say_90, pq_C_sI, pq_C_sJ, pq_C_sR, pq_C_sA, pq_L_sI, pq_L_sJ, pq_L_sR, pq_L_sA, pq_I_sI, pq_I_sJ, pq_I_sR, pq_I_sA, pq_J_sI, pq_J_sJ, pq_J_sR, pq_J_sA, pq_R_sI, pq_R_sJ, pq_R_sR, pq_R_sA, pq_N_sI, pq_N_sJ, pq_N_sR, pq_N_sA, pq_S_sI, pq_S_sJ, pq_S_sR, pq_S_sA, pz_rf_s, pz_cut_i, pz_cut_r, pz_cut_n, pz_cut_f, pz_cut_u, pz_cut_o, true_and, and_true, true_or, or_true, Option.toList_some, Option.toList_none, List.cons_append, List.nil_append, Nat.add_left_cancel_iff, Nat.left_eq_add, Nat.add_eq_left, Nat.reduceEqDiff, if_true, if_false, ite_true, ite_false, false_and, and_false, false_or, or_false, reduceIte, reduceCtorEq, and_self, z_4, z_5, z_7, z_8, z_10, z_16, z_20, z_64, not_false_eq_true, g1, g2, Y2, c_size W2, show ¬ (1 : Int32) = 0 by decide]
        have e1 : sW (stV (stW A (5 * 4 + x) (sW A (20 + x) ++ sV A 0)) 0 []) (5 * 4 + x) = sW A (20 + x) ++ sV A 0 := upf_s
        rw [e1, List.length_append]
        exact K h2 (HC_trans H1 (HC_12 F2)) R2
      · rw [if_neg q] at K
        rw [if_pos (show nI (4000 - (sW A (20 + x)).length) < nI (sV A 0).length from nI_lt (by omega) (by omega))]
        simp only [if_true]
        refine c_cut0 T (fun h1 F1 X1 => ?_)
        simp only [enX9_say, uX9_say_0, uX9_say_0o, uX9_say_0f, uX9_say_1, uX9_say_4, uX9_say_5, uX9_say_6, uX9_say_9, uX9_say_9o, uX9_say_10, uX9_say_10o, uX9_say_10f, uX9_say_11, uX9_say_11a, uX9_say_14, uX9_say_14o, uX9_say_14f, uX9_say_15, uX9_say_18, uX9_say_21, uX9_say_21o, uX9_say_21f, uX9_say_22, uX9_say_25, uX9_say_25o, uX9_say_25f, uX9_say_26, uX9_say_29, uX9_say_32, uX9_say_35, uX9_say_38, uX9_say_39, uX9_say_42, uX9_say_43, uX9_say_44, uX9_say_45, uX9_say_48, uX9_say_48o, uX9_say_48f, uX9_say_49, uX9_say_52, uX9_say_52o, uX9_say_52f, uX9_say_53, uX9_say_56, uX9_say_57, uX9_say_57o, uX9_say_57f, uX9_say_58, uX9_say_61, uX9_say_64, uX9_say_67, uX9_say_67o, uX9_say_67f, uX9_say_68, uX9_say_71, uX9_say_72, uX9_say_75, uX9_say_76, uX9_say_79, uX9_say_79o, uX9_say_79f, uX9_say_80, uX9_say_83, uX9_say_86, uX9_say_89, uX9_say_90, pq_C_sI, pq_C_sJ, pq_C_sR, pq_C_sA, pq_L_sI, pq_L_sJ, pq_L_sR, pq_L_sA, pq_I_sI, pq_I_sJ, pq_I_sR, pq_I_sA, pq_J_sI, pq_J_sJ, pq_J_sR, pq_J_sA, pq_R_sI, pq_R_sJ, pq_R_sR, pq_R_sA, pq_N_sI, pq_N_sJ, pq_N_sR, pq_N_sA, pq_S_sI, pq_S_sJ, pq_S_sR, pq_S_sA, pz_rf_s, pz_cut_i, pz_cut_r, pz_cut_n, pz_cut_f, pz_cut_u, pz_cut_o, true_and, and_true, true_or, or_true, Option.toList_some, Option.toList_none, List.cons_append, List.nil_append, Nat.add_left_cancel_iff, Nat.left_eq_add, Nat.add_eq_left, Nat.reduceEqDiff, if_true, if_false, ite_true, ite_false, false_and, and_false, false_or, or_false, reduceIte, reduceCtorEq, and_self, z_4, z_5, z_7, z_8, z_10, z_16, z_20, z_64, not_false_eq_true]
        exact K h1 (HC_12 F1) (RC_V0 R F1 X1)
  · rw [el] at lk
    rw [ej] at K
    dsimp only at K
    simp only [enX9_say, uX9_say_0, uX9_say_0o, uX9_say_0f, uX9_say_1, uX9_say_4, uX9_say_5, uX9_say_6, uX9_say_9, uX9_say_9o, uX9_say_10, uX9_say_10o, uX9_say_10f, uX9_say_11, uX9_say_11a, uX9_say_14, uX9_say_14o, uX9_say_14f, uX9_say_15, uX9_say_18, uX9_say_21, uX9_say_21o, uX9_say_21f, uX9_say_22, uX9_say_25, uX9_say_25o, uX9_say_25f, uX9_say_26, uX9_say_29, uX9_say_32, uX9_say_35, uX9_say_38, uX9_say_39, uX9_say_42, uX9_say_43, uX9_say_44, uX9_say_45, uX9_say_48, uX9_say_48o, uX9_say_48f, uX9_say_49, uX9_say_52, uX9_say_52o, uX9_say_52f, uX9_say_53, uX9_say_56, uX9_say_57, uX9_say_57o, uX9_say_57f, uX9_say_58, uX9_say_61, uX9_say_64, uX9_say_67, uX9_say_67o, uX9_say_67f, uX9_say_68, uX9_say_71, uX9_say_72, uX9_say_75, uX9_say_76, uX9_say_79, uX9_say_79o, uX9_say_79f, uX9_say_80, uX9_say_83, uX9_say_86, uX9_say_89, uX9_say_90, pq_C_sI, pq_C_sJ, pq_C_sR, pq_C_sA, pq_L_sI, pq_L_sJ, pq_L_sR, pq_L_sA, pq_I_sI, pq_I_sJ, pq_I_sR, pq_I_sA, pq_J_sI, pq_J_sJ, pq_J_sR, pq_J_sA, pq_R_sI, pq_R_sJ, pq_R_sR, pq_R_sA, pq_N_sI, pq_N_sJ, pq_N_sR, pq_N_sA, pq_S_sI, pq_S_sJ, pq_S_sR, pq_S_sA, pz_rf_s, pz_cut_i, pz_cut_r, pz_cut_n, pz_cut_f, pz_cut_u, pz_cut_o, true_and, and_true, true_or, or_true, Option.toList_some, Option.toList_none, List.cons_append, List.nil_append, Nat.add_left_cancel_iff, Nat.left_eq_add, Nat.add_eq_left, Nat.reduceEqDiff, if_true, if_false, ite_true, ite_false, false_and, and_false, false_or, or_false, reduceIte, reduceCtorEq, and_self, z_4, z_5, z_7, z_8, z_10, z_16, z_20, z_64, not_false_eq_true, s0, s1, s6, n1, lk, T1, pz_cut_o]
    refine c_cut0 T (fun h1 F1 X1 => ?_)
    simp only [enX9_say, uX9_say_0, uX9_say_0o, uX9_say_0f, uX9_say_1, uX9_say_4, uX9_say_5, uX9_say_6, uX9_say_9, uX9_say_9o, uX9_say_10, uX9_say_10o, uX9_say_10f, uX9_say_11, uX9_say_11a, uX9_say_14, uX9_say_14o, uX9_say_14f, uX9_say_15, uX9_say_18, uX9_say_21, uX9_say_21o, uX9_say_21f, uX9_say_22, uX9_say_25, uX9_say_25o, uX9_say_25f, uX9_say_26, uX9_say_29, uX9_say_32, uX9_say_35, uX9_say_38, uX9_say_39, uX9_say_42, uX9_say_43, uX9_say_44, uX9_say_45, uX9_say_48, uX9_say_48o, uX9_say_48f, uX9_say_49, uX9_say_52, uX9_say_52o, uX9_say_52f, uX9_say_53, uX9_say_56, uX9_say_57, uX9_say_57o, uX9_say_57f, uX9_say_58, uX9_say_61, uX9_say_64, uX9_say_67, uX9_say_67o, uX9_say_67f, uX9_say_68, uX9_say_71, uX9_say_72, uX9_say_75, uX9_say_76, uX9_say_79, uX9_say_79o, uX9_say_79f, uX9_say_80, uX9_say_83, uX9_say_86, uX9_say_89, uX9_say_90, pq_C_sI, pq_C_sJ, pq_C_sR, pq_C_sA, pq_L_sI, pq_L_sJ, pq_L_sR, pq_L_sA, pq_I_sI, pq_I_sJ, pq_I_sR, pq_I_sA, pq_J_sI, pq_J_sJ, pq_J_sR, pq_J_sA, pq_R_sI, pq_R_sJ, pq_R_sR, pq_R_sA, pq_N_sI, pq_N_sJ, pq_N_sR, pq_N_sA, pq_S_sI, pq_S_sJ, pq_S_sR, pq_S_sA, pz_rf_s, pz_cut_i, pz_cut_r, pz_cut_n, pz_cut_f, pz_cut_u, pz_cut_o, true_and, and_true, true_or, or_true, Option.toList_some, Option.toList_none, List.cons_append, List.nil_append, Nat.add_left_cancel_iff, Nat.left_eq_add, Nat.add_eq_left, Nat.reduceEqDiff, if_true, if_false, ite_true, ite_false, false_and, and_false, false_or, or_false, reduceIte, reduceCtorEq, and_self, z_4, z_5, z_7, z_8, z_10, z_16, z_20, z_64, not_false_eq_true]
    exact K h1 (HC_12 F1) (RC_V0 R F1 X1)
theorem c_hear (R : RC h A) (I : LI A l c p) {a : Int32} (K : ∀ h', HC h h' → RC h' (hearA A a).2 → Q (some (.int (hearA A a).1)) h') : pz_M (d + 3) mX9_hear [.ref 0, .int a] h Q := by
  obtain ⟨s0, s1, s2, s3, s4, s5, s6, s7⟩ := DS_of R
  have n1 := R.1.2.2.2.2.2.1.1
  have V := R.2.2.1.2.1
  have V1 := V.1
  have lk : ∀ {Q : Option Value → PzH → Prop}, pz_M (d + 2) mX5_linkOf [.ref 23, .int 4, .int a] h Q ↔ Q (some (pz_rf (lkO 4 a))) h := fun {Q} => c_linkOf R.1
  unfold hearA at K
  rcases aj_cases (A := A) I (a := a) (b := 4) with ⟨x, y, x5, y5, hxy, rfl, ey, el, hz⟩ | ⟨el, ej⟩
  · have y4 : y = 4 := ((nI_eq (a := 4) (b := y) (by decide) (by omega)).mp (show nI 4 = nI y from ey)).symm
    subst y4
    have el' : lkO 4 (nI x) = some (lkA (5 * 4 + x)) := lkO_of y5 x5 hxy.symm
    rw [el'] at lk
    obtain ⟨⟨k1, k2, k3, k4, k5⟩, L⟩ := LN_of R y5 x5 hxy.symm
    have r3 := L.2.2.1
    have W : ROW h (lkA (5 * 4 + x) + 1) (lkA (5 * 4 + x) + 2) 4000 (sW A (5 * x + 4)) := L.2.2.2.2.2.2.2.2.2.2.2.2.2
    have W1 := W.1
    have w8 := W.2.2.2.2.2.2.2.1
    have lin := lkA_in (k := 5 * 4 + x) (by omega) (by omega)
    have sy : sB A 23 (5 * x + 4) = 0 ↔ sB A 23 (5 * 4 + x) = 0 := ⟨fun z => Classical.byContradiction (fun w => ((I.1 4 x y5 x5).1 w).2.2 z), fun z => Classical.byContradiction (fun w => ((I.1 x 4 x5 y5).1 w).2.2 z)⟩
    rcases hz with ⟨z, ej⟩ | ⟨z, ej⟩
    · rw [ej] at K
      dsimp only at K
      simp only [enX9_hear, uX9_hear_0, uX9_hear_0o, uX9_hear_0f, uX9_hear_1, uX9_hear_4, uX9_hear_5, uX9_hear_6, uX9_hear_9, uX9_hear_9o, uX9_hear_10, uX9_hear_10o, uX9_hear_10f, uX9_hear_11, uX9_hear_11a, uX9_hear_14, uX9_hear_14o, uX9_hear_14f, uX9_hear_15, uX9_hear_18, uX9_hear_21, uX9_hear_22, uX9_hear_23, uX9_hear_23o, uX9_hear_23f, uX9_hear_24, uX9_hear_27, uX9_hear_28, uX9_hear_31, uX9_hear_31o, uX9_hear_31f, uX9_hear_32, uX9_hear_35, uX9_hear_35o, uX9_hear_35f, uX9_hear_36, uX9_hear_39, uX9_hear_40, uX9_hear_40o, uX9_hear_40f, uX9_hear_41, uX9_hear_44, uX9_hear_47, uX9_hear_50, uX9_hear_50o, uX9_hear_50f, uX9_hear_51, uX9_hear_54, uX9_hear_55, uX9_hear_58, uX9_hear_58o, uX9_hear_58f, uX9_hear_59, uX9_hear_62, uX9_hear_65, pq_C_sI, pq_C_sJ, pq_C_sR, pq_C_sA, pq_L_sI, pq_L_sJ, pq_L_sR, pq_L_sA, pq_I_sI, pq_I_sJ, pq_I_sR, pq_I_sA, pq_J_sI, pq_J_sJ, pq_J_sR, pq_J_sA, pq_R_sI, pq_R_sJ, pq_R_sR, pq_R_sA, pq_N_sI, pq_N_sJ, pq_N_sR, pq_N_sA, pq_S_sI, pq_S_sJ, pq_S_sR, pq_S_sA, pz_rf_s, pz_cut_i, pz_cut_r, pz_cut_n, pz_cut_f, pz_cut_u, pz_cut_o, true_and, and_true, true_or, or_true, Option.toList_some, Option.toList_none, List.cons_append, List.nil_append, Nat.add_left_cancel_iff, Nat.left_eq_add, Nat.add_eq_left, Nat.reduceEqDiff, if_true, if_false, ite_true, ite_false, false_and, and_false, false_or, or_false, reduceIte, reduceCtorEq, and_self, z_4, z_5, z_7, z_8, z_10, z_16, z_20, z_64, not_false_eq_true, s0, s6, n1, lk, k1, r3, sy.mp z, not_true_eq_false]
      exact K h HC_refl R
    · rw [ej] at K
      dsimp only at K
      have z' : ¬ sB A 23 (5 * 4 + x) = 0 := fun w => z (sy.mpr w)
      simp only [enX9_hear, uX9_hear_0, uX9_hear_0o, uX9_hear_0f, uX9_hear_1, uX9_hear_4, uX9_hear_5, uX9_hear_6, uX9_hear_9, uX9_hear_9o, uX9_hear_10, uX9_hear_10o, uX9_hear_10f, uX9_hear_11, uX9_hear_11a, uX9_hear_14, uX9_hear_14o, uX9_hear_14f, uX9_hear_15, uX9_hear_18, uX9_hear_21, uX9_hear_22, uX9_hear_23, uX9_hear_23o, uX9_hear_23f, uX9_hear_24, uX9_hear_27, uX9_hear_28, uX9_hear_31, uX9_hear_31o, uX9_hear_31f, uX9_hear_32, uX9_hear_35, uX9_hear_35o, uX9_hear_35f, uX9_hear_36, uX9_hear_39, uX9_hear_40, uX9_hear_40o, uX9_hear_40f, uX9_hear_41, uX9_hear_44, uX9_hear_47, uX9_hear_50, uX9_hear_50o, uX9_hear_50f, uX9_hear_51, uX9_hear_54, uX9_hear_55, uX9_hear_58, uX9_hear_58o, uX9_hear_58f, uX9_hear_59, uX9_hear_62, uX9_hear_65, pq_C_sI, pq_C_sJ, pq_C_sR, pq_C_sA, pq_L_sI, pq_L_sJ, pq_L_sR, pq_L_sA, pq_I_sI, pq_I_sJ, pq_I_sR, pq_I_sA, pq_J_sI, pq_J_sJ, pq_J_sR, pq_J_sA, pq_R_sI, pq_R_sJ, pq_R_sR, pq_R_sA, pq_N_sI, pq_N_sJ, pq_N_sR, pq_N_sA, pq_S_sI, pq_S_sJ, pq_S_sR, pq_S_sA, pz_rf_s, pz_cut_i, pz_cut_r, pz_cut_n, pz_cut_f, pz_cut_u, pz_cut_o, true_and, and_true, true_or, or_true, Option.toList_some, Option.toList_none, List.cons_append, List.nil_append, Nat.add_left_cancel_iff, Nat.left_eq_add, Nat.add_eq_left, Nat.reduceEqDiff, if_true, if_false, ite_true, ite_false, false_and, and_false, false_or, or_false, reduceIte, reduceCtorEq, and_self, z_4, z_5, z_7, z_8, z_10, z_16, z_20, z_64, not_false_eq_true, s0, s2, s6, n1, lk, k1, r3, z', V1]
      refine c_cut0 V (fun h1 F1 X1 => ?_)
      have R1 := RC_V1 R F1 X1
      obtain ⟨t0, t1, t2, t3, t4, t5, t6, t7⟩ := DS_of R1
      obtain ⟨⟨g1, g2, _⟩, L1⟩ := LN_of R1 y5 x5 hxy.symm
      have Wa : ROW h1 (lkA (5 * 4 + x) + 1) (lkA (5 * 4 + x) + 2) 4000 (sW A (5 * x + 4)) := L1.2.2.2.2.2.2.2.2.2.2.2.2.2
      have Y1 := X1.1
      have Y2 := Wa.1
      simp only [enX9_hear, uX9_hear_0, uX9_hear_0o, uX9_hear_0f, uX9_hear_1, uX9_hear_4, uX9_hear_5, uX9_hear_6, uX9_hear_9, uX9_hear_9o, uX9_hear_10, uX9_hear_10o, uX9_hear_10f, uX9_hear_11, uX9_hear_11a, uX9_hear_14, uX9_hear_14o, uX9_hear_14f, uX9_hear_15, uX9_hear_18, uX9_hear_21, uX9_hear_22, uX9_hear_23, uX9_hear_23o, uX9_hear_23f, uX9_hear_24, uX9_hear_27, uX9_hear_28, uX9_hear_31, uX9_hear_31o, uX9_hear_31f, uX9_hear_32, uX9_hear_35, uX9_hear_35o, uX9_hear_35f, uX9_hear_36, uX9_hear_39, uX9_hear_40, uX9_hear_40o, uX9_hear_40f, uX9_hear_41, uX9_hear_44, uX9_hear_47, uX9_hear_50, uX9_hear_50o, uX9_hear_50f, uX9_hear_51, uX9_hear_54, uX9_hear_55, uX9_hear_58, uX9_hear_58o, uX9_hear_58f, uX9_hear_59, uX9_hear_62, uX9_hear_65, pq_C_sI, pq_C_sJ, pq_C_sR, pq_C_sA, pq_L_sI, pq_L_sJ, pq_L_sR, pq_L_sA, pq_I_sI, pq_I_sJ, pq_I_sR, pq_I_sA, pq_J_sI, pq_J_sJ, pq_J_sR, pq_J_sA, pq_R_sI, pq_R_sJ, pq_R_sR, pq_R_sA, pq_N_sI, pq_N_sJ, pq_N_sR, pq_N_sA, pq_S_sI, pq_S_sJ, pq_S_sR, pq_S_sA, pz_rf_s, pz_cut_i, pz_cut_r, pz_cut_n, pz_cut_f, pz_cut_u, pz_cut_o, true_and, and_true, true_or, or_true, Option.toList_some, Option.toList_none, List.cons_append, List.nil_append, Nat.add_left_cancel_iff, Nat.left_eq_add, Nat.add_eq_left, Nat.reduceEqDiff, if_true, if_false, ite_true, ite_false, false_and, and_false, false_or, or_false, reduceIte, reduceCtorEq, and_self, z_4, z_5, z_7, z_8, z_10, z_16, z_20, z_64, not_false_eq_true, t0, t2, g1, g2, Y1, Y2, c_size Wa]
      refine (show _ from c_addPart (b := 0) (n := (sW A (5 * x + 4)).length) X1 Wa ⟨by omega, by omega⟩ (by omega) (by simp; omega) (fun h2 F2 X2 => ?_) : pz_M (d + 2) mX6_addPart [.ref 3, .ref (lkA (5 * 4 + x) + 1), .int 0, .int (nI (sW A (5 * x + 4)).length)] h1 _)
      rw [List.nil_append, ofF_take (Nat.le_refl _), List.take_length] at X2
      have R2 := RC_V1 R (HF_trans F1 F2) X2
      obtain ⟨⟨g1, g2, _⟩, L2⟩ := LN_of R2 y5 x5 hxy.symm
      have Wb := L2.2.2.2.2.2.2.2.2.2.2.2.2.2
      have Y3 := Wb.1
      simp only [enX9_hear, uX9_hear_0, uX9_hear_0o, uX9_hear_0f, uX9_hear_1, uX9_hear_4, uX9_hear_5, uX9_hear_6, uX9_hear_9, uX9_hear_9o, uX9_hear_10, uX9_hear_10o, uX9_hear_10f, uX9_hear_11, uX9_hear_11a, uX9_hear_14, uX9_hear_14o, uX9_hear_14f, uX9_hear_15, uX9_hear_18, uX9_hear_21, uX9_hear_22, uX9_hear_23, uX9_hear_23o, uX9_hear_23f, uX9_hear_24, uX9_hear_27, uX9_hear_28, uX9_hear_31, uX9_hear_31o, uX9_hear_31f, uX9_hear_32, uX9_hear_35, uX9_hear_35o, uX9_hear_35f, uX9_hear_36, uX9_hear_39, uX9_hear_40, uX9_hear_40o, uX9_hear_40f, uX9_hear_41, uX9_hear_44, uX9_hear_47, uX9_hear_50, uX9_hear_50o, uX9_hear_50f, uX9_hear_51, uX9_hear_54, uX9_hear_55, uX9_hear_58, uX9_hear_58o, uX9_hear_58f, uX9_hear_59, uX9_hear_62, uX9_hear_65, pq_C_sI, pq_C_sJ, pq_C_sR, pq_C_sA, pq_L_sI, pq_L_sJ, pq_L_sR, pq_L_sA, pq_I_sI, pq_I_sJ, pq_I_sR, pq_I_sA, pq_J_sI, pq_J_sJ, pq_J_sR, pq_J_sA, pq_R_sI, pq_R_sJ, pq_R_sR, pq_R_sA, pq_N_sI, pq_N_sJ, pq_N_sR, pq_N_sA, pq_S_sI, pq_S_sJ, pq_S_sR, pq_S_sA, pz_rf_s, pz_cut_i, pz_cut_r, pz_cut_n, pz_cut_f, pz_cut_u, pz_cut_o, true_and, and_true, true_or, or_true, Option.toList_some, Option.toList_none, List.cons_append, List.nil_append, Nat.add_left_cancel_iff, Nat.left_eq_add, Nat.add_eq_left, Nat.reduceEqDiff, if_true, if_false, ite_true, ite_false, false_and, and_false, false_or, or_false, reduceIte, reduceCtorEq, and_self, z_4, z_5, z_7, z_8, z_10, z_16, z_20, z_64, not_false_eq_true, g1, g2, Y3]
      refine c_cut0 Wb (fun h3 F3 X3 => ?_)
      have R3 := RC_W R2 y5 x5 hxy.symm F3 X3
      obtain ⟨t0, t1, t2, t3, t4, t5, t6, t7⟩ := DS_of R3
      have V3 : ROW h3 3 4 6000 (sW A (5 * x + 4)) := R3.2.2.1.2.1
      have Y4 := V3.1
      simp only [enX9_hear, uX9_hear_0, uX9_hear_0o, uX9_hear_0f, uX9_hear_1, uX9_hear_4, uX9_hear_5, uX9_hear_6, uX9_hear_9, uX9_hear_9o, uX9_hear_10, uX9_hear_10o, uX9_hear_10f, uX9_hear_11, uX9_hear_11a, uX9_hear_14, uX9_hear_14o, uX9_hear_14f, uX9_hear_15, uX9_hear_18, uX9_hear_21, uX9_hear_22, uX9_hear_23, uX9_hear_23o, uX9_hear_23f, uX9_hear_24, uX9_hear_27, uX9_hear_28, uX9_hear_31, uX9_hear_31o, uX9_hear_31f, uX9_hear_32, uX9_hear_35, uX9_hear_35o, uX9_hear_35f, uX9_hear_36, uX9_hear_39, uX9_hear_40, uX9_hear_40o, uX9_hear_40f, uX9_hear_41, uX9_hear_44, uX9_hear_47, uX9_hear_50, uX9_hear_50o, uX9_hear_50f, uX9_hear_51, uX9_hear_54, uX9_hear_55, uX9_hear_58, uX9_hear_58o, uX9_hear_58f, uX9_hear_59, uX9_hear_62, uX9_hear_65, pq_C_sI, pq_C_sJ, pq_C_sR, pq_C_sA, pq_L_sI, pq_L_sJ, pq_L_sR, pq_L_sA, pq_I_sI, pq_I_sJ, pq_I_sR, pq_I_sA, pq_J_sI, pq_J_sJ, pq_J_sR, pq_J_sA, pq_R_sI, pq_R_sJ, pq_R_sR, pq_R_sA, pq_N_sI, pq_N_sJ, pq_N_sR, pq_N_sA, pq_S_sI, pq_S_sJ, pq_S_sR, pq_S_sA, pz_rf_s, pz_cut_i, pz_cut_r, pz_cut_n, pz_cut_f, pz_cut_u, pz_cut_o, true_and, and_true, true_or, or_true, Option.toList_some, Option.toList_none, List.cons_append, List.nil_append, Nat.add_left_cancel_iff, Nat.left_eq_add, Nat.add_eq_left, Nat.reduceEqDiff, if_true, if_false, ite_true, ite_false, false_and, and_false, false_or, or_false, reduceIte, reduceCtorEq, and_self, z_4, z_5, z_7, z_8, z_10, z_16, z_20, z_64, not_false_eq_true, t0, t2, Y4, c_size V3]
      exact K h3 (HC_trans (HC_34 (HF_trans F1 F2)) (HC_W y5 x5 hxy.symm F3)) R3
  · rw [ej] at K
    dsimp only at K
    have el' : lkO 4 a = none := by
      unfold lkO at el ⊢
      cases ea : vI a 5 with
      | none => cases vI 4 5 <;> rfl
      | some x =>
        rw [ea] at el
        have e4 : vI 4 5 = some 4 := by decide
        rw [e4] at el ⊢
        dsimp only at el ⊢
        by_cases z : x = 4
        · rw [if_pos z.symm]
        · rw [if_neg z] at el; exact absurd el (by simp)
    rw [el'] at lk
    simp only [enX9_hear, uX9_hear_0, uX9_hear_0o, uX9_hear_0f, uX9_hear_1, uX9_hear_4, uX9_hear_5, uX9_hear_6, uX9_hear_9, uX9_hear_9o, uX9_hear_10, uX9_hear_10o, uX9_hear_10f, uX9_hear_11, uX9_hear_11a, uX9_hear_14, uX9_hear_14o, uX9_hear_14f, uX9_hear_15, uX9_hear_18, uX9_hear_21, uX9_hear_22, uX9_hear_23, uX9_hear_23o, uX9_hear_23f, uX9_hear_24, uX9_hear_27, uX9_hear_28, uX9_hear_31, uX9_hear_31o, uX9_hear_31f, uX9_hear_32, uX9_hear_35, uX9_hear_35o, uX9_hear_35f, uX9_hear_36, uX9_hear_39, uX9_hear_40, uX9_hear_40o, uX9_hear_40f, uX9_hear_41, uX9_hear_44, uX9_hear_47, uX9_hear_50, uX9_hear_50o, uX9_hear_50f, uX9_hear_51, uX9_hear_54, uX9_hear_55, uX9_hear_58, uX9_hear_58o, uX9_hear_58f, uX9_hear_59, uX9_hear_62, uX9_hear_65, pq_C_sI, pq_C_sJ, pq_C_sR, pq_C_sA, pq_L_sI, pq_L_sJ, pq_L_sR, pq_L_sA, pq_I_sI, pq_I_sJ, pq_I_sR, pq_I_sA, pq_J_sI, pq_J_sJ, pq_J_sR, pq_J_sA, pq_R_sI, pq_R_sJ, pq_R_sR, pq_R_sA, pq_N_sI, pq_N_sJ, pq_N_sR, pq_N_sA, pq_S_sI, pq_S_sJ, pq_S_sR, pq_S_sA, pz_rf_s, pz_cut_i, pz_cut_r, pz_cut_n, pz_cut_f, pz_cut_u, pz_cut_o, true_and, and_true, true_or, or_true, Option.toList_some, Option.toList_none, List.cons_append, List.nil_append, Nat.add_left_cancel_iff, Nat.left_eq_add, Nat.add_eq_left, Nat.reduceEqDiff, if_true, if_false, ite_true, ite_false, false_and, and_false, false_or, or_false, reduceIte, reduceCtorEq, and_self, z_4, z_5, z_7, z_8, z_10, z_16, z_20, z_64, not_false_eq_true, s0, s6, n1, lk, pz_cut_o]
    exact K h HC_refl R
theorem c_meddle (R : RC h A) (I : LI A l c p) {a b i v : Int32} (K : ∀ h', HC h h' → RC h' (medA A a b i v).2 → Q (some (.int (medA A a b i v).1)) h') : pz_M (d + 2) mX9_meddle [.ref 0, .int a, .int b, .int i, .int v] h Q := by
  obtain ⟨s0, s1, s2, s3, s4, s5, s6, s7⟩ := DS_of R
  have n1 := R.1.2.2.2.2.2.1.1
  have lk : ∀ {Q : Option Value → PzH → Prop}, pz_M (d + 1) mX5_linkOf [.ref 23, .int b, .int a] h Q ↔ Q (some (pz_rf (lkO b a))) h := fun {Q} => c_linkOf R.1
  unfold medA at K
  have stW_e : ∀ k, stW A k (sW A k) = A := fun k => by
    unfold stW
    refine Prod.ext rfl (Prod.ext ?_ rfl)
    funext j
    show upf (sW A) k (sW A k) j = sW A j
    unfold upf
    split
    · rename_i z; rw [z]
    · rfl
  rcases aj_cases (A := A) I (a := a) (b := b) with ⟨x, y, x5, y5, hxy, rfl, rfl, el, hz⟩ | ⟨el, ej⟩
  · rw [lkO_of y5 x5 hxy.symm] at lk
    obtain ⟨⟨k1, k2, k3, k4, k5⟩, L⟩ := LN_of R y5 x5 hxy.symm
    have W := L.2.2.2.2.2.2.2.2.2.2.2.2.2
    have W1 := W.1
    have w8 := W.2.2.2.2.2.2.2.1
    simp only [enX9_meddle, uX9_meddle_0, uX9_meddle_0o, uX9_meddle_0f, uX9_meddle_1, uX9_meddle_4, uX9_meddle_5, uX9_meddle_6, uX9_meddle_9, uX9_meddle_9o, uX9_meddle_11, uX9_meddle_11o, uX9_meddle_11f, uX9_meddle_13, uX9_meddle_13a, uX9_meddle_16, uX9_meddle_16o, uX9_meddle_16f, uX9_meddle_18, uX9_meddle_21, uX9_meddle_22, uX9_meddle_24, uX9_meddle_27, uX9_meddle_30, uX9_meddle_31, uX9_meddle_34, uX9_meddle_35, pq_C_sI, pq_C_sJ, pq_C_sR, pq_C_sA, pq_L_sI, pq_L_sJ, pq_L_sR, pq_L_sA, pq_I_sI, pq_I_sJ, pq_I_sR, pq_I_sA, pq_J_sI, pq_J_sJ, pq_J_sR, pq_J_sA, pq_R_sI, pq_R_sJ, pq_R_sR, pq_R_sA, pq_N_sI, pq_N_sJ, pq_N_sR, pq_N_sA, pq_S_sI, pq_S_sJ, pq_S_sR, pq_S_sA, pz_rf_s, pz_cut_i, pz_cut_r, pz_cut_n, pz_cut_f, pz_cut_u, pz_cut_o, true_and, and_true, true_or, or_true, Option.toList_some, Option.toList_none, List.cons_append, List.nil_append, Nat.add_left_cancel_iff, Nat.left_eq_add, Nat.add_eq_left, Nat.reduceEqDiff, if_true, if_false, ite_true, ite_false, false_and, and_false, false_or, or_false, reduceIte, reduceCtorEq, and_self, z_4, z_5, z_7, z_8, z_10, z_16, z_20, z_64, not_false_eq_true, s0, s6, n1, lk, k1, k2, W1]
    refine c_change W (fun h1 F1 X1 => ?_)
    have F1' : HF [lkA (5 * y + x) + 1, lkA (5 * y + x) + 2] h h1 := HF_up F1 (by simp)
    have R1 := RC_W R y5 x5 hxy.symm F1' X1
    have H1 := HC_W y5 x5 hxy.symm F1'
    have e : medA A (nI x) (nI y) i v = (match vI i (sW A (5 * x + y)).length with
      | some j => (1, stW A (5 * x + y) ((sW A (5 * x + y)).set j v.toInt8))
      | none => (0, A)) := by
      unfold medA
      rcases hz with ⟨z, ej⟩ | ⟨z, ej⟩
      · rw [ej]
        have zW := ((I.1 x y x5 y5).2.1 z).2.2.2.2.2.1
        rw [zW]
        have : vI i ([] : List Int8).length = none := by
          unfold vI
          by_cases h0 : i < 0
          · rw [if_pos h0]
          · rw [if_neg h0, if_neg (show ¬ i < nI ([] : List Int8).length from fun y => h0 y)]
        rw [this]
      · rw [ej]
        dsimp only
        cases vI i (sW A (5 * x + y)).length <;> rfl
    unfold medA at e
    rw [e] at K
    cases ei : vI i (sW A (5 * x + y)).length with
    | none =>
      rw [ei] at K R1
      dsimp only at R1
      rw [stW_e] at R1
      simp only [enX9_meddle, uX9_meddle_0, uX9_meddle_0o, uX9_meddle_0f, uX9_meddle_1, uX9_meddle_4, uX9_meddle_5, uX9_meddle_6, uX9_meddle_9, uX9_meddle_9o, uX9_meddle_11, uX9_meddle_11o, uX9_meddle_11f, uX9_meddle_13, uX9_meddle_13a, uX9_meddle_16, uX9_meddle_16o, uX9_meddle_16f, uX9_meddle_18, uX9_meddle_21, uX9_meddle_22, uX9_meddle_24, uX9_meddle_27, uX9_meddle_30, uX9_meddle_31, uX9_meddle_34, uX9_meddle_35, pq_C_sI, pq_C_sJ, pq_C_sR, pq_C_sA, pq_L_sI, pq_L_sJ, pq_L_sR, pq_L_sA, pq_I_sI, pq_I_sJ, pq_I_sR, pq_I_sA, pq_J_sI, pq_J_sJ, pq_J_sR, pq_J_sA, pq_R_sI, pq_R_sJ, pq_R_sR, pq_R_sA, pq_N_sI, pq_N_sJ, pq_N_sR, pq_N_sA, pq_S_sI, pq_S_sJ, pq_S_sR, pq_S_sA, pz_rf_s, pz_cut_i, pz_cut_r, pz_cut_n, pz_cut_f, pz_cut_u, pz_cut_o, true_and, and_true, true_or, or_true, Option.toList_some, Option.toList_none, List.cons_append, List.nil_append, Nat.add_left_cancel_iff, Nat.left_eq_add, Nat.add_eq_left, Nat.reduceEqDiff, if_true, if_false, ite_true, ite_false, false_and, and_false, false_or, or_false, reduceIte, reduceCtorEq, and_self, z_4, z_5, z_7, z_8, z_10, z_16, z_20, z_64, not_false_eq_true, Option.isSome_none, Bool.false_eq_true]
      exact K h1 H1 R1
    | some j =>
      rw [ei] at K R1
      simp only [enX9_meddle, uX9_meddle_0, uX9_meddle_0o, uX9_meddle_0f, uX9_meddle_1, uX9_meddle_4, uX9_meddle_5, uX9_meddle_6, uX9_meddle_9, uX9_meddle_9o, uX9_meddle_11, uX9_meddle_11o, uX9_meddle_11f, uX9_meddle_13, uX9_meddle_13a, uX9_meddle_16, uX9_meddle_16o, uX9_meddle_16f, uX9_meddle_18, uX9_meddle_21, uX9_meddle_22, uX9_meddle_24, uX9_meddle_27, uX9_meddle_30, uX9_meddle_31, uX9_meddle_34, uX9_meddle_35, pq_C_sI, pq_C_sJ, pq_C_sR, pq_C_sA, pq_L_sI, pq_L_sJ, pq_L_sR, pq_L_sA, pq_I_sI, pq_I_sJ, pq_I_sR, pq_I_sA, pq_J_sI, pq_J_sJ, pq_J_sR, pq_J_sA, pq_R_sI, pq_R_sJ, pq_R_sR, pq_R_sA, pq_N_sI, pq_N_sJ, pq_N_sR, pq_N_sA, pq_S_sI, pq_S_sJ, pq_S_sR, pq_S_sA, pz_rf_s, pz_cut_i, pz_cut_r, pz_cut_n, pz_cut_f, pz_cut_u, pz_cut_o, true_and, and_true, true_or, or_true, Option.toList_some, Option.toList_none, List.cons_append, List.nil_append, Nat.add_left_cancel_iff, Nat.left_eq_add, Nat.add_eq_left, Nat.reduceEqDiff, if_true, if_false, ite_true, ite_false, false_and, and_false, false_or, or_false, reduceIte, reduceCtorEq, and_self, z_4, z_5, z_7, z_8, z_10, z_16, z_20, z_64, not_false_eq_true, Option.isSome_some, show ¬ (1 : Int32) = 0 by decide]
      exact K h1 H1 R1
  · rw [ej] at K
    have el' : lkO b a = none := by
      unfold lkO at el ⊢
      cases ea : vI a 5 with
      | none => cases vI b 5 <;> rfl
      | some x =>
        rw [ea] at el
        cases eb : vI b 5 with
        | none => rfl
        | some y =>
          rw [eb] at el
          dsimp only at el ⊢
          by_cases z : x = y
          · rw [if_pos z.symm]
          · rw [if_neg z] at el; exact absurd el (by simp)
    rw [el'] at lk
    simp only [enX9_meddle, uX9_meddle_0, uX9_meddle_0o, uX9_meddle_0f, uX9_meddle_1, uX9_meddle_4, uX9_meddle_5, uX9_meddle_6, uX9_meddle_9, uX9_meddle_9o, uX9_meddle_11, uX9_meddle_11o, uX9_meddle_11f, uX9_meddle_13, uX9_meddle_13a, uX9_meddle_16, uX9_meddle_16o, uX9_meddle_16f, uX9_meddle_18, uX9_meddle_21, uX9_meddle_22, uX9_meddle_24, uX9_meddle_27, uX9_meddle_30, uX9_meddle_31, uX9_meddle_34, uX9_meddle_35, pq_C_sI, pq_C_sJ, pq_C_sR, pq_C_sA, pq_L_sI, pq_L_sJ, pq_L_sR, pq_L_sA, pq_I_sI, pq_I_sJ, pq_I_sR, pq_I_sA, pq_J_sI, pq_J_sJ, pq_J_sR, pq_J_sA, pq_R_sI, pq_R_sJ, pq_R_sR, pq_R_sA, pq_N_sI, pq_N_sJ, pq_N_sR, pq_N_sA, pq_S_sI, pq_S_sJ, pq_S_sR, pq_S_sA, pz_rf_s, pz_cut_i, pz_cut_r, pz_cut_n, pz_cut_f, pz_cut_u, pz_cut_o, true_and, and_true, true_or, or_true, Option.toList_some, Option.toList_none, List.cons_append, List.nil_append, Nat.add_left_cancel_iff, Nat.left_eq_add, Nat.add_eq_left, Nat.reduceEqDiff, if_true, if_false, ite_true, ite_false, false_and, and_false, false_or, or_false, reduceIte, reduceCtorEq, and_self, z_4, z_5, z_7, z_8, z_10, z_16, z_20, z_64, not_false_eq_true, s0, s6, n1, lk, pz_cut_o]
    exact K h HC_refl R
theorem c_close (R : RC h A) (I : LI A l c p) {a b : Int32} (K : ∀ h', HC h h' → RC h' (cloA A a b).2 → Q (some (.int (cloA A a b).1)) h') : pz_M (d + 4) mX9_close [.ref 0, .int a, .int b] h Q := by
  obtain ⟨s0, s1, s2, s3, s4, s5, s6, s7⟩ := DS_of R
  have n1 := R.1.2.2.2.2.2.1.1
  have lk : ∀ {Q : Option Value → PzH → Prop}, pz_M (d + 3) mX5_linkOf [.ref 23, .int a, .int b] h Q ↔ Q (some (pz_rf (lkO a b))) h := fun {Q} => c_linkOf R.1
  unfold cloA at K
  rcases aj_cases (A := A) I (a := a) (b := b) with ⟨x, y, x5, y5, hxy, rfl, rfl, el, hz⟩ | ⟨el, ej⟩
  · rw [el] at lk
    obtain ⟨⟨k1, k2, k3, k4, k5⟩, L⟩ := LN_of R x5 y5 hxy
    have r3 := L.2.2.1
    rcases hz with ⟨z, ej⟩ | ⟨z, ej⟩
    · rw [ej] at K
      simp only [enX9_close, uX9_close_0, uX9_close_0o, uX9_close_0f, uX9_close_1, uX9_close_4, uX9_close_5, uX9_close_6, uX9_close_9, uX9_close_9o, uX9_close_10, uX9_close_10o, uX9_close_10f, uX9_close_11, uX9_close_11a, uX9_close_14, uX9_close_14o, uX9_close_14f, uX9_close_15, uX9_close_18, uX9_close_21, uX9_close_22, uX9_close_23, uX9_close_23o, uX9_close_23f, uX9_close_24, uX9_close_27, uX9_close_28, uX9_close_29, uX9_close_30, uX9_close_33, uX9_close_34, pq_C_sI, pq_C_sJ, pq_C_sR, pq_C_sA, pq_L_sI, pq_L_sJ, pq_L_sR, pq_L_sA, pq_I_sI, pq_I_sJ, pq_I_sR, pq_I_sA, pq_J_sI, pq_J_sJ, pq_J_sR, pq_J_sA, pq_R_sI, pq_R_sJ, pq_R_sR, pq_R_sA, pq_N_sI, pq_N_sJ, pq_N_sR, pq_N_sA, pq_S_sI, pq_S_sJ, pq_S_sR, pq_S_sA, pz_rf_s, pz_cut_i, pz_cut_r, pz_cut_n, pz_cut_f, pz_cut_u, pz_cut_o, true_and, and_true, true_or, or_true, Option.toList_some, Option.toList_none, List.cons_append, List.nil_append, Nat.add_left_cancel_iff, Nat.left_eq_add, Nat.add_eq_left, Nat.reduceEqDiff, if_true, if_false, ite_true, ite_false, false_and, and_false, false_or, or_false, reduceIte, reduceCtorEq, and_self, z_4, z_5, z_7, z_8, z_10, z_16, z_20, z_64, not_false_eq_true, s0, s6, n1, lk, k1, r3, z, not_true_eq_false]
      exact K h HC_refl R
    · rw [ej] at K
      simp only [enX9_close, uX9_close_0, uX9_close_0o, uX9_close_0f, uX9_close_1, uX9_close_4, uX9_close_5, uX9_close_6, uX9_close_9, uX9_close_9o, uX9_close_10, uX9_close_10o, uX9_close_10f, uX9_close_11, uX9_close_11a, uX9_close_14, uX9_close_14o, uX9_close_14f, uX9_close_15, uX9_close_18, uX9_close_21, uX9_close_22, uX9_close_23, uX9_close_23o, uX9_close_23f, uX9_close_24, uX9_close_27, uX9_close_28, uX9_close_29, uX9_close_30, uX9_close_33, uX9_close_34, pq_C_sI, pq_C_sJ, pq_C_sR, pq_C_sA, pq_L_sI, pq_L_sJ, pq_L_sR, pq_L_sA, pq_I_sI, pq_I_sJ, pq_I_sR, pq_I_sA, pq_J_sI, pq_J_sJ, pq_J_sR, pq_J_sA, pq_R_sI, pq_R_sJ, pq_R_sR, pq_R_sA, pq_N_sI, pq_N_sJ, pq_N_sR, pq_N_sA, pq_S_sI, pq_S_sJ, pq_S_sR, pq_S_sA, pz_rf_s, pz_cut_i, pz_cut_r, pz_cut_n, pz_cut_f, pz_cut_u, pz_cut_o, true_and, and_true, true_or, or_true, Option.toList_some, Option.toList_none, List.cons_append, List.nil_append, Nat.add_left_cancel_iff, Nat.left_eq_add, Nat.add_eq_left, Nat.reduceEqDiff, if_true, if_false, ite_true, ite_false, false_and, and_false, false_or, or_false, reduceIte, reduceCtorEq, and_self, z_4, z_5, z_7, z_8, z_10, z_16, z_20, z_64, not_false_eq_true, s0, s6, n1, lk, k1, r3, z]
      refine c_partA R x5 y5 (fun h1 F1 R1 => ?_)
      simp only [enX9_close, uX9_close_0, uX9_close_0o, uX9_close_0f, uX9_close_1, uX9_close_4, uX9_close_5, uX9_close_6, uX9_close_9, uX9_close_9o, uX9_close_10, uX9_close_10o, uX9_close_10f, uX9_close_11, uX9_close_11a, uX9_close_14, uX9_close_14o, uX9_close_14f, uX9_close_15, uX9_close_18, uX9_close_21, uX9_close_22, uX9_close_23, uX9_close_23o, uX9_close_23f, uX9_close_24, uX9_close_27, uX9_close_28, uX9_close_29, uX9_close_30, uX9_close_33, uX9_close_34, pq_C_sI, pq_C_sJ, pq_C_sR, pq_C_sA, pq_L_sI, pq_L_sJ, pq_L_sR, pq_L_sA, pq_I_sI, pq_I_sJ, pq_I_sR, pq_I_sA, pq_J_sI, pq_J_sJ, pq_J_sR, pq_J_sA, pq_R_sI, pq_R_sJ, pq_R_sR, pq_R_sA, pq_N_sI, pq_N_sJ, pq_N_sR, pq_N_sA, pq_S_sI, pq_S_sJ, pq_S_sR, pq_S_sA, pz_rf_s, pz_cut_i, pz_cut_r, pz_cut_n, pz_cut_f, pz_cut_u, pz_cut_o, true_and, and_true, true_or, or_true, Option.toList_some, Option.toList_none, List.cons_append, List.nil_append, Nat.add_left_cancel_iff, Nat.left_eq_add, Nat.add_eq_left, Nat.reduceEqDiff, if_true, if_false, ite_true, ite_false, false_and, and_false, false_or, or_false, reduceIte, reduceCtorEq, and_self, z_4, z_5, z_7, z_8, z_10, z_16, z_20, z_64, not_false_eq_true]
      exact K h1 (HC_HL F1) R1
  · rw [ej] at K
    rw [el] at lk
    simp only [enX9_close, uX9_close_0, uX9_close_0o, uX9_close_0f, uX9_close_1, uX9_close_4, uX9_close_5, uX9_close_6, uX9_close_9, uX9_close_9o, uX9_close_10, uX9_close_10o, uX9_close_10f, uX9_close_11, uX9_close_11a, uX9_close_14, uX9_close_14o, uX9_close_14f, uX9_close_15, uX9_close_18, uX9_close_21, uX9_close_22, uX9_close_23, uX9_close_23o, uX9_close_23f, uX9_close_24, uX9_close_27, uX9_close_28, uX9_close_29, uX9_close_30, uX9_close_33, uX9_close_34, pq_C_sI, pq_C_sJ, pq_C_sR, pq_C_sA, pq_L_sI, pq_L_sJ, pq_L_sR, pq_L_sA, pq_I_sI, pq_I_sJ, pq_I_sR, pq_I_sA, pq_J_sI, pq_J_sJ, pq_J_sR, pq_J_sA, pq_R_sI, pq_R_sJ, pq_R_sR, pq_R_sA, pq_N_sI, pq_N_sJ, pq_N_sR, pq_N_sA, pq_S_sI, pq_S_sJ, pq_S_sR, pq_S_sA, pz_rf_s, pz_cut_i, pz_cut_r, pz_cut_n, pz_cut_f, pz_cut_u, pz_cut_o, true_and, and_true, true_or, or_true, Option.toList_some, Option.toList_none, List.cons_append, List.nil_append, Nat.add_left_cancel_iff, Nat.left_eq_add, Nat.add_eq_left, Nat.reduceEqDiff, if_true, if_false, ite_true, ite_false, false_and, and_false, false_or, or_false, reduceIte, reduceCtorEq, and_self, z_4, z_5, z_7, z_8, z_10, z_16, z_20, z_64, not_false_eq_true, s0, s6, n1, lk, pz_cut_o]
    exact K h HC_refl R
end
