/-! ===== the class: clientOf, wholeSize, kindFor, isLengthOf ===== -/
def clO (A : St) (a : Int32) : Option Nat := match vI a 4 with
  | some k => if sB A 18 k = 0 then none else some (36 + 4 * k)
  | none => none
/-- how many bytes the first that came has -/
def whS (A : St) (a b : Nat) : Option Nat :=
  if sB A 24 (5 * a + b) = 0 then (if 68 ≤ (sW A (5 * b + a)).length then some 68 else none)
  else if 4 ≤ (sW A (5 * b + a)).length then (if 100 < be32 (sW A (5 * b + a)) 0 then some 4 else if 4 + be32 (sW A (5 * b + a)) 0 ≤ (sW A (5 * b + a)).length then some (4 + be32 (sW A (5 * b + a)) 0) else none)
  else none
theorem whS_wh {A : St} {a b : Nat} (ha : a < 4) (hj : sB A 23 (5 * a + b) ≠ 0) : whA A a b = (whS A a b).isSome := by
  rw [Bool.eq_iff_iff]
  unfold whA whS
  rw [decide_eq_true_eq]
  by_cases q : sB A 24 (5 * a + b) = 0
  · rw [if_pos q, if_pos q]
    by_cases q2 : 68 ≤ (sW A (5 * b + a)).length
    · rw [if_pos q2]
      exact ⟨fun _ => rfl, fun _ => ⟨by omega, hj, q2⟩⟩
    · rw [if_neg q2]
      exact ⟨fun z => absurd z.2.2 q2, fun z => absurd z (by simp)⟩
  · rw [if_neg q, if_neg q]
    by_cases q2 : 4 ≤ (sW A (5 * b + a)).length
    · rw [if_pos q2]
      by_cases q3 : 100 < be32 (sW A (5 * b + a)) 0
      · rw [if_pos q3]
        exact ⟨fun _ => rfl, fun _ => ⟨by omega, hj, q2, Or.inl q3⟩⟩
      · rw [if_neg q3]
        by_cases q4 : 4 + be32 (sW A (5 * b + a)) 0 ≤ (sW A (5 * b + a)).length
        · rw [if_pos q4]
          exact ⟨fun _ => rfl, fun _ => ⟨by omega, hj, q2, Or.inr q4⟩⟩
        · rw [if_neg q4]
          exact ⟨fun z => z.2.2.2.elim (fun y => absurd y q3) (fun y => absurd y q4), fun z => absurd z (by simp)⟩
    · rw [if_neg q2]
      exact ⟨fun z => absurd z.2.2.1 q2, fun z => absurd z (by simp)⟩
section
variable {d : Nat} {h : PzH} {Q : Option Value → PzH → Prop} {A : St} {l c p : Nat}
theorem c_clientOf (C : CO h) (CL : ∀ k, k < 4 → CR h A k) {a : Int32} : pz_M (d + 1) mX5_clientOf [.ref 23, .int a] h Q ↔ Q (some (pz_rf (clO A a))) h := by
  obtain ⟨_, _, _, _, _, ⟨n1, ⟨n3, n4, n5⟩, n2, n6⟩, nc, _, _⟩ := C
  unfold clO vI
  by_cases a0 : a < 0
  · simp only [enX5_clientOf, uX5_clientOf_0, uX5_clientOf_1, uX5_clientOf_4, uX5_clientOf_5, uX5_clientOf_6, uX5_clientOf_9, uX5_clientOf_9o, uX5_clientOf_9f, uX5_clientOf_10, uX5_clientOf_13, uX5_clientOf_14, uX5_clientOf_15, uX5_clientOf_18, uX5_clientOf_21, uX5_clientOf_22, uX5_clientOf_25, uX5_clientOf_25o, uX5_clientOf_25f, uX5_clientOf_26, uX5_clientOf_29, uX5_clientOf_30, uX5_clientOf_31, uX5_clientOf_31o, pq_C_sI, pq_C_sJ, pq_C_sR, pq_C_sA, pq_L_sI, pq_L_sJ, pq_L_sR, pq_L_sA, pq_I_sI, pq_I_sJ, pq_I_sR, pq_I_sA, pq_J_sI, pq_J_sJ, pq_J_sR, pq_J_sA, pq_R_sI, pq_R_sJ, pq_R_sR, pq_R_sA, pq_N_sI, pq_N_sJ, pq_N_sR, pq_N_sA, pq_S_sI, pq_S_sJ, pq_S_sR, pq_S_sA, pz_rf_s, pz_cut_i, pz_cut_r, pz_cut_n, pz_cut_f, pz_cut_u, pz_cut_o, true_and, and_true, true_or, or_true, Option.toList_some, Option.toList_none, List.cons_append, List.nil_append, Nat.add_left_cancel_iff, Nat.left_eq_add, Nat.add_eq_left, Nat.reduceEqDiff, if_true, if_false, ite_true, ite_false, false_and, and_false, false_or, or_false, reduceIte, reduceCtorEq, and_self, z_4, z_5, z_7, z_8, z_10, z_16, z_20, z_64, not_false_eq_true, null_rf, a0]
  · by_cases a1 : a < nI 4
    · obtain ⟨k, hk, rfl⟩ := nI_of a0
      have k4 := (nI_ltI hk (by decide)).mp a1
      have hin : pz_in (nI k) 4 = true := pz_in_nI k4 (by decide)
      obtain ⟨c1, c2, _⟩ := nc k k4
      obtain ⟨d1, _⟩ := CL k k4
      simp only [enX5_clientOf, uX5_clientOf_0, uX5_clientOf_1, uX5_clientOf_4, uX5_clientOf_5, uX5_clientOf_6, uX5_clientOf_9, uX5_clientOf_9o, uX5_clientOf_9f, uX5_clientOf_10, uX5_clientOf_13, uX5_clientOf_14, uX5_clientOf_15, uX5_clientOf_18, uX5_clientOf_21, uX5_clientOf_22, uX5_clientOf_25, uX5_clientOf_25o, uX5_clientOf_25f, uX5_clientOf_26, uX5_clientOf_29, uX5_clientOf_30, uX5_clientOf_31, uX5_clientOf_31o, pq_C_sI, pq_C_sJ, pq_C_sR, pq_C_sA, pq_L_sI, pq_L_sJ, pq_L_sR, pq_L_sA, pq_I_sI, pq_I_sJ, pq_I_sR, pq_I_sA, pq_J_sI, pq_J_sJ, pq_J_sR, pq_J_sA, pq_R_sI, pq_R_sJ, pq_R_sR, pq_R_sA, pq_N_sI, pq_N_sJ, pq_N_sR, pq_N_sA, pq_S_sI, pq_S_sJ, pq_S_sR, pq_S_sA, pz_rf_s, pz_cut_i, pz_cut_r, pz_cut_n, pz_cut_f, pz_cut_u, pz_cut_o, true_and, and_true, true_or, or_true, Option.toList_some, Option.toList_none, List.cons_append, List.nil_append, Nat.add_left_cancel_iff, Nat.left_eq_add, Nat.add_eq_left, Nat.reduceEqDiff, if_true, if_false, ite_true, ite_false, false_and, and_false, false_or, or_false, reduceIte, reduceCtorEq, and_self, z_4, z_5, z_7, z_8, z_10, z_16, z_20, z_64, not_false_eq_true, null_rf, a0, n1, n3, n4, n5, hin, nI_clamp hk, c1, c2, d1]
      rw [if_neg (show ¬ (4 : Int32) ≤ nI k from nI_ge (b := 4) k4 (by decide)), if_pos (show nI k < nI 4 from a1)]
      by_cases z : sB A 18 k = 0
      · simp only [z, if_true, not_true_eq_false, if_false]
      · simp only [z, if_false, not_false_eq_true, if_true, pz_rf_s]
    · simp only [enX5_clientOf, uX5_clientOf_0, uX5_clientOf_1, uX5_clientOf_4, uX5_clientOf_5, uX5_clientOf_6, uX5_clientOf_9, uX5_clientOf_9o, uX5_clientOf_9f, uX5_clientOf_10, uX5_clientOf_13, uX5_clientOf_14, uX5_clientOf_15, uX5_clientOf_18, uX5_clientOf_21, uX5_clientOf_22, uX5_clientOf_25, uX5_clientOf_25o, uX5_clientOf_25f, uX5_clientOf_26, uX5_clientOf_29, uX5_clientOf_30, uX5_clientOf_31, uX5_clientOf_31o, pq_C_sI, pq_C_sJ, pq_C_sR, pq_C_sA, pq_L_sI, pq_L_sJ, pq_L_sR, pq_L_sA, pq_I_sI, pq_I_sJ, pq_I_sR, pq_I_sA, pq_J_sI, pq_J_sJ, pq_J_sR, pq_J_sA, pq_R_sI, pq_R_sJ, pq_R_sR, pq_R_sA, pq_N_sI, pq_N_sJ, pq_N_sR, pq_N_sA, pq_S_sI, pq_S_sJ, pq_S_sR, pq_S_sA, pz_rf_s, pz_cut_i, pz_cut_r, pz_cut_n, pz_cut_f, pz_cut_u, pz_cut_o, true_and, and_true, true_or, or_true, Option.toList_some, Option.toList_none, List.cons_append, List.nil_append, Nat.add_left_cancel_iff, Nat.left_eq_add, Nat.add_eq_left, Nat.reduceEqDiff, if_true, if_false, ite_true, ite_false, false_and, and_false, false_or, or_false, reduceIte, reduceCtorEq, and_self, z_4, z_5, z_7, z_8, z_10, z_16, z_20, z_64, not_false_eq_true, null_rf, a0]
      rw [if_pos (show (4 : Int32) ≤ a from i32_nlt.mp a1), if_neg a1]
theorem c_wholeSize (R : RC h A) {a b : Nat} (ha : a < 5) (hb : b < 5) (hab : a ≠ b) : pz_M (d + 2) mX3_wholeSize [.ref (lkA (5 * a + b))] h Q ↔ Q (some (.int (kyOf (whS A a b)))) h := by
  obtain ⟨⟨k1, k2, k3, k4, k5⟩, L⟩ := LN_of R ha hb hab
  have r4 := L.2.2.2.1
  have W := L.2.2.2.2.2.2.2.2.2.2.2.2.2
  have W1 := W.1
  have w8 := W.2.2.2.2.2.2.2.1
  have b0 := be32_lt (l := sW A (5 * b + a)) (i := 0)
  have nb : ∀ {Q : Option Value → PzH → Prop}, pz_M (d + 1) mX6_number [.ref (lkA (5 * a + b) + 1), .int 0] h Q ↔ Q (some (.long (if 4 ≤ (sW A (5 * b + a)).length then lN (be32 (sW A (5 * b + a)) 0) else -1))) h := fun {Q} => by
    have := c_number (d := d) (Q := Q) (i := 0) W (by decide)
    rw [Nat.zero_add] at this
    exact this
  unfold whS
  by_cases q : sB A 24 (5 * a + b) = 0
  · simp only [enX3_wholeSize, uX3_wholeSize_0, uX3_wholeSize_3, uX3_wholeSize_4, uX3_wholeSize_4o, uX3_wholeSize_4f, uX3_wholeSize_5, uX3_wholeSize_8, uX3_wholeSize_11, uX3_wholeSize_11o, uX3_wholeSize_11f, uX3_wholeSize_12, uX3_wholeSize_15, uX3_wholeSize_16, uX3_wholeSize_19, uX3_wholeSize_20, uX3_wholeSize_21, uX3_wholeSize_24, uX3_wholeSize_25, uX3_wholeSize_28, uX3_wholeSize_31, uX3_wholeSize_34, uX3_wholeSize_37, uX3_wholeSize_38, uX3_wholeSize_39, uX3_wholeSize_40, uX3_wholeSize_41, uX3_wholeSize_44, uX3_wholeSize_45, uX3_wholeSize_48, uX3_wholeSize_49, uX3_wholeSize_50, uX3_wholeSize_51, uX3_wholeSize_51o, uX3_wholeSize_51f, uX3_wholeSize_52, uX3_wholeSize_55, uX3_wholeSize_58, uX3_wholeSize_59, uX3_wholeSize_60, uX3_wholeSize_63, uX3_wholeSize_64, uX3_wholeSize_67, uX3_wholeSize_68, uX3_wholeSize_69, pq_C_sI, pq_C_sJ, pq_C_sR, pq_C_sA, pq_L_sI, pq_L_sJ, pq_L_sR, pq_L_sA, pq_I_sI, pq_I_sJ, pq_I_sR, pq_I_sA, pq_J_sI, pq_J_sJ, pq_J_sR, pq_J_sA, pq_R_sI, pq_R_sJ, pq_R_sR, pq_R_sA, pq_N_sI, pq_N_sJ, pq_N_sR, pq_N_sA, pq_S_sI, pq_S_sJ, pq_S_sR, pq_S_sA, pz_rf_s, pz_cut_i, pz_cut_r, pz_cut_n, pz_cut_f, pz_cut_u, pz_cut_o, true_and, and_true, true_or, or_true, Option.toList_some, Option.toList_none, List.cons_append, List.nil_append, Nat.add_left_cancel_iff, Nat.left_eq_add, Nat.add_eq_left, Nat.reduceEqDiff, if_true, if_false, ite_true, ite_false, false_and, and_false, false_or, or_false, reduceIte, reduceCtorEq, and_self, z_4, z_5, z_7, z_8, z_10, z_16, z_20, z_64, not_false_eq_true, k1, k2, r4, q, W1, c_size W, lg_cmp_le, nI_l (show (sW A (5 * b + a)).length < 2 ^ 31 by omega), show (68 : Int64) = lN 68 from rfl, lN_i]
    by_cases q2 : 68 ≤ (sW A (5 * b + a)).length
    · rw [if_pos ((pk_lLE (by decide) (by omega)).mpr q2), if_pos q2]
      rfl
    · rw [if_neg (fun z => q2 ((pk_lLE (by decide) (by omega)).mp z)), if_neg q2]
      rfl
  · simp only [enX3_wholeSize, uX3_wholeSize_0, uX3_wholeSize_3, uX3_wholeSize_4, uX3_wholeSize_4o, uX3_wholeSize_4f, uX3_wholeSize_5, uX3_wholeSize_8, uX3_wholeSize_11, uX3_wholeSize_11o, uX3_wholeSize_11f, uX3_wholeSize_12, uX3_wholeSize_15, uX3_wholeSize_16, uX3_wholeSize_19, uX3_wholeSize_20, uX3_wholeSize_21, uX3_wholeSize_24, uX3_wholeSize_25, uX3_wholeSize_28, uX3_wholeSize_31, uX3_wholeSize_34, uX3_wholeSize_37, uX3_wholeSize_38, uX3_wholeSize_39, uX3_wholeSize_40, uX3_wholeSize_41, uX3_wholeSize_44, uX3_wholeSize_45, uX3_wholeSize_48, uX3_wholeSize_49, uX3_wholeSize_50, uX3_wholeSize_51, uX3_wholeSize_51o, uX3_wholeSize_51f, uX3_wholeSize_52, uX3_wholeSize_55, uX3_wholeSize_58, uX3_wholeSize_59, uX3_wholeSize_60, uX3_wholeSize_63, uX3_wholeSize_64, uX3_wholeSize_67, uX3_wholeSize_68, uX3_wholeSize_69, pq_C_sI, pq_C_sJ, pq_C_sR, pq_C_sA, pq_L_sI, pq_L_sJ, pq_L_sR, pq_L_sA, pq_I_sI, pq_I_sJ, pq_I_sR, pq_I_sA, pq_J_sI, pq_J_sJ, pq_J_sR, pq_J_sA, pq_R_sI, pq_R_sJ, pq_R_sR, pq_R_sA, pq_N_sI, pq_N_sJ, pq_N_sR, pq_N_sA, pq_S_sI, pq_S_sJ, pq_S_sR, pq_S_sA, pz_rf_s, pz_cut_i, pz_cut_r, pz_cut_n, pz_cut_f, pz_cut_u, pz_cut_o, true_and, and_true, true_or, or_true, Option.toList_some, Option.toList_none, List.cons_append, List.nil_append, Nat.add_left_cancel_iff, Nat.left_eq_add, Nat.add_eq_left, Nat.reduceEqDiff, if_true, if_false, ite_true, ite_false, false_and, and_false, false_or, or_false, reduceIte, reduceCtorEq, and_self, z_4, z_5, z_7, z_8, z_10, z_16, z_20, z_64, not_false_eq_true, k1, k2, r4, q, W1, nb, c_size W, lg_cmp_le, lg_cmp_eq, nI_l (show (sW A (5 * b + a)).length < 2 ^ 31 by omega), show (100 : Int64) = lN 100 from rfl, show (4 : Int64) = lN 4 from rfl]
    by_cases q2 : 4 ≤ (sW A (5 * b + a)).length
    · simp only [q2, if_true]
      have nm1 : ∀ n, n < 2 ^ 32 → ¬ lN n = -1 := fun n hn z => by
        have z1 := congrArg Int64.toInt z
        rw [pf_lI (by omega)] at z1
        have : (-1 : Int64).toInt = -1 := by decide
        omega
      by_cases q3 : 100 < be32 (sW A (5 * b + a)) 0
      · rw [if_neg (fun z => absurd ((pk_lLE (by omega) (by decide)).mp z) (by omega)), if_pos q3]
        simp only [nm1 _ b0, not_false_eq_true, if_true]
        rw [if_pos ((pk_lLE (by decide) (by omega)).mpr q2)]
        simp only [lN_i]
        rfl
      · rw [if_pos ((pk_lLE (by omega) (by decide)).mpr (by omega)), if_neg q3]
        simp only [nm1 _ b0, not_false_eq_true, if_true, lN_add]
        by_cases q4 : 4 + be32 (sW A (5 * b + a)) 0 ≤ (sW A (5 * b + a)).length
        · rw [if_pos ((pk_lLE (by omega) (by omega)).mpr q4), if_pos q4]
          simp only [lN_i]
          rfl
        · rw [if_neg (fun z => q4 ((pk_lLE (by omega) (by omega)).mp z)), if_neg q4]
          rfl
    · simp only [q2, if_false]
      rw [if_pos (show (-1 : Int64) ≤ lN 100 by decide)]
      rfl
theorem c_isLengthOf (R : RC h A) (T : TN A l c p) {w n : Nat} (hw : w ≤ 8) (hn : n < 2 ^ 20) : pz_M (d + 3) mX0_isLengthOf [.ref 132, .int (nI w), .int (nI n)] h Q ↔ Q (some (.int (if szdB w n p = true then 1 else 0))) h := by
  obtain ⟨a1, a2, a3, a4, a5, a6, a7, a8⟩ := ACT_of R
  obtain ⟨t, ht, tr, tc, TT⟩ := TS_of R
  have n1 := R.1.2.2.2.2.2.1.1
  have t6 := T.2.2.2.2.2.1
  have neq : ∀ {a b : Nat}, a < 2 ^ 31 → b < 2 ^ 31 → a ≠ b → ¬ nI a = nI b := fun ha hb q z => q ((nI_eq ha hb).mp z)
  have hc : w = 0 ∨ w = 1 ∨ w = 2 ∨ w = 3 ∨ w = 4 ∨ w = 5 ∨ w = 6 ∨ w = 7 ∨ w = 8 := by omega
  rw [enX0_isLengthOf, uX0_isLengthOf_0, uX0_isLengthOf_1]
  have one : ∀ k : Int32, pz_sw 1 101 4 8 #[35, 46, 68, 92, 80] k = 102 → (wp (d + 2) mX0_isLengthOf (pz_sw 1 101 4 8 #[35, 46, 68, 92, 80] k) [.ref 132, .int k, .int (nI n)] [] h Q ↔ Q (some (.int (if n = 1 then 1 else 0))) h) := by
    intro k ek
    rw [ek]
    simp only [enX0_isLengthOf, uX0_isLengthOf_0, uX0_isLengthOf_1, uX0_isLengthOf_36, uX0_isLengthOf_37, uX0_isLengthOf_38, uX0_isLengthOf_41, uX0_isLengthOf_42, uX0_isLengthOf_45, uX0_isLengthOf_46, uX0_isLengthOf_47, uX0_isLengthOf_48, uX0_isLengthOf_49, uX0_isLengthOf_49o, uX0_isLengthOf_49f, uX0_isLengthOf_50, uX0_isLengthOf_53, uX0_isLengthOf_56, uX0_isLengthOf_59, uX0_isLengthOf_60, uX0_isLengthOf_63, uX0_isLengthOf_64, uX0_isLengthOf_67, uX0_isLengthOf_68, uX0_isLengthOf_69, uX0_isLengthOf_70, uX0_isLengthOf_72, uX0_isLengthOf_75, uX0_isLengthOf_76, uX0_isLengthOf_79, uX0_isLengthOf_80, uX0_isLengthOf_81, uX0_isLengthOf_82, uX0_isLengthOf_84, uX0_isLengthOf_87, uX0_isLengthOf_88, uX0_isLengthOf_91, uX0_isLengthOf_92, uX0_isLengthOf_93, uX0_isLengthOf_94, uX0_isLengthOf_96, uX0_isLengthOf_98, uX0_isLengthOf_101, uX0_isLengthOf_102, uX0_isLengthOf_103, uX0_isLengthOf_104, uX0_isLengthOf_107, uX0_isLengthOf_108, uX0_isLengthOf_111, uX0_isLengthOf_112, pq_C_sI, pq_C_sJ, pq_C_sR, pq_C_sA, pq_L_sI, pq_L_sJ, pq_L_sR, pq_L_sA, pq_I_sI, pq_I_sJ, pq_I_sR, pq_I_sA, pq_J_sI, pq_J_sJ, pq_J_sR, pq_J_sA, pq_R_sI, pq_R_sJ, pq_R_sR, pq_R_sA, pq_N_sI, pq_N_sJ, pq_N_sR, pq_N_sA, pq_S_sI, pq_S_sJ, pq_S_sR, pq_S_sA, pz_rf_s, pz_cut_i, pz_cut_r, pz_cut_n, pz_cut_f, pz_cut_u, pz_cut_o, true_and, and_true, true_or, or_true, Option.toList_some, Option.toList_none, List.cons_append, List.nil_append, Nat.add_left_cancel_iff, Nat.left_eq_add, Nat.add_eq_left, Nat.reduceEqDiff, if_true, if_false, ite_true, ite_false, false_and, and_false, false_or, or_false, reduceIte, reduceCtorEq, and_self, z_4, z_5, z_7, z_8, z_10, z_16, z_20, z_64, not_false_eq_true]
    by_cases q : n = 1
    · rw [if_neg (fun z => z (by rw [q]; rfl)), if_pos q]
    · rw [if_pos (show ¬ nI n = 1 from neq (b := 1) (by omega) (by decide) q), if_neg q]
  have thir : ∀ {Q : Option Value → PzH → Prop} {pc : Nat} {k : Int32}, (pc = 69 ∨ pc = 81) → (wp (d + 2) mX0_isLengthOf pc [.ref 132, .int k, .int (nI n)] [] h Q ↔ Q (some (.int (if n = 13 then 1 else 0))) h) := by
    intro Q pc k hpc
    rcases hpc with rfl | rfl
    · simp only [enX0_isLengthOf, uX0_isLengthOf_0, uX0_isLengthOf_1, uX0_isLengthOf_36, uX0_isLengthOf_37, uX0_isLengthOf_38, uX0_isLengthOf_41, uX0_isLengthOf_42, uX0_isLengthOf_45, uX0_isLengthOf_46, uX0_isLengthOf_47, uX0_isLengthOf_48, uX0_isLengthOf_49, uX0_isLengthOf_49o, uX0_isLengthOf_49f, uX0_isLengthOf_50, uX0_isLengthOf_53, uX0_isLengthOf_56, uX0_isLengthOf_59, uX0_isLengthOf_60, uX0_isLengthOf_63, uX0_isLengthOf_64, uX0_isLengthOf_67, uX0_isLengthOf_68, uX0_isLengthOf_69, uX0_isLengthOf_70, uX0_isLengthOf_72, uX0_isLengthOf_75, uX0_isLengthOf_76, uX0_isLengthOf_79, uX0_isLengthOf_80, uX0_isLengthOf_81, uX0_isLengthOf_82, uX0_isLengthOf_84, uX0_isLengthOf_87, uX0_isLengthOf_88, uX0_isLengthOf_91, uX0_isLengthOf_92, uX0_isLengthOf_93, uX0_isLengthOf_94, uX0_isLengthOf_96, uX0_isLengthOf_98, uX0_isLengthOf_101, uX0_isLengthOf_102, uX0_isLengthOf_103, uX0_isLengthOf_104, uX0_isLengthOf_107, uX0_isLengthOf_108, uX0_isLengthOf_111, uX0_isLengthOf_112, pq_C_sI, pq_C_sJ, pq_C_sR, pq_C_sA, pq_L_sI, pq_L_sJ, pq_L_sR, pq_L_sA, pq_I_sI, pq_I_sJ, pq_I_sR, pq_I_sA, pq_J_sI, pq_J_sJ, pq_J_sR, pq_J_sA, pq_R_sI, pq_R_sJ, pq_R_sR, pq_R_sA, pq_N_sI, pq_N_sJ, pq_N_sR, pq_N_sA, pq_S_sI, pq_S_sJ, pq_S_sR, pq_S_sA, pz_rf_s, pz_cut_i, pz_cut_r, pz_cut_n, pz_cut_f, pz_cut_u, pz_cut_o, true_and, and_true, true_or, or_true, Option.toList_some, Option.toList_none, List.cons_append, List.nil_append, Nat.add_left_cancel_iff, Nat.left_eq_add, Nat.add_eq_left, Nat.reduceEqDiff, if_true, if_false, ite_true, ite_false, false_and, and_false, false_or, or_false, reduceIte, reduceCtorEq, and_self, z_4, z_5, z_7, z_8, z_10, z_16, z_20, z_64, not_false_eq_true]
      by_cases q : n = 13
      · rw [if_neg (fun z => z (by rw [q]; rfl)), if_pos q]
      · rw [if_pos (show ¬ nI n = 13 from neq (b := 13) (by omega) (by decide) q), if_neg q]
    · simp only [enX0_isLengthOf, uX0_isLengthOf_0, uX0_isLengthOf_1, uX0_isLengthOf_36, uX0_isLengthOf_37, uX0_isLengthOf_38, uX0_isLengthOf_41, uX0_isLengthOf_42, uX0_isLengthOf_45, uX0_isLengthOf_46, uX0_isLengthOf_47, uX0_isLengthOf_48, uX0_isLengthOf_49, uX0_isLengthOf_49o, uX0_isLengthOf_49f, uX0_isLengthOf_50, uX0_isLengthOf_53, uX0_isLengthOf_56, uX0_isLengthOf_59, uX0_isLengthOf_60, uX0_isLengthOf_63, uX0_isLengthOf_64, uX0_isLengthOf_67, uX0_isLengthOf_68, uX0_isLengthOf_69, uX0_isLengthOf_70, uX0_isLengthOf_72, uX0_isLengthOf_75, uX0_isLengthOf_76, uX0_isLengthOf_79, uX0_isLengthOf_80, uX0_isLengthOf_81, uX0_isLengthOf_82, uX0_isLengthOf_84, uX0_isLengthOf_87, uX0_isLengthOf_88, uX0_isLengthOf_91, uX0_isLengthOf_92, uX0_isLengthOf_93, uX0_isLengthOf_94, uX0_isLengthOf_96, uX0_isLengthOf_98, uX0_isLengthOf_101, uX0_isLengthOf_102, uX0_isLengthOf_103, uX0_isLengthOf_104, uX0_isLengthOf_107, uX0_isLengthOf_108, uX0_isLengthOf_111, uX0_isLengthOf_112, pq_C_sI, pq_C_sJ, pq_C_sR, pq_C_sA, pq_L_sI, pq_L_sJ, pq_L_sR, pq_L_sA, pq_I_sI, pq_I_sJ, pq_I_sR, pq_I_sA, pq_J_sI, pq_J_sJ, pq_J_sR, pq_J_sA, pq_R_sI, pq_R_sJ, pq_R_sR, pq_R_sA, pq_N_sI, pq_N_sJ, pq_N_sR, pq_N_sA, pq_S_sI, pq_S_sJ, pq_S_sR, pq_S_sA, pz_rf_s, pz_cut_i, pz_cut_r, pz_cut_n, pz_cut_f, pz_cut_u, pz_cut_o, true_and, and_true, true_or, or_true, Option.toList_some, Option.toList_none, List.cons_append, List.nil_append, Nat.add_left_cancel_iff, Nat.left_eq_add, Nat.add_eq_left, Nat.reduceEqDiff, if_true, if_false, ite_true, ite_false, false_and, and_false, false_or, or_false, reduceIte, reduceCtorEq, and_self, z_4, z_5, z_7, z_8, z_10, z_16, z_20, z_64, not_false_eq_true]
      by_cases q : n = 13
      · rw [if_neg (fun z => z (by rw [q]; rfl)), if_pos q]
      · rw [if_pos (show ¬ nI n = 13 from neq (b := 13) (by omega) (by decide) q), if_neg q]
  unfold szdB
  rcases hc with rfl | rfl | rfl | rfl | rfl | rfl | rfl | rfl | rfl
  · rw [one _ (by decide)]; simp
  · rw [one _ (by decide)]; simp
  · rw [one _ (by decide)]; simp
  · rw [one _ (by decide)]; simp
  · rw [show pz_sw 1 101 4 8 #[35, 46, 68, 92, 80] (nI 4) = 36 by decide]
    simp only [enX0_isLengthOf, uX0_isLengthOf_0, uX0_isLengthOf_1, uX0_isLengthOf_36, uX0_isLengthOf_37, uX0_isLengthOf_38, uX0_isLengthOf_41, uX0_isLengthOf_42, uX0_isLengthOf_45, uX0_isLengthOf_46, uX0_isLengthOf_47, uX0_isLengthOf_48, uX0_isLengthOf_49, uX0_isLengthOf_49o, uX0_isLengthOf_49f, uX0_isLengthOf_50, uX0_isLengthOf_53, uX0_isLengthOf_56, uX0_isLengthOf_59, uX0_isLengthOf_60, uX0_isLengthOf_63, uX0_isLengthOf_64, uX0_isLengthOf_67, uX0_isLengthOf_68, uX0_isLengthOf_69, uX0_isLengthOf_70, uX0_isLengthOf_72, uX0_isLengthOf_75, uX0_isLengthOf_76, uX0_isLengthOf_79, uX0_isLengthOf_80, uX0_isLengthOf_81, uX0_isLengthOf_82, uX0_isLengthOf_84, uX0_isLengthOf_87, uX0_isLengthOf_88, uX0_isLengthOf_91, uX0_isLengthOf_92, uX0_isLengthOf_93, uX0_isLengthOf_94, uX0_isLengthOf_96, uX0_isLengthOf_98, uX0_isLengthOf_101, uX0_isLengthOf_102, uX0_isLengthOf_103, uX0_isLengthOf_104, uX0_isLengthOf_107, uX0_isLengthOf_108, uX0_isLengthOf_111, uX0_isLengthOf_112, pq_C_sI, pq_C_sJ, pq_C_sR, pq_C_sA, pq_L_sI, pq_L_sJ, pq_L_sR, pq_L_sA, pq_I_sI, pq_I_sJ, pq_I_sR, pq_I_sA, pq_J_sI, pq_J_sJ, pq_J_sR, pq_J_sA, pq_R_sI, pq_R_sJ, pq_R_sR, pq_R_sA, pq_N_sI, pq_N_sJ, pq_N_sR, pq_N_sA, pq_S_sI, pq_S_sJ, pq_S_sR, pq_S_sA, pz_rf_s, pz_cut_i, pz_cut_r, pz_cut_n, pz_cut_f, pz_cut_u, pz_cut_o, true_and, and_true, true_or, or_true, Option.toList_some, Option.toList_none, List.cons_append, List.nil_append, Nat.add_left_cancel_iff, Nat.left_eq_add, Nat.add_eq_left, Nat.reduceEqDiff, if_true, if_false, ite_true, ite_false, false_and, and_false, false_or, or_false, reduceIte, reduceCtorEq, and_self, z_4, z_5, z_7, z_8, z_10, z_16, z_20, z_64, not_false_eq_true]
    by_cases q : n = 5
    · rw [if_neg (fun z => z (by rw [q]; rfl))]; simp [q]
    · rw [if_pos (show ¬ nI n = 5 from neq (b := 5) (by omega) (by decide) q)]; simp [q]
  · rw [show pz_sw 1 101 4 8 #[35, 46, 68, 92, 80] (nI 5) = 47 by decide]
    simp only [enX0_isLengthOf, uX0_isLengthOf_0, uX0_isLengthOf_1, uX0_isLengthOf_36, uX0_isLengthOf_37, uX0_isLengthOf_38, uX0_isLengthOf_41, uX0_isLengthOf_42, uX0_isLengthOf_45, uX0_isLengthOf_46, uX0_isLengthOf_47, uX0_isLengthOf_48, uX0_isLengthOf_49, uX0_isLengthOf_49o, uX0_isLengthOf_49f, uX0_isLengthOf_50, uX0_isLengthOf_53, uX0_isLengthOf_56, uX0_isLengthOf_59, uX0_isLengthOf_60, uX0_isLengthOf_63, uX0_isLengthOf_64, uX0_isLengthOf_67, uX0_isLengthOf_68, uX0_isLengthOf_69, uX0_isLengthOf_70, uX0_isLengthOf_72, uX0_isLengthOf_75, uX0_isLengthOf_76, uX0_isLengthOf_79, uX0_isLengthOf_80, uX0_isLengthOf_81, uX0_isLengthOf_82, uX0_isLengthOf_84, uX0_isLengthOf_87, uX0_isLengthOf_88, uX0_isLengthOf_91, uX0_isLengthOf_92, uX0_isLengthOf_93, uX0_isLengthOf_94, uX0_isLengthOf_96, uX0_isLengthOf_98, uX0_isLengthOf_101, uX0_isLengthOf_102, uX0_isLengthOf_103, uX0_isLengthOf_104, uX0_isLengthOf_107, uX0_isLengthOf_108, uX0_isLengthOf_111, uX0_isLengthOf_112, pq_C_sI, pq_C_sJ, pq_C_sR, pq_C_sA, pq_L_sI, pq_L_sJ, pq_L_sR, pq_L_sA, pq_I_sI, pq_I_sJ, pq_I_sR, pq_I_sA, pq_J_sI, pq_J_sJ, pq_J_sR, pq_J_sA, pq_R_sI, pq_R_sJ, pq_R_sR, pq_R_sA, pq_N_sI, pq_N_sJ, pq_N_sR, pq_N_sA, pq_S_sI, pq_S_sJ, pq_S_sR, pq_S_sA, pz_rf_s, pz_cut_i, pz_cut_r, pz_cut_n, pz_cut_f, pz_cut_u, pz_cut_o, true_and, and_true, true_or, or_true, Option.toList_some, Option.toList_none, List.cons_append, List.nil_append, Nat.add_left_cancel_iff, Nat.left_eq_add, Nat.add_eq_left, Nat.reduceEqDiff, if_true, if_false, ite_true, ite_false, false_and, and_false, false_or, or_false, reduceIte, reduceCtorEq, and_self, z_4, z_5, z_7, z_8, z_10, z_16, z_20, z_64, not_false_eq_true, a1, a2, n1, tr, tc, c_bitfieldBytes tc TT T, show (1 : Int32) + nI ((p + 7) / 8) = nI (1 + (p + 7) / 8) from nI_add 1 _]
    by_cases q : n = 1 + (p + 7) / 8
    · rw [if_neg (fun z => z (by rw [q]))]; simp [q]
    · rw [if_pos (neq (by omega) (by omega) q)]; simp [q]
  · rw [show pz_sw 1 101 4 8 #[35, 46, 68, 92, 80] (nI 6) = 69 by decide, thir (Or.inl rfl)]; simp
  · rw [show pz_sw 1 101 4 8 #[35, 46, 68, 92, 80] (nI 7) = 93 by decide]
    simp only [enX0_isLengthOf, uX0_isLengthOf_0, uX0_isLengthOf_1, uX0_isLengthOf_36, uX0_isLengthOf_37, uX0_isLengthOf_38, uX0_isLengthOf_41, uX0_isLengthOf_42, uX0_isLengthOf_45, uX0_isLengthOf_46, uX0_isLengthOf_47, uX0_isLengthOf_48, uX0_isLengthOf_49, uX0_isLengthOf_49o, uX0_isLengthOf_49f, uX0_isLengthOf_50, uX0_isLengthOf_53, uX0_isLengthOf_56, uX0_isLengthOf_59, uX0_isLengthOf_60, uX0_isLengthOf_63, uX0_isLengthOf_64, uX0_isLengthOf_67, uX0_isLengthOf_68, uX0_isLengthOf_69, uX0_isLengthOf_70, uX0_isLengthOf_72, uX0_isLengthOf_75, uX0_isLengthOf_76, uX0_isLengthOf_79, uX0_isLengthOf_80, uX0_isLengthOf_81, uX0_isLengthOf_82, uX0_isLengthOf_84, uX0_isLengthOf_87, uX0_isLengthOf_88, uX0_isLengthOf_91, uX0_isLengthOf_92, uX0_isLengthOf_93, uX0_isLengthOf_94, uX0_isLengthOf_96, uX0_isLengthOf_98, uX0_isLengthOf_101, uX0_isLengthOf_102, uX0_isLengthOf_103, uX0_isLengthOf_104, uX0_isLengthOf_107, uX0_isLengthOf_108, uX0_isLengthOf_111, uX0_isLengthOf_112, pq_C_sI, pq_C_sJ, pq_C_sR, pq_C_sA, pq_L_sI, pq_L_sJ, pq_L_sR, pq_L_sA, pq_I_sI, pq_I_sJ, pq_I_sR, pq_I_sA, pq_J_sI, pq_J_sJ, pq_J_sR, pq_J_sA, pq_R_sI, pq_R_sJ, pq_R_sR, pq_R_sA, pq_N_sI, pq_N_sJ, pq_N_sR, pq_N_sA, pq_S_sI, pq_S_sJ, pq_S_sR, pq_S_sA, pz_rf_s, pz_cut_i, pz_cut_r, pz_cut_n, pz_cut_f, pz_cut_u, pz_cut_o, true_and, and_true, true_or, or_true, Option.toList_some, Option.toList_none, List.cons_append, List.nil_append, Nat.add_left_cancel_iff, Nat.left_eq_add, Nat.add_eq_left, Nat.reduceEqDiff, if_true, if_false, ite_true, ite_false, false_and, and_false, false_or, or_false, reduceIte, reduceCtorEq, and_self, z_4, z_5, z_7, z_8, z_10, z_16, z_20, z_64, not_false_eq_true, c_isWithin]
    have e : (10 ≤ nI n ∧ nI n ≤ 73) ↔ (10 ≤ n ∧ n ≤ 73) := by
      have e1 := nI_leI (a := 10) (b := n) (by decide) (by omega)
      have e2 := nI_leI (a := n) (b := 73) (by omega) (by decide)
      exact ⟨fun z => ⟨e1.mp z.1, e2.mp z.2⟩, fun z => ⟨e1.mpr z.1, e2.mpr z.2⟩⟩
    by_cases q : 10 ≤ n ∧ n ≤ 73
    · rw [if_pos (e.mpr q)]; simp [q]
    · rw [if_neg (fun z => q (e.mp z))]; simp [q]
  · rw [show pz_sw 1 101 4 8 #[35, 46, 68, 92, 80] (nI 8) = 81 by decide, thir (Or.inr rfl)]; simp
theorem c_kindH (R : RC h A) {a b : Nat} (ha : a < 5) (hb : b < 5) (hab : a ≠ b) (q : sB A 24 (5 * a + b) = 0) : pz_M (d + 2) mX0_kindFor [.ref 132, .ref (lkA (5 * a + b))] h Q ↔ Q (some (.int 10)) h := by
  obtain ⟨⟨k1, k2, k3, k4, k5⟩, L⟩ := LN_of R ha hb hab
  have r4 := L.2.2.2.1
  simp only [enX0_kindFor, uX0_kindFor_0, uX0_kindFor_0o, uX0_kindFor_0f, uX0_kindFor_1, uX0_kindFor_4, uX0_kindFor_7, uX0_kindFor_9, uX0_kindFor_10, uX0_kindFor_10o, uX0_kindFor_10f, uX0_kindFor_11, uX0_kindFor_14, uX0_kindFor_15, uX0_kindFor_18, uX0_kindFor_19, uX0_kindFor_20, uX0_kindFor_23, uX0_kindFor_24, uX0_kindFor_27, uX0_kindFor_29, uX0_kindFor_30, uX0_kindFor_31, uX0_kindFor_32, uX0_kindFor_33, uX0_kindFor_36, uX0_kindFor_38, uX0_kindFor_39, uX0_kindFor_39o, uX0_kindFor_39f, uX0_kindFor_40, uX0_kindFor_43, uX0_kindFor_44, uX0_kindFor_47, uX0_kindFor_49, uX0_kindFor_52, uX0_kindFor_54, uX0_kindFor_57, uX0_kindFor_57o, uX0_kindFor_57f, uX0_kindFor_58, uX0_kindFor_61, uX0_kindFor_62, uX0_kindFor_65, pq_C_sI, pq_C_sJ, pq_C_sR, pq_C_sA, pq_L_sI, pq_L_sJ, pq_L_sR, pq_L_sA, pq_I_sI, pq_I_sJ, pq_I_sR, pq_I_sA, pq_J_sI, pq_J_sJ, pq_J_sR, pq_J_sA, pq_R_sI, pq_R_sJ, pq_R_sR, pq_R_sA, pq_N_sI, pq_N_sJ, pq_N_sR, pq_N_sA, pq_S_sI, pq_S_sJ, pq_S_sR, pq_S_sA, pz_rf_s, pz_cut_i, pz_cut_r, pz_cut_n, pz_cut_f, pz_cut_u, pz_cut_o, true_and, and_true, true_or, or_true, Option.toList_some, Option.toList_none, List.cons_append, List.nil_append, Nat.add_left_cancel_iff, Nat.left_eq_add, Nat.add_eq_left, Nat.reduceEqDiff, if_true, if_false, ite_true, ite_false, false_and, and_false, false_or, or_false, reduceIte, reduceCtorEq, and_self, z_4, z_5, z_7, z_8, z_10, z_16, z_20, z_64, not_false_eq_true, k1, r4, q, not_true_eq_false]
theorem c_kindM (R : RC h A) {a b : Nat} {w : List Int8} (ha : a < 5) (hb : b < 5) (hab : a ≠ b) (q : ¬ sB A 24 (5 * a + b) = 0) (M : ROW h 133 134 104 w) (hl : 4 ≤ w.length) (hl2 : be32 w 0 = 0 ∨ 100 < be32 w 0 ∨ 5 ≤ w.length) : pz_M (d + 2) mX0_kindFor [.ref 132, .ref (lkA (5 * a + b))] h Q ↔ Q (some (.int (if 100 < be32 w 0 then 12 else if be32 w 0 = 0 then 9 else if 8 < ub (w.getD 4 0) then 11 else nI (ub (w.getD 4 0))))) h := by
  obtain ⟨a1, a2, a3, a4, a5, a6, a7, a8⟩ := ACT_of R
  obtain ⟨⟨k1, k2, k3, k4, k5⟩, L⟩ := LN_of R ha hb hab
  have r4 := L.2.2.2.1
  have M1 := M.1
  have w8 := M.2.2.2.2.2.2.2.1
  have b0 := be32_lt (l := w) (i := 0)
  have nb : ∀ {Q : Option Value → PzH → Prop}, pz_M (d + 1) mX6_number [.ref 133, .int 0] h Q ↔ Q (some (.long (lN (be32 w 0)))) h := fun {Q} => by
    have := c_number (d := d) (Q := Q) (i := 0) M (by decide)
    rw [if_pos (by omega)] at this
    exact this
  simp only [enX0_kindFor, uX0_kindFor_0, uX0_kindFor_0o, uX0_kindFor_0f, uX0_kindFor_1, uX0_kindFor_4, uX0_kindFor_7, uX0_kindFor_9, uX0_kindFor_10, uX0_kindFor_10o, uX0_kindFor_10f, uX0_kindFor_11, uX0_kindFor_14, uX0_kindFor_15, uX0_kindFor_18, uX0_kindFor_19, uX0_kindFor_20, uX0_kindFor_23, uX0_kindFor_24, uX0_kindFor_27, uX0_kindFor_29, uX0_kindFor_30, uX0_kindFor_31, uX0_kindFor_32, uX0_kindFor_33, uX0_kindFor_36, uX0_kindFor_38, uX0_kindFor_39, uX0_kindFor_39o, uX0_kindFor_39f, uX0_kindFor_40, uX0_kindFor_43, uX0_kindFor_44, uX0_kindFor_47, uX0_kindFor_49, uX0_kindFor_52, uX0_kindFor_54, uX0_kindFor_57, uX0_kindFor_57o, uX0_kindFor_57f, uX0_kindFor_58, uX0_kindFor_61, uX0_kindFor_62, uX0_kindFor_65, pq_C_sI, pq_C_sJ, pq_C_sR, pq_C_sA, pq_L_sI, pq_L_sJ, pq_L_sR, pq_L_sA, pq_I_sI, pq_I_sJ, pq_I_sR, pq_I_sA, pq_J_sI, pq_J_sJ, pq_J_sR, pq_J_sA, pq_R_sI, pq_R_sJ, pq_R_sR, pq_R_sA, pq_N_sI, pq_N_sJ, pq_N_sR, pq_N_sA, pq_S_sI, pq_S_sJ, pq_S_sR, pq_S_sA, pz_rf_s, pz_cut_i, pz_cut_r, pz_cut_n, pz_cut_f, pz_cut_u, pz_cut_o, true_and, and_true, true_or, or_true, Option.toList_some, Option.toList_none, List.cons_append, List.nil_append, Nat.add_left_cancel_iff, Nat.left_eq_add, Nat.add_eq_left, Nat.reduceEqDiff, if_true, if_false, ite_true, ite_false, false_and, and_false, false_or, or_false, reduceIte, reduceCtorEq, and_self, z_4, z_5, z_7, z_8, z_10, z_16, z_20, z_64, not_false_eq_true, k1, r4, q, a1, a4, M1, nb, lg_cmp_le, lg_cmp_eq, show (100 : Int64) = lN 100 from rfl, show (0 : Int64) = lN 0 from rfl, c_at M]
  by_cases q1 : 100 < be32 w 0
  · rw [if_neg (fun z => absurd ((pk_lLE (by omega) (by decide)).mp z) (by omega)), if_pos q1]
  · rw [if_pos ((pk_lLE (by omega) (by decide)).mpr (by omega)), if_neg q1]
    by_cases q2 : be32 w 0 = 0
    · rw [if_neg (fun z => z (by rw [q2])), if_pos q2]
    · rw [if_pos (show ¬ lN (be32 w 0) = lN 0 from fun z => q2 ((pk_lEQ (by omega) (by decide)).mp z)), if_neg q2]
      have h5 : 5 ≤ w.length := by omega
      have hu := ub_lt (w.getD 4 0)
      rw [show atL w 4 = nI (ub (w.getD 4 0)) from at_i (i := 4) (by omega) (by omega)]
      by_cases q3 : 8 < ub (w.getD 4 0)
      · rw [if_neg (show ¬ nI (ub (w.getD 4 0)) ≤ 8 from nI_ge (a := 8) q3 (by omega)), if_pos q3]
      · rw [if_pos (show nI (ub (w.getD 4 0)) ≤ 8 from nI_le (b := 8) (by omega) (by decide)), if_neg q3]
end
