/-! ===== the class: heedRequest, heedBitfield ===== -/
section
variable {d : Nat} {h : PzH} {Q : Option Value → PzH → Prop} {A : St} {l c p : Nat}
theorem c_heedRequest (R : RC h A) (I : OI A l c p) {a b : Nat} {w m : List Int8} (ha : a < 4) (hb : b < 5) (hab : a ≠ b) (hj : sB A 23 (5 * a + b) ≠ 0) (M : ROW h 133 134 104 (w ++ m)) (hw : w.length = 4) (hm : m.length = 13) (K : ∀ h', HC h h' → RC h' (reqC A a b l c p m).2 → Q (some (.int (reqC A a b l c p m).1)) h') : pz_M (d + 5) mX0_heedRequest [.ref 132, .ref (36 + 4 * a), .ref (lkA (5 * a + b))] h Q := by
  obtain ⟨a1, a2, a3, a4, a5, a6, a7, a8⟩ := ACT_of R
  obtain ⟨⟨k1, k2, k3, k4, k5⟩, L⟩ := LN_of R (show a < 5 by omega) hb hab
  obtain ⟨CK, CRa⟩ := CL_of R ha
  obtain ⟨t, ht, tr, tc, T⟩ := TS_of R
  have hth : sB A 18 a ≠ 0 := by
    rcases ((I.2.1 a b (by omega) hb).1 hj).2.1 with z | z
    · omega
    · exact z
  have hj2 := ((I.2.1 a b (by omega) hb).1 hj).2.2
  obtain ⟨rd, bits, _⟩ := CRa.2.2 hth
  have n1 := R.1.2.2.2.2.2.1.1
  have t6 := I.1.1.2.2.2.2.2.1
  have t5 := I.1.1.2.2.2.2.1
  have t4 := I.1.1.2.2.2.1
  have M1 := M.1
  have hl : (w ++ m).length = 17 := by rw [List.length_append]; omega
  have b1 := be32_lt (l := m) (i := 1)
  have b5 := be32_lt (l := m) (i := 5)
  have b9 := be32_lt (l := m) (i := 9)
  have nb : ∀ (i : Nat), i + 4 ≤ 13 → ∀ {Q : Option Value → PzH → Prop}, pz_M (d + 4) mX6_number [.ref 133, .int (nI (4 + i))] h Q ↔ Q (some (.long (lN (be32 m i)))) h := fun i hi {Q} => by
    have := c_number (d := d + 3) (Q := Q) (i := 4 + i) M (by omega)
    rw [if_pos (by omega), be32_4 hw] at this
    exact this
  have n5 : ∀ {Q : Option Value → PzH → Prop}, pz_M (d + 4) mX6_number [.ref 133, .int 5] h Q ↔ Q (some (.long (lN (be32 m 1)))) h := fun {Q} => nb 1 (by decide)
  have n9 : ∀ {Q : Option Value → PzH → Prop}, pz_M (d + 4) mX6_number [.ref 133, .int 9] h Q ↔ Q (some (.long (lN (be32 m 5)))) h := fun {Q} => nb 5 (by decide)
  have n13 : ∀ {Q : Option Value → PzH → Prop}, pz_M (d + 4) mX6_number [.ref 133, .int 13] h Q ↔ Q (some (.long (lN (be32 m 9)))) h := fun {Q} => nb 9 (by decide)
  have r6 := L.2.2.2.2.2.1
  rw [if_neg hj] at r6
  simp only [enX0_heedRequest, uX0_heedRequest_0, uX0_heedRequest_0o, uX0_heedRequest_0f, uX0_heedRequest_1, uX0_heedRequest_4, uX0_heedRequest_5, uX0_heedRequest_8, uX0_heedRequest_9, uX0_heedRequest_9o, uX0_heedRequest_9f, uX0_heedRequest_10, uX0_heedRequest_13, uX0_heedRequest_15, uX0_heedRequest_18, uX0_heedRequest_20, uX0_heedRequest_20o, uX0_heedRequest_20f, uX0_heedRequest_21, uX0_heedRequest_24, uX0_heedRequest_26, uX0_heedRequest_29, uX0_heedRequest_31, uX0_heedRequest_31o, uX0_heedRequest_31f, uX0_heedRequest_32, uX0_heedRequest_35, uX0_heedRequest_38, uX0_heedRequest_39, uX0_heedRequest_42, uX0_heedRequest_45, uX0_heedRequest_47, uX0_heedRequest_48, uX0_heedRequest_49, uX0_heedRequest_52, uX0_heedRequest_54, uX0_heedRequest_57, uX0_heedRequest_58, uX0_heedRequest_61, uX0_heedRequest_63, uX0_heedRequest_65, uX0_heedRequest_66, uX0_heedRequest_66o, uX0_heedRequest_66f, uX0_heedRequest_67, uX0_heedRequest_70, uX0_heedRequest_73, uX0_heedRequest_74, uX0_heedRequest_75, uX0_heedRequest_78, uX0_heedRequest_79, uX0_heedRequest_80, uX0_heedRequest_83, uX0_heedRequest_85, uX0_heedRequest_86, uX0_heedRequest_86o, uX0_heedRequest_86f, uX0_heedRequest_87, uX0_heedRequest_90, uX0_heedRequest_93, uX0_heedRequest_93o, uX0_heedRequest_93f, uX0_heedRequest_94, uX0_heedRequest_95, uX0_heedRequest_96, uX0_heedRequest_99, uX0_heedRequest_102, uX0_heedRequest_102o, uX0_heedRequest_102f, uX0_heedRequest_103, uX0_heedRequest_103o, uX0_heedRequest_103f, uX0_heedRequest_104, uX0_heedRequest_105, uX0_heedRequest_106, uX0_heedRequest_108, uX0_heedRequest_109, uX0_heedRequest_111, uX0_heedRequest_112, uX0_heedRequest_115, uX0_heedRequest_115o, uX0_heedRequest_115f, uX0_heedRequest_116, uX0_heedRequest_117, uX0_heedRequest_120, uX0_heedRequest_121, uX0_heedRequest_122, uX0_heedRequest_125, uX0_heedRequest_125o, uX0_heedRequest_125f, uX0_heedRequest_126, uX0_heedRequest_129, uX0_heedRequest_129o, uX0_heedRequest_129f, uX0_heedRequest_130, uX0_heedRequest_130o, uX0_heedRequest_130f, uX0_heedRequest_131, uX0_heedRequest_134, uX0_heedRequest_137, uX0_heedRequest_138, pq_C_sI, pq_C_sJ, pq_C_sR, pq_C_sA, pq_L_sI, pq_L_sJ, pq_L_sR, pq_L_sA, pq_I_sI, pq_I_sJ, pq_I_sR, pq_I_sA, pq_J_sI, pq_J_sJ, pq_J_sR, pq_J_sA, pq_R_sI, pq_R_sJ, pq_R_sR, pq_R_sA, pq_N_sI, pq_N_sJ, pq_N_sR, pq_N_sA, pq_S_sI, pq_S_sJ, pq_S_sR, pq_S_sA, pz_rf_s, pz_cut_i, pz_cut_r, pz_cut_n, pz_cut_f, pz_cut_u, pz_cut_o, true_and, and_true, true_or, or_true, Option.toList_some, Option.toList_none, List.cons_append, List.nil_append, Nat.add_left_cancel_iff, Nat.left_eq_add, Nat.add_eq_left, Nat.reduceEqDiff, if_true, if_false, ite_true, ite_false, false_and, and_false, false_or, or_false, reduceIte, reduceCtorEq, and_self, z_4, z_5, z_7, z_8, z_10, z_16, z_20, z_64, not_false_eq_true, a1, a2, a4, n1, tr, tc, M1, n5, n9, n13, c_isPiece tc T I.1.1 (show be32 m 1 < 2 ^ 63 by omega), k1, lN_i, lg_cmp_lt, lg_cmp_gt, lg_cmp_le, show (1 : Int64) = lN 1 from rfl, show (64 : Int64) = lN 64 from rfl]
  unfold reqC at K
  by_cases q1 : be32 m 1 < p
  · simp only [q1, if_true, show ¬ (1 : Int32) = 0 by decide, if_false]
    by_cases q2 : 1 ≤ be32 m 9
    · rw [if_neg (fun z => absurd ((pk_lLT (by omega) (by decide)).mp z) (by omega))]
      by_cases q3 : be32 m 9 ≤ 64
      · rw [if_neg (fun z => absurd ((pk_lLT (by decide) (by omega)).mp z) (by omega))]
        obtain ⟨u1, u2, u3, u4⟩ := TN_i I.1.1 q1
        rw [c_pieceSize tc T I.1.1 q1]
        simp only [enX0_heedRequest, uX0_heedRequest_0, uX0_heedRequest_0o, uX0_heedRequest_0f, uX0_heedRequest_1, uX0_heedRequest_4, uX0_heedRequest_5, uX0_heedRequest_8, uX0_heedRequest_9, uX0_heedRequest_9o, uX0_heedRequest_9f, uX0_heedRequest_10, uX0_heedRequest_13, uX0_heedRequest_15, uX0_heedRequest_18, uX0_heedRequest_20, uX0_heedRequest_20o, uX0_heedRequest_20f, uX0_heedRequest_21, uX0_heedRequest_24, uX0_heedRequest_26, uX0_heedRequest_29, uX0_heedRequest_31, uX0_heedRequest_31o, uX0_heedRequest_31f, uX0_heedRequest_32, uX0_heedRequest_35, uX0_heedRequest_38, uX0_heedRequest_39, uX0_heedRequest_42, uX0_heedRequest_45, uX0_heedRequest_47, uX0_heedRequest_48, uX0_heedRequest_49, uX0_heedRequest_52, uX0_heedRequest_54, uX0_heedRequest_57, uX0_heedRequest_58, uX0_heedRequest_61, uX0_heedRequest_63, uX0_heedRequest_65, uX0_heedRequest_66, uX0_heedRequest_66o, uX0_heedRequest_66f, uX0_heedRequest_67, uX0_heedRequest_70, uX0_heedRequest_73, uX0_heedRequest_74, uX0_heedRequest_75, uX0_heedRequest_78, uX0_heedRequest_79, uX0_heedRequest_80, uX0_heedRequest_83, uX0_heedRequest_85, uX0_heedRequest_86, uX0_heedRequest_86o, uX0_heedRequest_86f, uX0_heedRequest_87, uX0_heedRequest_90, uX0_heedRequest_93, uX0_heedRequest_93o, uX0_heedRequest_93f, uX0_heedRequest_94, uX0_heedRequest_95, uX0_heedRequest_96, uX0_heedRequest_99, uX0_heedRequest_102, uX0_heedRequest_102o, uX0_heedRequest_102f, uX0_heedRequest_103, uX0_heedRequest_103o, uX0_heedRequest_103f, uX0_heedRequest_104, uX0_heedRequest_105, uX0_heedRequest_106, uX0_heedRequest_108, uX0_heedRequest_109, uX0_heedRequest_111, uX0_heedRequest_112, uX0_heedRequest_115, uX0_heedRequest_115o, uX0_heedRequest_115f, uX0_heedRequest_116, uX0_heedRequest_117, uX0_heedRequest_120, uX0_heedRequest_121, uX0_heedRequest_122, uX0_heedRequest_125, uX0_heedRequest_125o, uX0_heedRequest_125f, uX0_heedRequest_126, uX0_heedRequest_129, uX0_heedRequest_129o, uX0_heedRequest_129f, uX0_heedRequest_130, uX0_heedRequest_130o, uX0_heedRequest_130f, uX0_heedRequest_131, uX0_heedRequest_134, uX0_heedRequest_137, uX0_heedRequest_138, pq_C_sI, pq_C_sJ, pq_C_sR, pq_C_sA, pq_L_sI, pq_L_sJ, pq_L_sR, pq_L_sA, pq_I_sI, pq_I_sJ, pq_I_sR, pq_I_sA, pq_J_sI, pq_J_sJ, pq_J_sR, pq_J_sA, pq_R_sI, pq_R_sJ, pq_R_sR, pq_R_sA, pq_N_sI, pq_N_sJ, pq_N_sR, pq_N_sA, pq_S_sI, pq_S_sJ, pq_S_sR, pq_S_sA, pz_rf_s, pz_cut_i, pz_cut_r, pz_cut_n, pz_cut_f, pz_cut_u, pz_cut_o, true_and, and_true, true_or, or_true, Option.toList_some, Option.toList_none, List.cons_append, List.nil_append, Nat.add_left_cancel_iff, Nat.left_eq_add, Nat.add_eq_left, Nat.reduceEqDiff, if_true, if_false, ite_true, ite_false, false_and, and_false, false_or, or_false, reduceIte, reduceCtorEq, and_self, z_4, z_5, z_7, z_8, z_10, z_16, z_20, z_64, not_false_eq_true, nI_l (show psz l c p (be32 m 1) < 2 ^ 31 by omega), lg_cmp_le, lN_add, lN_i, k1, r6, CK.1, c_hasPiece CK bits (show be32 m 1 < 64 by omega)]
        by_cases q4 : be32 m 5 + be32 m 9 ≤ psz l c p (be32 m 1)
        · rw [if_pos ((pk_lLE (by omega) (by omega)).mpr q4)]
          rw [if_pos ⟨q1, q2, q3, q4⟩] at K
          by_cases q5 : sB A 26 (5 * a + b) = 0
          · rw [if_neg (fun z => z q5)]
            by_cases q6 : sB A 20 (64 * a + be32 m 1) = 0
            · rw [if_pos (Or.inr q6)] at K
              rw [if_pos (by unfold bz; rw [if_pos q6])]
              exact K h HC_refl R
            · rw [if_neg (fun z => z.elim (fun y => y q5) q6)] at K
              rw [if_neg (by unfold bz; rw [if_neg q6]; decide)]
              simp only [enX0_heedRequest, uX0_heedRequest_0, uX0_heedRequest_0o, uX0_heedRequest_0f, uX0_heedRequest_1, uX0_heedRequest_4, uX0_heedRequest_5, uX0_heedRequest_8, uX0_heedRequest_9, uX0_heedRequest_9o, uX0_heedRequest_9f, uX0_heedRequest_10, uX0_heedRequest_13, uX0_heedRequest_15, uX0_heedRequest_18, uX0_heedRequest_20, uX0_heedRequest_20o, uX0_heedRequest_20f, uX0_heedRequest_21, uX0_heedRequest_24, uX0_heedRequest_26, uX0_heedRequest_29, uX0_heedRequest_31, uX0_heedRequest_31o, uX0_heedRequest_31f, uX0_heedRequest_32, uX0_heedRequest_35, uX0_heedRequest_38, uX0_heedRequest_39, uX0_heedRequest_42, uX0_heedRequest_45, uX0_heedRequest_47, uX0_heedRequest_48, uX0_heedRequest_49, uX0_heedRequest_52, uX0_heedRequest_54, uX0_heedRequest_57, uX0_heedRequest_58, uX0_heedRequest_61, uX0_heedRequest_63, uX0_heedRequest_65, uX0_heedRequest_66, uX0_heedRequest_66o, uX0_heedRequest_66f, uX0_heedRequest_67, uX0_heedRequest_70, uX0_heedRequest_73, uX0_heedRequest_74, uX0_heedRequest_75, uX0_heedRequest_78, uX0_heedRequest_79, uX0_heedRequest_80, uX0_heedRequest_83, uX0_heedRequest_85, uX0_heedRequest_86, uX0_heedRequest_86o, uX0_heedRequest_86f, uX0_heedRequest_87, uX0_heedRequest_90, uX0_heedRequest_93, uX0_heedRequest_93o, uX0_heedRequest_93f, uX0_heedRequest_94, uX0_heedRequest_95, uX0_heedRequest_96, uX0_heedRequest_99, uX0_heedRequest_102, uX0_heedRequest_102o, uX0_heedRequest_102f, uX0_heedRequest_103, uX0_heedRequest_103o, uX0_heedRequest_103f, uX0_heedRequest_104, uX0_heedRequest_105, uX0_heedRequest_106, uX0_heedRequest_108, uX0_heedRequest_109, uX0_heedRequest_111, uX0_heedRequest_112, uX0_heedRequest_115, uX0_heedRequest_115o, uX0_heedRequest_115f, uX0_heedRequest_116, uX0_heedRequest_117, uX0_heedRequest_120, uX0_heedRequest_121, uX0_heedRequest_122, uX0_heedRequest_125, uX0_heedRequest_125o, uX0_heedRequest_125f, uX0_heedRequest_126, uX0_heedRequest_129, uX0_heedRequest_129o, uX0_heedRequest_129f, uX0_heedRequest_130, uX0_heedRequest_130o, uX0_heedRequest_130f, uX0_heedRequest_131, uX0_heedRequest_134, uX0_heedRequest_137, uX0_heedRequest_138, pq_C_sI, pq_C_sJ, pq_C_sR, pq_C_sA, pq_L_sI, pq_L_sJ, pq_L_sR, pq_L_sA, pq_I_sI, pq_I_sJ, pq_I_sR, pq_I_sA, pq_J_sI, pq_J_sJ, pq_J_sR, pq_J_sA, pq_R_sI, pq_R_sJ, pq_R_sR, pq_R_sA, pq_N_sI, pq_N_sJ, pq_N_sR, pq_N_sA, pq_S_sI, pq_S_sJ, pq_S_sR, pq_S_sA, pz_rf_s, pz_cut_i, pz_cut_r, pz_cut_n, pz_cut_f, pz_cut_u, pz_cut_o, true_and, and_true, true_or, or_true, Option.toList_some, Option.toList_none, List.cons_append, List.nil_append, Nat.add_left_cancel_iff, Nat.left_eq_add, Nat.add_eq_left, Nat.reduceEqDiff, if_true, if_false, ite_true, ite_false, false_and, and_false, false_or, or_false, reduceIte, reduceCtorEq, and_self, z_4, z_5, z_7, z_8, z_10, z_16, z_20, z_64, not_false_eq_true, a1, lN_i]
              refine c_notePiece R I ha hth q1 q3 (by omega) (fun h2 F2 N2 => ?_)
              have R2 := RC_note R F2 N2
              obtain ⟨⟨c1, c2, c3, c4, c5⟩, CR2⟩ := CL_of R2 ha
              obtain ⟨_, _, _, _, cs5, _⟩ := CR2.2.2 hth
              simp only [enX0_heedRequest, uX0_heedRequest_0, uX0_heedRequest_0o, uX0_heedRequest_0f, uX0_heedRequest_1, uX0_heedRequest_4, uX0_heedRequest_5, uX0_heedRequest_8, uX0_heedRequest_9, uX0_heedRequest_9o, uX0_heedRequest_9f, uX0_heedRequest_10, uX0_heedRequest_13, uX0_heedRequest_15, uX0_heedRequest_18, uX0_heedRequest_20, uX0_heedRequest_20o, uX0_heedRequest_20f, uX0_heedRequest_21, uX0_heedRequest_24, uX0_heedRequest_26, uX0_heedRequest_29, uX0_heedRequest_31, uX0_heedRequest_31o, uX0_heedRequest_31f, uX0_heedRequest_32, uX0_heedRequest_35, uX0_heedRequest_38, uX0_heedRequest_39, uX0_heedRequest_42, uX0_heedRequest_45, uX0_heedRequest_47, uX0_heedRequest_48, uX0_heedRequest_49, uX0_heedRequest_52, uX0_heedRequest_54, uX0_heedRequest_57, uX0_heedRequest_58, uX0_heedRequest_61, uX0_heedRequest_63, uX0_heedRequest_65, uX0_heedRequest_66, uX0_heedRequest_66o, uX0_heedRequest_66f, uX0_heedRequest_67, uX0_heedRequest_70, uX0_heedRequest_73, uX0_heedRequest_74, uX0_heedRequest_75, uX0_heedRequest_78, uX0_heedRequest_79, uX0_heedRequest_80, uX0_heedRequest_83, uX0_heedRequest_85, uX0_heedRequest_86, uX0_heedRequest_86o, uX0_heedRequest_86f, uX0_heedRequest_87, uX0_heedRequest_90, uX0_heedRequest_93, uX0_heedRequest_93o, uX0_heedRequest_93f, uX0_heedRequest_94, uX0_heedRequest_95, uX0_heedRequest_96, uX0_heedRequest_99, uX0_heedRequest_102, uX0_heedRequest_102o, uX0_heedRequest_102f, uX0_heedRequest_103, uX0_heedRequest_103o, uX0_heedRequest_103f, uX0_heedRequest_104, uX0_heedRequest_105, uX0_heedRequest_106, uX0_heedRequest_108, uX0_heedRequest_109, uX0_heedRequest_111, uX0_heedRequest_112, uX0_heedRequest_115, uX0_heedRequest_115o, uX0_heedRequest_115f, uX0_heedRequest_116, uX0_heedRequest_117, uX0_heedRequest_120, uX0_heedRequest_121, uX0_heedRequest_122, uX0_heedRequest_125, uX0_heedRequest_125o, uX0_heedRequest_125f, uX0_heedRequest_126, uX0_heedRequest_129, uX0_heedRequest_129o, uX0_heedRequest_129f, uX0_heedRequest_130, uX0_heedRequest_130o, uX0_heedRequest_130f, uX0_heedRequest_131, uX0_heedRequest_134, uX0_heedRequest_137, uX0_heedRequest_138, pq_C_sI, pq_C_sJ, pq_C_sR, pq_C_sA, pq_L_sI, pq_L_sJ, pq_L_sR, pq_L_sA, pq_I_sI, pq_I_sJ, pq_I_sR, pq_I_sA, pq_J_sI, pq_J_sJ, pq_J_sR, pq_J_sA, pq_R_sI, pq_R_sJ, pq_R_sR, pq_R_sA, pq_N_sI, pq_N_sJ, pq_N_sR, pq_N_sA, pq_S_sI, pq_S_sJ, pq_S_sR, pq_S_sA, pz_rf_s, pz_cut_i, pz_cut_r, pz_cut_n, pz_cut_f, pz_cut_u, pz_cut_o, true_and, and_true, true_or, or_true, Option.toList_some, Option.toList_none, List.cons_append, List.nil_append, Nat.add_left_cancel_iff, Nat.left_eq_add, Nat.add_eq_left, Nat.reduceEqDiff, if_true, if_false, ite_true, ite_false, false_and, and_false, false_or, or_false, reduceIte, reduceCtorEq, and_self, z_4, z_5, z_7, z_8, z_10, z_16, z_20, z_64, not_false_eq_true, c1, cs5]
              have R3 := RC_cnt (i := 2) (v := sB A 22 (5 * a + 2) + 1) R2 ha (by decide)
              have N3 := ROW_fr N2 (HF_sI (cs := [36 + 4 * a]) (a := 36 + 4 * a) (k := 5) (v := sB A 22 (5 * a + 2) + 1) (by simp)) (by simp; omega) (by simp; omega)
              obtain ⟨d1, d2, d3, d4, d5, d6, d7, d8⟩ := ACT_of R3
              have n3 := R3.1.2.2.2.2.2.1.1
              have d1' : pz_C h2 132 = 0 := d1
              have d2' : pz_R h2 132 0 = some 23 := d2
              have d5' : pz_R h2 132 3 = some 135 := d5
              have n3' : pz_C h2 23 = 5 := n3
              simp only [enX0_heedRequest, uX0_heedRequest_0, uX0_heedRequest_0o, uX0_heedRequest_0f, uX0_heedRequest_1, uX0_heedRequest_4, uX0_heedRequest_5, uX0_heedRequest_8, uX0_heedRequest_9, uX0_heedRequest_9o, uX0_heedRequest_9f, uX0_heedRequest_10, uX0_heedRequest_13, uX0_heedRequest_15, uX0_heedRequest_18, uX0_heedRequest_20, uX0_heedRequest_20o, uX0_heedRequest_20f, uX0_heedRequest_21, uX0_heedRequest_24, uX0_heedRequest_26, uX0_heedRequest_29, uX0_heedRequest_31, uX0_heedRequest_31o, uX0_heedRequest_31f, uX0_heedRequest_32, uX0_heedRequest_35, uX0_heedRequest_38, uX0_heedRequest_39, uX0_heedRequest_42, uX0_heedRequest_45, uX0_heedRequest_47, uX0_heedRequest_48, uX0_heedRequest_49, uX0_heedRequest_52, uX0_heedRequest_54, uX0_heedRequest_57, uX0_heedRequest_58, uX0_heedRequest_61, uX0_heedRequest_63, uX0_heedRequest_65, uX0_heedRequest_66, uX0_heedRequest_66o, uX0_heedRequest_66f, uX0_heedRequest_67, uX0_heedRequest_70, uX0_heedRequest_73, uX0_heedRequest_74, uX0_heedRequest_75, uX0_heedRequest_78, uX0_heedRequest_79, uX0_heedRequest_80, uX0_heedRequest_83, uX0_heedRequest_85, uX0_heedRequest_86, uX0_heedRequest_86o, uX0_heedRequest_86f, uX0_heedRequest_87, uX0_heedRequest_90, uX0_heedRequest_93, uX0_heedRequest_93o, uX0_heedRequest_93f, uX0_heedRequest_94, uX0_heedRequest_95, uX0_heedRequest_96, uX0_heedRequest_99, uX0_heedRequest_102, uX0_heedRequest_102o, uX0_heedRequest_102f, uX0_heedRequest_103, uX0_heedRequest_103o, uX0_heedRequest_103f, uX0_heedRequest_104, uX0_heedRequest_105, uX0_heedRequest_106, uX0_heedRequest_108, uX0_heedRequest_109, uX0_heedRequest_111, uX0_heedRequest_112, uX0_heedRequest_115, uX0_heedRequest_115o, uX0_heedRequest_115f, uX0_heedRequest_116, uX0_heedRequest_117, uX0_heedRequest_120, uX0_heedRequest_121, uX0_heedRequest_122, uX0_heedRequest_125, uX0_heedRequest_125o, uX0_heedRequest_125f, uX0_heedRequest_126, uX0_heedRequest_129, uX0_heedRequest_129o, uX0_heedRequest_129f, uX0_heedRequest_130, uX0_heedRequest_130o, uX0_heedRequest_130f, uX0_heedRequest_131, uX0_heedRequest_134, uX0_heedRequest_137, uX0_heedRequest_138, pq_C_sI, pq_C_sJ, pq_C_sR, pq_C_sA, pq_L_sI, pq_L_sJ, pq_L_sR, pq_L_sA, pq_I_sI, pq_I_sJ, pq_I_sR, pq_I_sA, pq_J_sI, pq_J_sJ, pq_J_sR, pq_J_sA, pq_R_sI, pq_R_sJ, pq_R_sR, pq_R_sA, pq_N_sI, pq_N_sJ, pq_N_sR, pq_N_sA, pq_S_sI, pq_S_sJ, pq_S_sR, pq_S_sA, pz_rf_s, pz_cut_i, pz_cut_r, pz_cut_n, pz_cut_f, pz_cut_u, pz_cut_o, true_and, and_true, true_or, or_true, Option.toList_some, Option.toList_none, List.cons_append, List.nil_append, Nat.add_left_cancel_iff, Nat.left_eq_add, Nat.add_eq_left, Nat.reduceEqDiff, if_true, if_false, ite_true, ite_false, false_and, and_false, false_or, or_false, reduceIte, reduceCtorEq, and_self, z_4, z_5, z_7, z_8, z_10, z_16, z_20, z_64, not_false_eq_true, d1', d2', d5', n3']
              have H3 : HC h2 (pz_sI h2 (36 + 4 * a) 5 (sB A 22 (5 * a + 2) + 1)) := HC_HF (cs := [36 + 4 * a]) (HF_sI (by simp)) (fun x hx => by simp at hx; omega)
              generalize pcL A a c (be32 m 1) (be32 m 5) (be32 m 9) = ql at N3 K
              refine c_send (A := (inc (sB A) (5 * a + 2), A.2)) R3 (show a < 5 by omega) hb hab hj2 (I.1.2.1 _ (by omega)) N3 (fun h4 F4 R4 => ?_)
              simp only [enX0_heedRequest, uX0_heedRequest_0, uX0_heedRequest_0o, uX0_heedRequest_0f, uX0_heedRequest_1, uX0_heedRequest_4, uX0_heedRequest_5, uX0_heedRequest_8, uX0_heedRequest_9, uX0_heedRequest_9o, uX0_heedRequest_9f, uX0_heedRequest_10, uX0_heedRequest_13, uX0_heedRequest_15, uX0_heedRequest_18, uX0_heedRequest_20, uX0_heedRequest_20o, uX0_heedRequest_20f, uX0_heedRequest_21, uX0_heedRequest_24, uX0_heedRequest_26, uX0_heedRequest_29, uX0_heedRequest_31, uX0_heedRequest_31o, uX0_heedRequest_31f, uX0_heedRequest_32, uX0_heedRequest_35, uX0_heedRequest_38, uX0_heedRequest_39, uX0_heedRequest_42, uX0_heedRequest_45, uX0_heedRequest_47, uX0_heedRequest_48, uX0_heedRequest_49, uX0_heedRequest_52, uX0_heedRequest_54, uX0_heedRequest_57, uX0_heedRequest_58, uX0_heedRequest_61, uX0_heedRequest_63, uX0_heedRequest_65, uX0_heedRequest_66, uX0_heedRequest_66o, uX0_heedRequest_66f, uX0_heedRequest_67, uX0_heedRequest_70, uX0_heedRequest_73, uX0_heedRequest_74, uX0_heedRequest_75, uX0_heedRequest_78, uX0_heedRequest_79, uX0_heedRequest_80, uX0_heedRequest_83, uX0_heedRequest_85, uX0_heedRequest_86, uX0_heedRequest_86o, uX0_heedRequest_86f, uX0_heedRequest_87, uX0_heedRequest_90, uX0_heedRequest_93, uX0_heedRequest_93o, uX0_heedRequest_93f, uX0_heedRequest_94, uX0_heedRequest_95, uX0_heedRequest_96, uX0_heedRequest_99, uX0_heedRequest_102, uX0_heedRequest_102o, uX0_heedRequest_102f, uX0_heedRequest_103, uX0_heedRequest_103o, uX0_heedRequest_103f, uX0_heedRequest_104, uX0_heedRequest_105, uX0_heedRequest_106, uX0_heedRequest_108, uX0_heedRequest_109, uX0_heedRequest_111, uX0_heedRequest_112, uX0_heedRequest_115, uX0_heedRequest_115o, uX0_heedRequest_115f, uX0_heedRequest_116, uX0_heedRequest_117, uX0_heedRequest_120, uX0_heedRequest_121, uX0_heedRequest_122, uX0_heedRequest_125, uX0_heedRequest_125o, uX0_heedRequest_125f, uX0_heedRequest_126, uX0_heedRequest_129, uX0_heedRequest_129o, uX0_heedRequest_129f, uX0_heedRequest_130, uX0_heedRequest_130o, uX0_heedRequest_130f, uX0_heedRequest_131, uX0_heedRequest_134, uX0_heedRequest_137, uX0_heedRequest_138, pq_C_sI, pq_C_sJ, pq_C_sR, pq_C_sA, pq_L_sI, pq_L_sJ, pq_L_sR, pq_L_sA, pq_I_sI, pq_I_sJ, pq_I_sR, pq_I_sA, pq_J_sI, pq_J_sJ, pq_J_sR, pq_J_sA, pq_R_sI, pq_R_sJ, pq_R_sR, pq_R_sA, pq_N_sI, pq_N_sJ, pq_N_sR, pq_N_sA, pq_S_sI, pq_S_sJ, pq_S_sR, pq_S_sA, pz_rf_s, pz_cut_i, pz_cut_r, pz_cut_n, pz_cut_f, pz_cut_u, pz_cut_o, true_and, and_true, true_or, or_true, Option.toList_some, Option.toList_none, List.cons_append, List.nil_append, Nat.add_left_cancel_iff, Nat.left_eq_add, Nat.add_eq_left, Nat.reduceEqDiff, if_true, if_false, ite_true, ite_false, false_and, and_false, false_or, or_false, reduceIte, reduceCtorEq, and_self, z_4, z_5, z_7, z_8, z_10, z_16, z_20, z_64, not_false_eq_true]
              exact K h4 (HC_trans (HC_note F2) (HC_trans H3 (HC_HL F4))) R4
          · rw [if_pos (Or.inl q5)] at K
            rw [if_pos q5]
            exact K h HC_refl R
        · rw [if_neg (fun z => absurd ((pk_lLE (by omega) (by omega)).mp z) q4)]
          rw [if_neg (fun z => q4 z.2.2.2)] at K
          exact K h HC_refl R
      · rw [if_pos ((pk_lLT (by decide) (by omega)).mpr (by omega))]
        rw [if_neg (fun z => q3 z.2.2.1)] at K
        exact K h HC_refl R
    · rw [if_pos ((pk_lLT (by omega) (by decide)).mpr (by omega))]
      rw [if_neg (fun z => q2 z.2.1)] at K
      exact K h HC_refl R
  · simp only [q1, if_false, if_true]
    rw [if_neg (fun z => q1 z.1)] at K
    exact K h HC_refl R
theorem mb_u {x : Int8} {s : Nat} (hs : s ≤ 7) : (nI (ub x) >>> (nI s &&& 31)) &&& 1 = (x.toInt32 >>> (nI s &&& 31)) &&& 1 := by
  have b1 : ∀ i, bt 1 i = decide (i = 0) := by
    intro i
    rcases Nat.lt_or_ge i 32 with h | h
    · exact (by decide +kernel : ∀ i, i < 32 → bt 1 i = decide (i = 0)) i h
    · rw [b_big h, decide_eq_false (by omega)]
  refine b_ext (fun i hi => ?_)
  rw [b_and, b_and, b1]
  by_cases e : i = 0
  · subst e
    have h1 := b_sshr s (by omega) (nI (ub x)) (show 0 < 32 by decide)
    have h2 := b_sshr s (by omega) x.toInt32 (show 0 < 32 by decide)
    rw [if_pos (by omega)] at h1 h2
    rw [h1, h2, ← ub_and, b_and, b_255, decide_eq_true (show s + 0 < 8 by omega), Bool.and_true]
  · rw [decide_eq_false e, Bool.and_false, Bool.and_false]
theorem mbit_c {w m : List Int8} {i : Nat} (hw : w.length = 4) (hml : m.length ≤ 100) (hi : i / 8 + 1 < m.length) : (atL (w ++ m) (nI (5 + i / 8)) >>> ((7 - nI (i % 8)) &&& 31)) &&& 1 = mbit m 1 i ∧ (mbit m 1 i = 0 ∨ mbit m 1 i = 1) := by
  have ea : atL (w ++ m) (nI (5 + i / 8)) = nI (ub (m.getD (1 + i / 8) 0)) := by
    unfold atL
    have hlt : 5 + i / 8 < (w ++ m).length := by rw [List.length_append]; omega
    rw [vI_of (by rw [List.length_append]; omega) hlt]
    show nI (ub ((w ++ m).getD (5 + i / 8) 0)) = _
    rw [show 5 + i / 8 = w.length + (1 + i / 8) by omega, getD_app2]
  have es : (7 : Int32) - nI (i % 8) = nI (7 - i % 8) := pk_sub (a := 7) (by omega)
  unfold mbit
  rw [ea, es, mb_u (by omega)]
  refine ⟨rfl, ?_⟩
  have := pk_and (((m.getD (1 + i / 8) 0).toInt32 >>> (nI (7 - i % 8) &&& 31))) (m := 1) 1 (by decide)
  rw [this]
  have h2 := Nat.mod_lt ((m.getD (1 + i / 8) 0).toInt32 >>> (nI (7 - i % 8) &&& 31)).toBitVec.toNat (show 0 < 2 ^ 1 by decide)
  generalize ((m.getD (1 + i / 8) 0).toInt32 >>> (nI (7 - i % 8) &&& 31)).toBitVec.toNat % 2 ^ 1 = z at h2
  have : z = 0 ∨ z = 1 := by omega
  rcases this with rfl | rfl
  · exact Or.inl rfl
  · exact Or.inr rfl
end
