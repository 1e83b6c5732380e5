/-! ===== the class: make ===== -/
section
variable {d : Nat} {h h' : PzH} {Q : Option Value → PzH → Prop} {A A' : St}
theorem c_isMakeable {n : Nat} (hn : n ≤ 6000) {v : Int32} : pz_M (d + 2) mX9_isMakeable [.ref 0, .int (nI n), .int v] h Q ↔ Q (some (.int (if 1 ≤ n ∧ n ≤ 4096 ∧ 32 ≤ v ∧ v ≤ 1024 ∧ n ≤ 64 * v.toNatClampNeg then 1 else 0))) h := by
  simp only [enX9_isMakeable, uX9_isMakeable_0, uX9_isMakeable_1, uX9_isMakeable_2, uX9_isMakeable_5, uX9_isMakeable_8, uX9_isMakeable_11, uX9_isMakeable_12, uX9_isMakeable_14, uX9_isMakeable_17, uX9_isMakeable_20, uX9_isMakeable_23, uX9_isMakeable_24, uX9_isMakeable_26, uX9_isMakeable_27, uX9_isMakeable_28, uX9_isMakeable_31, uX9_isMakeable_32, uX9_isMakeable_35, uX9_isMakeable_36, pq_C_sI, pq_C_sJ, pq_C_sR, pq_C_sA, pq_L_sI, pq_L_sJ, pq_L_sR, pq_L_sA, pq_I_sI, pq_I_sJ, pq_I_sR, pq_I_sA, pq_J_sI, pq_J_sJ, pq_J_sR, pq_J_sA, pq_R_sI, pq_R_sJ, pq_R_sR, pq_R_sA, pq_N_sI, pq_N_sJ, pq_N_sR, pq_N_sA, pq_S_sI, pq_S_sJ, pq_S_sR, pq_S_sA, pz_rf_s, pz_cut_i, pz_cut_r, pz_cut_n, pz_cut_f, pz_cut_u, pz_cut_o, true_and, and_true, true_or, or_true, Option.toList_some, Option.toList_none, List.cons_append, List.nil_append, Nat.add_left_cancel_iff, Nat.left_eq_add, Nat.add_eq_left, Nat.reduceEqDiff, if_true, if_false, ite_true, ite_false, false_and, and_false, false_or, or_false, reduceIte, reduceCtorEq, and_self, z_4, z_5, z_7, z_8, z_10, z_16, z_20, z_64, not_false_eq_true, c_isWithin]
  have q1 : ((1 : Int32) ≤ nI n ∧ nI n ≤ 4096) ↔ (1 ≤ n ∧ n ≤ 4096) := and_congr (nI_leI (a := 1) (b := n) (by decide) (by omega)) (nI_leI (a := n) (b := 4096) (by omega) (by decide))
  by_cases a1 : 1 ≤ n ∧ n ≤ 4096
  · rw [if_pos (q1.mpr a1), if_neg (show ¬ (1 : Int32) = 0 by decide)]
    by_cases a2 : 32 ≤ v ∧ v ≤ 1024
    · rw [if_pos a2, if_neg (show ¬ (1 : Int32) = 0 by decide)]
      obtain ⟨j, hj, rfl⟩ := nI_of (show ¬ v < 0 from fun z => by
        have := Int32.le_iff_toInt_le.mp a2.1
        have := Int32.lt_iff_toInt_lt.mp z
        have e0 : (0 : Int32).toInt = 0 := by decide
        have e1 : (32 : Int32).toInt = 32 := by decide
        omega)
      have j2 := (nI_leI (a := j) (b := 1024) (by omega) (by decide)).mp a2.2
      rw [nI_clamp hj, show (64 : Int32) * nI j = nI (64 * j) from pk_mul 64 _]
      by_cases a3 : n ≤ 64 * j
      · rw [if_neg (nI_nlt (by omega) (by omega)), if_pos ⟨a1.1, a1.2, a2.1, a2.2, a3⟩]
      · rw [if_pos (nI_lt (by omega) (by omega)), if_neg (fun z => a3 z.2.2.2.2)]
    · rw [if_neg a2, if_pos rfl, if_neg (fun z => a2 ⟨z.2.2.1, z.2.2.2.1⟩)]
  · rw [if_neg (fun z => a1 (q1.mp z)), if_pos rfl, if_neg (fun z => a1 ⟨z.1, z.2.1⟩)]
theorem c_make (R : RC h A) {v : Int32} (K : ∀ h', HC h h' → RC h' (makA A v).2 → Q (some (.int (makA A v).1)) h') : pz_M (d + 23) mX9_make [.ref 0, .int v] h Q := by
  obtain ⟨s0, s1, s2, s3, s4, s5, s6, s7⟩ := DS_of R
  have W := R.2.2.1.1
  have W1 := W.1
  have w8 := W.2.2.2.2.2.2.2.1
  unfold makA at K
  have im : ∀ {Q : Option Value → PzH → Prop}, pz_M (d + 22) mX9_isMakeable [.ref 0, .int (nI (sV A 0).length), .int v] h Q ↔ Q (some (.int (if 1 ≤ (sV A 0).length ∧ (sV A 0).length ≤ 4096 ∧ 32 ≤ v ∧ v ≤ 1024 ∧ (sV A 0).length ≤ 64 * v.toNatClampNeg then 1 else 0))) h := fun {Q} => c_isMakeable (by omega)
  by_cases ok : 1 ≤ (sV A 0).length ∧ (sV A 0).length ≤ 4096 ∧ 32 ≤ v ∧ v ≤ 1024 ∧ (sV A 0).length ≤ 64 * v.toNatClampNeg
  · rw [if_pos ok] at K im
    obtain ⟨n1, n2, n3, n4, n5⟩ := ok
    obtain ⟨c, hc, rfl⟩ := nI_of (show ¬ v < 0 from fun z => by
      have := Int32.le_iff_toInt_le.mp n3
      have := Int32.lt_iff_toInt_lt.mp z
      have e0 : (0 : Int32).toInt = 0 := by decide
      have e1 : (32 : Int32).toInt = 32 := by decide
      omega)
    rw [nI_clamp hc] at n5 K
    have c1 := (nI_leI (a := 32) (b := c) (by decide) (by omega)).mp n3
    have c2 := (nI_leI (a := c) (b := 1024) (by omega) (by decide)).mp n4
    obtain ⟨t, dr, htd, r1, L, tC, T, w4, w6⟩ := TD_of R
    have hd := L.2.2
    obtain ⟨l4, W4⟩ := w4
    obtain ⟨l6, W6⟩ := w6
    have WC := R.2.2.1.2.2.1
    have WC1 := WC.1
    have WO := R.2.2.1.2.1
    generalize ehs : phL (sV A 0) (sV A 0).length c (nPc (sV A 0).length c) (nPc (sV A 0).length c) = hs at K
    have hh : hs.length = 20 * nPc (sV A 0).length c := by rw [← ehs, phL_len]
    have n1' := n1
    obtain ⟨q1, q, q2, q3, q4⟩ := mk_V n1 n2 c1 c2 n5 hh
    simp only [enX9_make, uX9_make_0, uX9_make_0o, uX9_make_0f, uX9_make_1, uX9_make_1o, uX9_make_1f, uX9_make_2, uX9_make_5, uX9_make_8, uX9_make_9, uX9_make_12, uX9_make_13, uX9_make_14, uX9_make_17, uX9_make_17o, uX9_make_17f, uX9_make_18, uX9_make_21, uX9_make_22, uX9_make_25, uX9_make_25o, uX9_make_25f, uX9_make_26, uX9_make_29, uX9_make_29o, uX9_make_29f, uX9_make_30, uX9_make_33, uX9_make_34, uX9_make_34o, uX9_make_34f, uX9_make_35, uX9_make_38, uX9_make_41, uX9_make_44, uX9_make_44o, uX9_make_44f, uX9_make_45, uX9_make_48, uX9_make_49, uX9_make_52, uX9_make_53, uX9_make_56, uX9_make_57, uX9_make_58, uX9_make_58o, uX9_make_58f, uX9_make_59, uX9_make_60, uX9_make_63, uX9_make_63o, uX9_make_63f, uX9_make_64, uX9_make_67, uX9_make_67o, uX9_make_67f, uX9_make_68, uX9_make_71, uX9_make_74, uX9_make_75, uX9_make_75o, uX9_make_75f, uX9_make_76, uX9_make_79, uX9_make_79o, uX9_make_79f, uX9_make_80, uX9_make_83, uX9_make_83o, uX9_make_83f, uX9_make_84, uX9_make_87, uX9_make_90, uX9_make_93, uX9_make_96, uX9_make_96o, uX9_make_96f, uX9_make_97, uX9_make_100, uX9_make_103, pq_C_sI, pq_C_sJ, pq_C_sR, pq_C_sA, pq_L_sI, pq_L_sJ, pq_L_sR, pq_L_sA, pq_I_sI, pq_I_sJ, pq_I_sR, pq_I_sA, pq_J_sI, pq_J_sJ, pq_J_sR, pq_J_sA, pq_R_sI, pq_R_sJ, pq_R_sR, pq_R_sA, pq_N_sI, pq_N_sJ, pq_N_sR, pq_N_sA, pq_S_sI, pq_S_sJ, pq_S_sR, pq_S_sA, pz_rf_s, pz_cut_i, pz_cut_r, pz_cut_n, pz_cut_f, pz_cut_u, pz_cut_o, true_and, and_true, true_or, or_true, Option.toList_some, Option.toList_none, List.cons_append, List.nil_append, Nat.add_left_cancel_iff, Nat.left_eq_add, Nat.add_eq_left, Nat.reduceEqDiff, if_true, if_false, ite_true, ite_false, false_and, and_false, false_or, or_false, reduceIte, reduceCtorEq, and_self, z_4, z_5, z_7, z_8, z_10, z_16, z_20, z_64, not_false_eq_true, s0, s1, s3, W1, WC1, c_size W, im, show ¬ (1 : Int32) = 0 by decide]
    refine c_cut0 WC (fun h1 F1 X1 => ?_)
    have A1 : pz_C h1 0 = 9 ∧ pz_R h1 0 0 = some 1 ∧ pz_R h1 0 2 = some 5 := by rw [F1.1, F1.2.2.1]; exact ⟨s0, s1, s3⟩
    have V1 := ROW_fr W F1 (by simp) (by simp)
    have Y1 := X1.1
    have Z1 := V1.1
    simp only [enX9_make, uX9_make_0, uX9_make_0o, uX9_make_0f, uX9_make_1, uX9_make_1o, uX9_make_1f, uX9_make_2, uX9_make_5, uX9_make_8, uX9_make_9, uX9_make_12, uX9_make_13, uX9_make_14, uX9_make_17, uX9_make_17o, uX9_make_17f, uX9_make_18, uX9_make_21, uX9_make_22, uX9_make_25, uX9_make_25o, uX9_make_25f, uX9_make_26, uX9_make_29, uX9_make_29o, uX9_make_29f, uX9_make_30, uX9_make_33, uX9_make_34, uX9_make_34o, uX9_make_34f, uX9_make_35, uX9_make_38, uX9_make_41, uX9_make_44, uX9_make_44o, uX9_make_44f, uX9_make_45, uX9_make_48, uX9_make_49, uX9_make_52, uX9_make_53, uX9_make_56, uX9_make_57, uX9_make_58, uX9_make_58o, uX9_make_58f, uX9_make_59, uX9_make_60, uX9_make_63, uX9_make_63o, uX9_make_63f, uX9_make_64, uX9_make_67, uX9_make_67o, uX9_make_67f, uX9_make_68, uX9_make_71, uX9_make_74, uX9_make_75, uX9_make_75o, uX9_make_75f, uX9_make_76, uX9_make_79, uX9_make_79o, uX9_make_79f, uX9_make_80, uX9_make_83, uX9_make_83o, uX9_make_83f, uX9_make_84, uX9_make_87, uX9_make_90, uX9_make_93, uX9_make_96, uX9_make_96o, uX9_make_96f, uX9_make_97, uX9_make_100, uX9_make_103, pq_C_sI, pq_C_sJ, pq_C_sR, pq_C_sA, pq_L_sI, pq_L_sJ, pq_L_sR, pq_L_sA, pq_I_sI, pq_I_sJ, pq_I_sR, pq_I_sA, pq_J_sI, pq_J_sJ, pq_J_sR, pq_J_sA, pq_R_sI, pq_R_sJ, pq_R_sR, pq_R_sA, pq_N_sI, pq_N_sJ, pq_N_sR, pq_N_sA, pq_S_sI, pq_S_sJ, pq_S_sR, pq_S_sA, pz_rf_s, pz_cut_i, pz_cut_r, pz_cut_n, pz_cut_f, pz_cut_u, pz_cut_o, true_and, and_true, true_or, or_true, Option.toList_some, Option.toList_none, List.cons_append, List.nil_append, Nat.add_left_cancel_iff, Nat.left_eq_add, Nat.add_eq_left, Nat.reduceEqDiff, if_true, if_false, ite_true, ite_false, false_and, and_false, false_or, or_false, reduceIte, reduceCtorEq, and_self, z_4, z_5, z_7, z_8, z_10, z_16, z_20, z_64, not_false_eq_true, A1, Y1, Z1, c_size V1]
    refine (show _ from c_addPart (d := d + 20) (b := 0) (n := (sV A 0).length) X1 V1 ⟨by decide, by decide⟩ (by omega) (by simp; omega) (fun h2 F2 X2 => ?_) : pz_M (d + 22) mX6_addPart [.ref 5, .ref 1, .int 0, .int (nI (sV A 0).length)] h1 _)
    rw [List.nil_append, ofF_take (Nat.le_refl _), List.take_length] at X2
    have A2 : pz_C h2 0 = 9 ∧ pz_R h2 0 0 = some 1 := by rw [F2.1, F2.2.2.1]; exact ⟨A1.1, A1.2.1⟩
    have V2 := ROW_fr V1 F2 (by simp) (by simp)
    have Y2 := V2.1
    simp only [enX9_make, uX9_make_0, uX9_make_0o, uX9_make_0f, uX9_make_1, uX9_make_1o, uX9_make_1f, uX9_make_2, uX9_make_5, uX9_make_8, uX9_make_9, uX9_make_12, uX9_make_13, uX9_make_14, uX9_make_17, uX9_make_17o, uX9_make_17f, uX9_make_18, uX9_make_21, uX9_make_22, uX9_make_25, uX9_make_25o, uX9_make_25f, uX9_make_26, uX9_make_29, uX9_make_29o, uX9_make_29f, uX9_make_30, uX9_make_33, uX9_make_34, uX9_make_34o, uX9_make_34f, uX9_make_35, uX9_make_38, uX9_make_41, uX9_make_44, uX9_make_44o, uX9_make_44f, uX9_make_45, uX9_make_48, uX9_make_49, uX9_make_52, uX9_make_53, uX9_make_56, uX9_make_57, uX9_make_58, uX9_make_58o, uX9_make_58f, uX9_make_59, uX9_make_60, uX9_make_63, uX9_make_63o, uX9_make_63f, uX9_make_64, uX9_make_67, uX9_make_67o, uX9_make_67f, uX9_make_68, uX9_make_71, uX9_make_74, uX9_make_75, uX9_make_75o, uX9_make_75f, uX9_make_76, uX9_make_79, uX9_make_79o, uX9_make_79f, uX9_make_80, uX9_make_83, uX9_make_83o, uX9_make_83f, uX9_make_84, uX9_make_87, uX9_make_90, uX9_make_93, uX9_make_96, uX9_make_96o, uX9_make_96f, uX9_make_97, uX9_make_100, uX9_make_103, pq_C_sI, pq_C_sJ, pq_C_sR, pq_C_sA, pq_L_sI, pq_L_sJ, pq_L_sR, pq_L_sA, pq_I_sI, pq_I_sJ, pq_I_sR, pq_I_sA, pq_J_sI, pq_J_sJ, pq_J_sR, pq_J_sA, pq_R_sI, pq_R_sJ, pq_R_sR, pq_R_sA, pq_N_sI, pq_N_sJ, pq_N_sR, pq_N_sA, pq_S_sI, pq_S_sJ, pq_S_sR, pq_S_sA, pz_rf_s, pz_cut_i, pz_cut_r, pz_cut_n, pz_cut_f, pz_cut_u, pz_cut_o, true_and, and_true, true_or, or_true, Option.toList_some, Option.toList_none, List.cons_append, List.nil_append, Nat.add_left_cancel_iff, Nat.left_eq_add, Nat.add_eq_left, Nat.reduceEqDiff, if_true, if_false, ite_true, ite_false, false_and, and_false, false_or, or_false, reduceIte, reduceCtorEq, and_self, z_4, z_5, z_7, z_8, z_10, z_16, z_20, z_64, not_false_eq_true, A2, Y2]
    refine c_cut0 V2 (fun h3 F3 X3 => ?_)
    have F13 : HF [1, 2, 5, 6] h h3 := HF_trans (HF_up F1 (by simp)) (HF_trans (HF_up F2 (by simp)) (HF_up F3 (by simp)))
    have D3 : DW h3 := by unfold DW; rw [F13.1, F13.2.2.1]; exact ⟨s0, s2, s3, s4⟩
    simp only [enX9_make, uX9_make_0, uX9_make_0o, uX9_make_0f, uX9_make_1, uX9_make_1o, uX9_make_1f, uX9_make_2, uX9_make_5, uX9_make_8, uX9_make_9, uX9_make_12, uX9_make_13, uX9_make_14, uX9_make_17, uX9_make_17o, uX9_make_17f, uX9_make_18, uX9_make_21, uX9_make_22, uX9_make_25, uX9_make_25o, uX9_make_25f, uX9_make_26, uX9_make_29, uX9_make_29o, uX9_make_29f, uX9_make_30, uX9_make_33, uX9_make_34, uX9_make_34o, uX9_make_34f, uX9_make_35, uX9_make_38, uX9_make_41, uX9_make_44, uX9_make_44o, uX9_make_44f, uX9_make_45, uX9_make_48, uX9_make_49, uX9_make_52, uX9_make_53, uX9_make_56, uX9_make_57, uX9_make_58, uX9_make_58o, uX9_make_58f, uX9_make_59, uX9_make_60, uX9_make_63, uX9_make_63o, uX9_make_63f, uX9_make_64, uX9_make_67, uX9_make_67o, uX9_make_67f, uX9_make_68, uX9_make_71, uX9_make_74, uX9_make_75, uX9_make_75o, uX9_make_75f, uX9_make_76, uX9_make_79, uX9_make_79o, uX9_make_79f, uX9_make_80, uX9_make_83, uX9_make_83o, uX9_make_83f, uX9_make_84, uX9_make_87, uX9_make_90, uX9_make_93, uX9_make_96, uX9_make_96o, uX9_make_96f, uX9_make_97, uX9_make_100, uX9_make_103, pq_C_sI, pq_C_sJ, pq_C_sR, pq_C_sA, pq_L_sI, pq_L_sJ, pq_L_sR, pq_L_sA, pq_I_sI, pq_I_sJ, pq_I_sR, pq_I_sA, pq_J_sI, pq_J_sJ, pq_J_sR, pq_J_sA, pq_R_sI, pq_R_sJ, pq_R_sR, pq_R_sA, pq_N_sI, pq_N_sJ, pq_N_sR, pq_N_sA, pq_S_sI, pq_S_sJ, pq_S_sR, pq_S_sA, pz_rf_s, pz_cut_i, pz_cut_r, pz_cut_n, pz_cut_f, pz_cut_u, pz_cut_o, true_and, and_true, true_or, or_true, Option.toList_some, Option.toList_none, List.cons_append, List.nil_append, Nat.add_left_cancel_iff, Nat.left_eq_add, Nat.add_eq_left, Nat.reduceEqDiff, if_true, if_false, ite_true, ite_false, false_and, and_false, false_or, or_false, reduceIte, reduceCtorEq, and_self, z_4, z_5, z_7, z_8, z_10, z_16, z_20, z_64, not_false_eq_true, D3.1, show ¬ (1 : Int32) = 0 by decide]
    refine c_writeMetainfo (d := d + 17) (co := sV A 0) D3 (SH_fr R.1.2.1 F13) (ROW_fr WO F13 (by simp) (by simp)) (ROW_fr X2 F3 (by simp) (by simp)) rfl n1 n2 c1 c2 n5 (fun h4 F4 X4 => ?_)
    rw [ehs] at X4
    have F14 : HF [1, 2, 3, 4, 5, 6, 8, 9] h h4 := HF_trans (HF_up F13 (by simp)) (HF_up F4 (by simp))
    have C4 := CO_fr R.1 F14
    obtain ⟨o1, o2, o3, o4, o5, o6, o7⟩ := C4.2.2.1
    have D4 := C4.1
    have L4 := LD_fr L F14
    have X4' := X4
    have Y4 := X4.1
    have nw : ∀ y, y = dr + 4 ∨ y = dr + 5 ∨ y = dr + 6 ∨ y = dr + 7 → y ∉ [1, 2, 3, 4, 5, 6, 8, 9] := fun y hy => by simp; omega
    simp only [enX9_make, uX9_make_0, uX9_make_0o, uX9_make_0f, uX9_make_1, uX9_make_1o, uX9_make_1f, uX9_make_2, uX9_make_5, uX9_make_8, uX9_make_9, uX9_make_12, uX9_make_13, uX9_make_14, uX9_make_17, uX9_make_17o, uX9_make_17f, uX9_make_18, uX9_make_21, uX9_make_22, uX9_make_25, uX9_make_25o, uX9_make_25f, uX9_make_26, uX9_make_29, uX9_make_29o, uX9_make_29f, uX9_make_30, uX9_make_33, uX9_make_34, uX9_make_34o, uX9_make_34f, uX9_make_35, uX9_make_38, uX9_make_41, uX9_make_44, uX9_make_44o, uX9_make_44f, uX9_make_45, uX9_make_48, uX9_make_49, uX9_make_52, uX9_make_53, uX9_make_56, uX9_make_57, uX9_make_58, uX9_make_58o, uX9_make_58f, uX9_make_59, uX9_make_60, uX9_make_63, uX9_make_63o, uX9_make_63f, uX9_make_64, uX9_make_67, uX9_make_67o, uX9_make_67f, uX9_make_68, uX9_make_71, uX9_make_74, uX9_make_75, uX9_make_75o, uX9_make_75f, uX9_make_76, uX9_make_79, uX9_make_79o, uX9_make_79f, uX9_make_80, uX9_make_83, uX9_make_83o, uX9_make_83f, uX9_make_84, uX9_make_87, uX9_make_90, uX9_make_93, uX9_make_96, uX9_make_96o, uX9_make_96f, uX9_make_97, uX9_make_100, uX9_make_103, pq_C_sI, pq_C_sJ, pq_C_sR, pq_C_sA, pq_L_sI, pq_L_sJ, pq_L_sR, pq_L_sA, pq_I_sI, pq_I_sJ, pq_I_sR, pq_I_sA, pq_J_sI, pq_J_sJ, pq_J_sR, pq_J_sA, pq_R_sI, pq_R_sJ, pq_R_sR, pq_R_sA, pq_N_sI, pq_N_sJ, pq_N_sR, pq_N_sA, pq_S_sI, pq_S_sJ, pq_S_sR, pq_S_sA, pz_rf_s, pz_cut_i, pz_cut_r, pz_cut_n, pz_cut_f, pz_cut_u, pz_cut_o, true_and, and_true, true_or, or_true, Option.toList_some, Option.toList_none, List.cons_append, List.nil_append, Nat.add_left_cancel_iff, Nat.left_eq_add, Nat.add_eq_left, Nat.reduceEqDiff, if_true, if_false, ite_true, ite_false, false_and, and_false, false_or, or_false, reduceIte, reduceCtorEq, and_self, z_4, z_5, z_7, z_8, z_10, z_16, z_20, z_64, not_false_eq_true, D4.1, D4.2.2.1, D4.2.2.2.2.2.1, o1, Y4]
    generalize eV : mkL (sV A 0).length c (nPc (sV A 0).length c) hs = V at *
    refine c_read (hR := pz_sR h4 11 0 (some 3)) rfl o4 o5 o6 o7 X4 (by decide) L4 (SH_fr R.1.2.1 F14) (ROW_fr W4 F14 (nw _ (by omega)) (nw _ (by omega))) (ROW_fr W6 F14 (nw _ (by omega)) (nw _ (by omega))) (fun h5 no _ _ => absurd q1 no) (fun h5 cd _ em _ _ => by rw [q2] at em; cases em) (fun h5 l5 c5 fs5 q5 i5 _ em nr F5 hv D5 => ?_)
    rw [q2] at em
    cases em
    unfold DRD at D5
    rw [q3, q4] at D5
    have G5 : HG (ldC dr) h h5 := HG_trans (HG_up (HG_HF F14) (fun x hx => by unfold ldC; simp at hx ⊢; omega)) (HG_trans (HG_sR (Or.inl ⟨rfl, rfl⟩)) (HG_up (HG_HF F5) (fun x => rdC_C)))
    have C5 := CO_G R.1 G5
    have D0 := C5.1
    have r15 : pz_R h5 23 3 = some t := by rw [F5.2.2.1, pq_R_sR, if_neg (by decide), F14.2.2.1]; exact r1
    have r25 : pz_R h5 10 2 = some dr := by rw [F5.2.2.1, pq_R_sR, if_neg (by decide), F14.2.2.1]; exact L.1.2.2.2
    simp only [enX9_make, uX9_make_0, uX9_make_0o, uX9_make_0f, uX9_make_1, uX9_make_1o, uX9_make_1f, uX9_make_2, uX9_make_5, uX9_make_8, uX9_make_9, uX9_make_12, uX9_make_13, uX9_make_14, uX9_make_17, uX9_make_17o, uX9_make_17f, uX9_make_18, uX9_make_21, uX9_make_22, uX9_make_25, uX9_make_25o, uX9_make_25f, uX9_make_26, uX9_make_29, uX9_make_29o, uX9_make_29f, uX9_make_30, uX9_make_33, uX9_make_34, uX9_make_34o, uX9_make_34f, uX9_make_35, uX9_make_38, uX9_make_41, uX9_make_44, uX9_make_44o, uX9_make_44f, uX9_make_45, uX9_make_48, uX9_make_49, uX9_make_52, uX9_make_53, uX9_make_56, uX9_make_57, uX9_make_58, uX9_make_58o, uX9_make_58f, uX9_make_59, uX9_make_60, uX9_make_63, uX9_make_63o, uX9_make_63f, uX9_make_64, uX9_make_67, uX9_make_67o, uX9_make_67f, uX9_make_68, uX9_make_71, uX9_make_74, uX9_make_75, uX9_make_75o, uX9_make_75f, uX9_make_76, uX9_make_79, uX9_make_79o, uX9_make_79f, uX9_make_80, uX9_make_83, uX9_make_83o, uX9_make_83f, uX9_make_84, uX9_make_87, uX9_make_90, uX9_make_93, uX9_make_96, uX9_make_96o, uX9_make_96f, uX9_make_97, uX9_make_100, uX9_make_103, pq_C_sI, pq_C_sJ, pq_C_sR, pq_C_sA, pq_L_sI, pq_L_sJ, pq_L_sR, pq_L_sA, pq_I_sI, pq_I_sJ, pq_I_sR, pq_I_sA, pq_J_sI, pq_J_sJ, pq_J_sR, pq_J_sA, pq_R_sI, pq_R_sJ, pq_R_sR, pq_R_sA, pq_N_sI, pq_N_sJ, pq_N_sR, pq_N_sA, pq_S_sI, pq_S_sJ, pq_S_sR, pq_S_sA, pz_rf_s, pz_cut_i, pz_cut_r, pz_cut_n, pz_cut_f, pz_cut_u, pz_cut_o, true_and, and_true, true_or, or_true, Option.toList_some, Option.toList_none, List.cons_append, List.nil_append, Nat.add_left_cancel_iff, Nat.left_eq_add, Nat.add_eq_left, Nat.reduceEqDiff, if_true, if_false, ite_true, ite_false, false_and, and_false, false_or, or_false, reduceIte, reduceCtorEq, and_self, z_4, z_5, z_7, z_8, z_10, z_16, z_20, z_64, not_false_eq_true, D0.1, D0.2.2.2.2.2.1, D0.2.2.2.2.2.2.1, C5.2.2.1.1, C5.2.2.2.2.2.1.1, r15, c_handOver C5.2.2.1.1 r25]
    have G6 : HG (ldC dr) h (pz_sR (pz_sR h5 10 2 (some t)) 23 3 (some dr)) := HG_trans G5 (HG_trans (HG_sR (Or.inr (Or.inl ⟨rfl, rfl⟩))) (HG_sR (Or.inr (Or.inr ⟨rfl, rfl⟩))))
    have Gs : HG ([] : List Nat) h5 (pz_sR (pz_sR h5 10 2 (some t)) 23 3 (some dr)) := HG_trans (HG_sR (Or.inr (Or.inl ⟨rfl, rfl⟩))) (HG_sR (Or.inr (Or.inr ⟨rfl, rfl⟩)))
    have G45 : HG (rdC dr) h4 (pz_sR (pz_sR h5 10 2 (some t)) 23 3 (some dr)) := HG_trans (HG_sR (Or.inl ⟨rfl, rfl⟩)) (HG_trans (HG_HF F5) (HG_up Gs (by simp)))
    obtain ⟨⟨dl1, dl2, dl3⟩, di1, di2, dw4, dw6⟩ := D5
    have R5 : RC (pz_sR (pz_sR h5 10 2 (some t)) 23 3 (some dr)) (mk2 A (sV A 0).length c hs) := by
      refine RC_new (l := (sV A 0).length) (c := c) (fs := []) R htd L T G6 ?_ ?_ ⟨dl1, dl2, dl3⟩ di1 di2 (ROW_G dw4 Gs (by simp) (by simp) (by omega)) (ROW_G dw6 Gs (by simp) (by simp) (by omega)) ⟨?_, ?_, ?_, ?_⟩ rfl rfl rfl rfl rfl rfl rfl rfl rfl rfl (fun r hr => ?_)
      · rw [pq_R_sR, if_pos ⟨rfl, rfl⟩]
      · rw [pq_R_sR, if_neg (by decide), pq_R_sR, if_pos ⟨rfl, rfl⟩]
      · exact ROW_G (ROW_fr X3 F4 (by simp) (by simp)) G45 (by unfold rdC; simp; omega) (by unfold rdC; simp; omega) (by decide)
      · rw [← eV] at X4'
        exact ROW_G X4' G45 (by unfold rdC; simp; omega) (by unfold rdC; simp; omega) (by decide)
      · exact ROW_G (ROW_fr (ROW_fr X2 F3 (by simp) (by simp)) F4 (by simp) (by simp)) G45 (by unfold rdC; simp; omega) (by unfold rdC; simp; omega) (by decide)
      · rw [G45.2.2.2.2.2.2.2.1 0 (by unfold rdC; simp; omega), F14.2.2.2.2.2.2.2.1 0 (by simp)]
        exact R.2.2.1.2.2.2
      · show pz_u2 (pz_u2 (pz_u2 (pz_u2 (pz_u2 (sB A) 0 18 _) 0 19 _) 0 20 _) 0 21 _) 0 17 _ r = sB A r
        rw [gu_r hr, gu_r hr, gu_r hr, gu_r hr, gu_r hr]
    have H5 : HC h (pz_sR (pz_sR h5 10 2 (some t)) 23 3 (some dr)) := HC_HG G6 (fun x hx => by have := ldC_in hd hx; omega)
    have eo : sV (anA (mk2 A (sV A 0).length c hs) 4) 1 = V := by
      rw [← eV, (anA_V 4).1]
      rfl
    generalize mk2 A (sV A 0).length c hs = A5 at R5 K eo
    generalize hY : anA A5 4 = Y at K eo
    refine c_restart (d := d + 17) (h1 := pz_sR (pz_sR h5 10 2 (some t)) 23 3 (some dr)) rfl C5.2.2.2.2.2.1.1 R5 (fun h6 H6 R6 => ?_)
    rw [hY] at R6
    obtain ⟨u0, u1, u2, u3, u4, u5, u6, u7⟩ := DS_of R6
    have X6 := R6.2.2.1.2.1
    have Y6 := X6.1
    simp only [enX9_make, uX9_make_0, uX9_make_0o, uX9_make_0f, uX9_make_1, uX9_make_1o, uX9_make_1f, uX9_make_2, uX9_make_5, uX9_make_8, uX9_make_9, uX9_make_12, uX9_make_13, uX9_make_14, uX9_make_17, uX9_make_17o, uX9_make_17f, uX9_make_18, uX9_make_21, uX9_make_22, uX9_make_25, uX9_make_25o, uX9_make_25f, uX9_make_26, uX9_make_29, uX9_make_29o, uX9_make_29f, uX9_make_30, uX9_make_33, uX9_make_34, uX9_make_34o, uX9_make_34f, uX9_make_35, uX9_make_38, uX9_make_41, uX9_make_44, uX9_make_44o, uX9_make_44f, uX9_make_45, uX9_make_48, uX9_make_49, uX9_make_52, uX9_make_53, uX9_make_56, uX9_make_57, uX9_make_58, uX9_make_58o, uX9_make_58f, uX9_make_59, uX9_make_60, uX9_make_63, uX9_make_63o, uX9_make_63f, uX9_make_64, uX9_make_67, uX9_make_67o, uX9_make_67f, uX9_make_68, uX9_make_71, uX9_make_74, uX9_make_75, uX9_make_75o, uX9_make_75f, uX9_make_76, uX9_make_79, uX9_make_79o, uX9_make_79f, uX9_make_80, uX9_make_83, uX9_make_83o, uX9_make_83f, uX9_make_84, uX9_make_87, uX9_make_90, uX9_make_93, uX9_make_96, uX9_make_96o, uX9_make_96f, uX9_make_97, uX9_make_100, uX9_make_103, pq_C_sI, pq_C_sJ, pq_C_sR, pq_C_sA, pq_L_sI, pq_L_sJ, pq_L_sR, pq_L_sA, pq_I_sI, pq_I_sJ, pq_I_sR, pq_I_sA, pq_J_sI, pq_J_sJ, pq_J_sR, pq_J_sA, pq_R_sI, pq_R_sJ, pq_R_sR, pq_R_sA, pq_N_sI, pq_N_sJ, pq_N_sR, pq_N_sA, pq_S_sI, pq_S_sJ, pq_S_sR, pq_S_sA, pz_rf_s, pz_cut_i, pz_cut_r, pz_cut_n, pz_cut_f, pz_cut_u, pz_cut_o, true_and, and_true, true_or, or_true, Option.toList_some, Option.toList_none, List.cons_append, List.nil_append, Nat.add_left_cancel_iff, Nat.left_eq_add, Nat.add_eq_left, Nat.reduceEqDiff, if_true, if_false, ite_true, ite_false, false_and, and_false, false_or, or_false, reduceIte, reduceCtorEq, and_self, z_4, z_5, z_7, z_8, z_10, z_16, z_20, z_64, not_false_eq_true, u0, u2, Y6, c_size X6]
    rw [eo]
    exact K h6 (HC_trans H5 H6) R6
  · rw [if_neg ok] at K im
    simp only [enX9_make, uX9_make_0, uX9_make_0o, uX9_make_0f, uX9_make_1, uX9_make_1o, uX9_make_1f, uX9_make_2, uX9_make_5, uX9_make_8, uX9_make_9, uX9_make_12, uX9_make_13, uX9_make_14, uX9_make_17, uX9_make_17o, uX9_make_17f, uX9_make_18, uX9_make_21, uX9_make_22, uX9_make_25, uX9_make_25o, uX9_make_25f, uX9_make_26, uX9_make_29, uX9_make_29o, uX9_make_29f, uX9_make_30, uX9_make_33, uX9_make_34, uX9_make_34o, uX9_make_34f, uX9_make_35, uX9_make_38, uX9_make_41, uX9_make_44, uX9_make_44o, uX9_make_44f, uX9_make_45, uX9_make_48, uX9_make_49, uX9_make_52, uX9_make_53, uX9_make_56, uX9_make_57, uX9_make_58, uX9_make_58o, uX9_make_58f, uX9_make_59, uX9_make_60, uX9_make_63, uX9_make_63o, uX9_make_63f, uX9_make_64, uX9_make_67, uX9_make_67o, uX9_make_67f, uX9_make_68, uX9_make_71, uX9_make_74, uX9_make_75, uX9_make_75o, uX9_make_75f, uX9_make_76, uX9_make_79, uX9_make_79o, uX9_make_79f, uX9_make_80, uX9_make_83, uX9_make_83o, uX9_make_83f, uX9_make_84, uX9_make_87, uX9_make_90, uX9_make_93, uX9_make_96, uX9_make_96o, uX9_make_96f, uX9_make_97, uX9_make_100, uX9_make_103, pq_C_sI, pq_C_sJ, pq_C_sR, pq_C_sA, pq_L_sI, pq_L_sJ, pq_L_sR, pq_L_sA, pq_I_sI, pq_I_sJ, pq_I_sR, pq_I_sA, pq_J_sI, pq_J_sJ, pq_J_sR, pq_J_sA, pq_R_sI, pq_R_sJ, pq_R_sR, pq_R_sA, pq_N_sI, pq_N_sJ, pq_N_sR, pq_N_sA, pq_S_sI, pq_S_sJ, pq_S_sR, pq_S_sA, pz_rf_s, pz_cut_i, pz_cut_r, pz_cut_n, pz_cut_f, pz_cut_u, pz_cut_o, true_and, and_true, true_or, or_true, Option.toList_some, Option.toList_none, List.cons_append, List.nil_append, Nat.add_left_cancel_iff, Nat.left_eq_add, Nat.add_eq_left, Nat.reduceEqDiff, if_true, if_false, ite_true, ite_false, false_and, and_false, false_or, or_false, reduceIte, reduceCtorEq, and_self, z_4, z_5, z_7, z_8, z_10, z_16, z_20, z_64, not_false_eq_true, s0, s1, W1, c_size W, im, not_true_eq_false]
    refine c_cut0 W (fun h1 F1 X1 => ?_)
    simp only [enX9_make, uX9_make_0, uX9_make_0o, uX9_make_0f, uX9_make_1, uX9_make_1o, uX9_make_1f, uX9_make_2, uX9_make_5, uX9_make_8, uX9_make_9, uX9_make_12, uX9_make_13, uX9_make_14, uX9_make_17, uX9_make_17o, uX9_make_17f, uX9_make_18, uX9_make_21, uX9_make_22, uX9_make_25, uX9_make_25o, uX9_make_25f, uX9_make_26, uX9_make_29, uX9_make_29o, uX9_make_29f, uX9_make_30, uX9_make_33, uX9_make_34, uX9_make_34o, uX9_make_34f, uX9_make_35, uX9_make_38, uX9_make_41, uX9_make_44, uX9_make_44o, uX9_make_44f, uX9_make_45, uX9_make_48, uX9_make_49, uX9_make_52, uX9_make_53, uX9_make_56, uX9_make_57, uX9_make_58, uX9_make_58o, uX9_make_58f, uX9_make_59, uX9_make_60, uX9_make_63, uX9_make_63o, uX9_make_63f, uX9_make_64, uX9_make_67, uX9_make_67o, uX9_make_67f, uX9_make_68, uX9_make_71, uX9_make_74, uX9_make_75, uX9_make_75o, uX9_make_75f, uX9_make_76, uX9_make_79, uX9_make_79o, uX9_make_79f, uX9_make_80, uX9_make_83, uX9_make_83o, uX9_make_83f, uX9_make_84, uX9_make_87, uX9_make_90, uX9_make_93, uX9_make_96, uX9_make_96o, uX9_make_96f, uX9_make_97, uX9_make_100, uX9_make_103, pq_C_sI, pq_C_sJ, pq_C_sR, pq_C_sA, pq_L_sI, pq_L_sJ, pq_L_sR, pq_L_sA, pq_I_sI, pq_I_sJ, pq_I_sR, pq_I_sA, pq_J_sI, pq_J_sJ, pq_J_sR, pq_J_sA, pq_R_sI, pq_R_sJ, pq_R_sR, pq_R_sA, pq_N_sI, pq_N_sJ, pq_N_sR, pq_N_sA, pq_S_sI, pq_S_sJ, pq_S_sR, pq_S_sA, pz_rf_s, pz_cut_i, pz_cut_r, pz_cut_n, pz_cut_f, pz_cut_u, pz_cut_o, true_and, and_true, true_or, or_true, Option.toList_some, Option.toList_none, List.cons_append, List.nil_append, Nat.add_left_cancel_iff, Nat.left_eq_add, Nat.add_eq_left, Nat.reduceEqDiff, if_true, if_false, ite_true, ite_false, false_and, and_false, false_or, or_false, reduceIte, reduceCtorEq, and_self, z_4, z_5, z_7, z_8, z_10, z_16, z_20, z_64, not_false_eq_true, not_true_eq_false]
    exact K h1 (HC_12 F1) (RC_V0 R F1 X1)
end
