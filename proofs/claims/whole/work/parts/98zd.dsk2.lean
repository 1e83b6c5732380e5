/-! ===== constructors: the desk, whole ===== -/
section
variable {d : Nat} {h : PzH} {Q : Option Value → PzH → Prop}
theorem ad3 {a b c e : Nat} (h : b + c = e) : a + b + c = a + e := by rw [Nat.add_assoc, h]
theorem i_desk (hC : pz_C h 0 = 9) (hN : pz_N h = 1) (K : ∀ h', pz_XL h' = pz_XL h → pz_XS h' = pz_XS h → pz_N h' = 138 → pz_S h' = pz_S h + 122384 → DKF h' → Q none h') : pz_M (d + 4) mX9_init [.ref 0] h Q := by
  have n0 := hN
  have c0 := hC
  simp only [enX9_init, uX9_init_0, uX9_init_0o, uX9_init_0f, uX9_init_1, uX9_init_4, uX9_init_4o, uX9_init_4f, uX9_init_5, uX9_init_8, uX9_init_9, uX9_init_12, uX9_init_15, uX9_init_15o, uX9_init_18, uX9_init_18o, uX9_init_18f, uX9_init_19, uX9_init_22, uX9_init_23, uX9_init_26, uX9_init_29, uX9_init_29o, uX9_init_32, uX9_init_32o, uX9_init_32f, uX9_init_33, uX9_init_36, uX9_init_37, uX9_init_40, uX9_init_43, uX9_init_43o, uX9_init_46, uX9_init_46o, uX9_init_46f, uX9_init_47, uX9_init_50, uX9_init_51, uX9_init_54, uX9_init_54o, uX9_init_57, uX9_init_57o, uX9_init_57f, uX9_init_58, uX9_init_61, uX9_init_62, uX9_init_62o, uX9_init_62f, uX9_init_63, uX9_init_66, uX9_init_69, uX9_init_69o, uX9_init_72, uX9_init_72o, uX9_init_72f, uX9_init_73, uX9_init_76, uX9_init_77, uX9_init_80, uX9_init_80o, uX9_init_83, uX9_init_83o, uX9_init_83f, uX9_init_84, uX9_init_87, uX9_init_88, uX9_init_88o, uX9_init_88f, uX9_init_89, uX9_init_92, uX9_init_92o, uX9_init_92f, uX9_init_93, uX9_init_96, uX9_init_99, uX9_init_99o, uX9_init_102, uX9_init_102o, uX9_init_102f, uX9_init_103, uX9_init_104, uX9_init_107, pq_C_sI, pq_C_sJ, pq_C_sR, pq_C_sA, pq_L_sI, pq_L_sJ, pq_L_sR, pq_L_sA, pq_I_sI, pq_I_sJ, pq_I_sR, pq_I_sA, pq_J_sI, pq_J_sJ, pq_J_sR, pq_J_sA, pq_R_sI, pq_R_sJ, pq_R_sR, pq_R_sA, pq_N_sI, pq_N_sJ, pq_N_sR, pq_N_sA, pq_S_sI, pq_S_sJ, pq_S_sR, pq_S_sA, pz_rf_s, pz_cut_i, pz_cut_r, pz_cut_n, pz_cut_f, pz_cut_u, pz_cut_o, true_and, and_true, true_or, or_true, Option.toList_some, Option.toList_none, List.cons_append, List.nil_append, Nat.add_left_cancel_iff, Nat.left_eq_add, Nat.add_eq_left, Nat.reduceEqDiff, if_true, if_false, ite_true, ite_false, false_and, and_false, false_or, or_false, reduceIte, reduceCtorEq, and_self, z_4, z_5, z_7, z_8, z_10, z_16, z_20, z_64, not_false_eq_true, n0, c0]
  refine n_row (cap := 6000) (x := 1) (by decide) n0 (by decide) (fun k1 F1 m1 s1 wa => ?_)
  have E1 : CX 1 h k1 := F1
  have cc1 : pz_C k1 0 = 9 := by rw [(E1.1 0 (by decide)).1]; exact c0
  simp only [enX9_init, uX9_init_0, uX9_init_0o, uX9_init_0f, uX9_init_1, uX9_init_4, uX9_init_4o, uX9_init_4f, uX9_init_5, uX9_init_8, uX9_init_9, uX9_init_12, uX9_init_15, uX9_init_15o, uX9_init_18, uX9_init_18o, uX9_init_18f, uX9_init_19, uX9_init_22, uX9_init_23, uX9_init_26, uX9_init_29, uX9_init_29o, uX9_init_32, uX9_init_32o, uX9_init_32f, uX9_init_33, uX9_init_36, uX9_init_37, uX9_init_40, uX9_init_43, uX9_init_43o, uX9_init_46, uX9_init_46o, uX9_init_46f, uX9_init_47, uX9_init_50, uX9_init_51, uX9_init_54, uX9_init_54o, uX9_init_57, uX9_init_57o, uX9_init_57f, uX9_init_58, uX9_init_61, uX9_init_62, uX9_init_62o, uX9_init_62f, uX9_init_63, uX9_init_66, uX9_init_69, uX9_init_69o, uX9_init_72, uX9_init_72o, uX9_init_72f, uX9_init_73, uX9_init_76, uX9_init_77, uX9_init_80, uX9_init_80o, uX9_init_83, uX9_init_83o, uX9_init_83f, uX9_init_84, uX9_init_87, uX9_init_88, uX9_init_88o, uX9_init_88f, uX9_init_89, uX9_init_92, uX9_init_92o, uX9_init_92f, uX9_init_93, uX9_init_96, uX9_init_99, uX9_init_99o, uX9_init_102, uX9_init_102o, uX9_init_102f, uX9_init_103, uX9_init_104, uX9_init_107, pq_C_sI, pq_C_sJ, pq_C_sR, pq_C_sA, pq_L_sI, pq_L_sJ, pq_L_sR, pq_L_sA, pq_I_sI, pq_I_sJ, pq_I_sR, pq_I_sA, pq_J_sI, pq_J_sJ, pq_J_sR, pq_J_sA, pq_R_sI, pq_R_sJ, pq_R_sR, pq_R_sA, pq_N_sI, pq_N_sJ, pq_N_sR, pq_N_sA, pq_S_sI, pq_S_sJ, pq_S_sR, pq_S_sA, pz_rf_s, pz_cut_i, pz_cut_r, pz_cut_n, pz_cut_f, pz_cut_u, pz_cut_o, true_and, and_true, true_or, or_true, Option.toList_some, Option.toList_none, List.cons_append, List.nil_append, Nat.add_left_cancel_iff, Nat.left_eq_add, Nat.add_eq_left, Nat.reduceEqDiff, if_true, if_false, ite_true, ite_false, false_and, and_false, false_or, or_false, reduceIte, reduceCtorEq, and_self, z_4, z_5, z_7, z_8, z_10, z_16, z_20, z_64, not_false_eq_true, cc1, m1, pq_C_new, pq_L_new, pq_I_new, pq_J_new, pq_R_new, pq_N_new, pq_S_new, Nat.add_assoc, Nat.reduceAdd, kz_4, kz_5, kz_8, kz_16, kz_20, kz_25, kz_64, kz_80, kz_6000]
  obtain ⟨c1, q1, r1_0⟩ := r_nx (v := some 1) (k := 0) E1 (by decide)
  rw [c0] at c1
  have n1 : pz_N (pz_sR k1 0 0 (some 1)) = 3 := m1
  have t1 : pz_S (pz_sR k1 0 0 (some 1)) = pz_S h + 6002 := by
    have e := s1
    show pz_S k1 = _
    omega
  have Z1 : CZ 1 h (pz_sR k1 0 0 (some 1)) := CZ_trans (CZ_CX E1) CZ_sR
  have xl1 : pz_XL (pz_sR k1 0 0 (some 1)) = pz_XL h ∧ pz_XS (pz_sR k1 0 0 (some 1)) = pz_XS h := ⟨E1.2.1, E1.2.2⟩
  have wa_1 := ROW_sR (x := 0) (k := 0) (v := some 1) wa (by decide)
  clear q1
  generalize pz_sR k1 0 0 (some 1) = g1 at *
  refine n_row (cap := 6000) (x := 3) (by decide) n1 (by decide) (fun k2 F2 m2 s2 wb => ?_)
  have E2 : CX 3 g1 k2 := F2
  have cc2 : pz_C k2 0 = 9 := by rw [(E2.1 0 (by decide)).1]; exact c1
  simp only [enX9_init, uX9_init_0, uX9_init_0o, uX9_init_0f, uX9_init_1, uX9_init_4, uX9_init_4o, uX9_init_4f, uX9_init_5, uX9_init_8, uX9_init_9, uX9_init_12, uX9_init_15, uX9_init_15o, uX9_init_18, uX9_init_18o, uX9_init_18f, uX9_init_19, uX9_init_22, uX9_init_23, uX9_init_26, uX9_init_29, uX9_init_29o, uX9_init_32, uX9_init_32o, uX9_init_32f, uX9_init_33, uX9_init_36, uX9_init_37, uX9_init_40, uX9_init_43, uX9_init_43o, uX9_init_46, uX9_init_46o, uX9_init_46f, uX9_init_47, uX9_init_50, uX9_init_51, uX9_init_54, uX9_init_54o, uX9_init_57, uX9_init_57o, uX9_init_57f, uX9_init_58, uX9_init_61, uX9_init_62, uX9_init_62o, uX9_init_62f, uX9_init_63, uX9_init_66, uX9_init_69, uX9_init_69o, uX9_init_72, uX9_init_72o, uX9_init_72f, uX9_init_73, uX9_init_76, uX9_init_77, uX9_init_80, uX9_init_80o, uX9_init_83, uX9_init_83o, uX9_init_83f, uX9_init_84, uX9_init_87, uX9_init_88, uX9_init_88o, uX9_init_88f, uX9_init_89, uX9_init_92, uX9_init_92o, uX9_init_92f, uX9_init_93, uX9_init_96, uX9_init_99, uX9_init_99o, uX9_init_102, uX9_init_102o, uX9_init_102f, uX9_init_103, uX9_init_104, uX9_init_107, pq_C_sI, pq_C_sJ, pq_C_sR, pq_C_sA, pq_L_sI, pq_L_sJ, pq_L_sR, pq_L_sA, pq_I_sI, pq_I_sJ, pq_I_sR, pq_I_sA, pq_J_sI, pq_J_sJ, pq_J_sR, pq_J_sA, pq_R_sI, pq_R_sJ, pq_R_sR, pq_R_sA, pq_N_sI, pq_N_sJ, pq_N_sR, pq_N_sA, pq_S_sI, pq_S_sJ, pq_S_sR, pq_S_sA, pz_rf_s, pz_cut_i, pz_cut_r, pz_cut_n, pz_cut_f, pz_cut_u, pz_cut_o, true_and, and_true, true_or, or_true, Option.toList_some, Option.toList_none, List.cons_append, List.nil_append, Nat.add_left_cancel_iff, Nat.left_eq_add, Nat.add_eq_left, Nat.reduceEqDiff, if_true, if_false, ite_true, ite_false, false_and, and_false, false_or, or_false, reduceIte, reduceCtorEq, and_self, z_4, z_5, z_7, z_8, z_10, z_16, z_20, z_64, not_false_eq_true, cc2, m2, pq_C_new, pq_L_new, pq_I_new, pq_J_new, pq_R_new, pq_N_new, pq_S_new, Nat.add_assoc, Nat.reduceAdd, kz_4, kz_5, kz_8, kz_16, kz_20, kz_25, kz_64, kz_80, kz_6000]
  obtain ⟨c2, q2, r2_1⟩ := r_nx (v := some 3) (k := 1) E2 (by decide)
  rw [c1] at c2
  have r2_0 := (q2 0 (by decide)).trans r1_0
  have n2 : pz_N (pz_sR k2 0 1 (some 3)) = 5 := m2
  have t2 : pz_S (pz_sR k2 0 1 (some 3)) = pz_S g1 + 6002 := by
    have e := s2
    show pz_S k2 = _
    omega
  have Z2 : CZ 3 g1 (pz_sR k2 0 1 (some 3)) := CZ_trans (CZ_CX E2) CZ_sR
  have xl2 : pz_XL (pz_sR k2 0 1 (some 3)) = pz_XL h ∧ pz_XS (pz_sR k2 0 1 (some 3)) = pz_XS h := ⟨E2.2.1.trans xl1.1, E2.2.2.trans xl1.2⟩
  have wb_2 := ROW_sR (x := 0) (k := 1) (v := some 3) wb (by decide)
  have wa_2 := ROW_CZ wa_1 Z2 (by decide) (by decide) (by decide)
  clear q2
  generalize pz_sR k2 0 1 (some 3) = g2 at *
  refine n_row (cap := 4096) (x := 5) (by decide) n2 (by decide) (fun k3 F3 m3 s3 wc => ?_)
  have E3 : CX 5 g2 k3 := F3
  have cc3 : pz_C k3 0 = 9 := by rw [(E3.1 0 (by decide)).1]; exact c2
  simp only [enX9_init, uX9_init_0, uX9_init_0o, uX9_init_0f, uX9_init_1, uX9_init_4, uX9_init_4o, uX9_init_4f, uX9_init_5, uX9_init_8, uX9_init_9, uX9_init_12, uX9_init_15, uX9_init_15o, uX9_init_18, uX9_init_18o, uX9_init_18f, uX9_init_19, uX9_init_22, uX9_init_23, uX9_init_26, uX9_init_29, uX9_init_29o, uX9_init_32, uX9_init_32o, uX9_init_32f, uX9_init_33, uX9_init_36, uX9_init_37, uX9_init_40, uX9_init_43, uX9_init_43o, uX9_init_46, uX9_init_46o, uX9_init_46f, uX9_init_47, uX9_init_50, uX9_init_51, uX9_init_54, uX9_init_54o, uX9_init_57, uX9_init_57o, uX9_init_57f, uX9_init_58, uX9_init_61, uX9_init_62, uX9_init_62o, uX9_init_62f, uX9_init_63, uX9_init_66, uX9_init_69, uX9_init_69o, uX9_init_72, uX9_init_72o, uX9_init_72f, uX9_init_73, uX9_init_76, uX9_init_77, uX9_init_80, uX9_init_80o, uX9_init_83, uX9_init_83o, uX9_init_83f, uX9_init_84, uX9_init_87, uX9_init_88, uX9_init_88o, uX9_init_88f, uX9_init_89, uX9_init_92, uX9_init_92o, uX9_init_92f, uX9_init_93, uX9_init_96, uX9_init_99, uX9_init_99o, uX9_init_102, uX9_init_102o, uX9_init_102f, uX9_init_103, uX9_init_104, uX9_init_107, pq_C_sI, pq_C_sJ, pq_C_sR, pq_C_sA, pq_L_sI, pq_L_sJ, pq_L_sR, pq_L_sA, pq_I_sI, pq_I_sJ, pq_I_sR, pq_I_sA, pq_J_sI, pq_J_sJ, pq_J_sR, pq_J_sA, pq_R_sI, pq_R_sJ, pq_R_sR, pq_R_sA, pq_N_sI, pq_N_sJ, pq_N_sR, pq_N_sA, pq_S_sI, pq_S_sJ, pq_S_sR, pq_S_sA, pz_rf_s, pz_cut_i, pz_cut_r, pz_cut_n, pz_cut_f, pz_cut_u, pz_cut_o, true_and, and_true, true_or, or_true, Option.toList_some, Option.toList_none, List.cons_append, List.nil_append, Nat.add_left_cancel_iff, Nat.left_eq_add, Nat.add_eq_left, Nat.reduceEqDiff, if_true, if_false, ite_true, ite_false, false_and, and_false, false_or, or_false, reduceIte, reduceCtorEq, and_self, z_4, z_5, z_7, z_8, z_10, z_16, z_20, z_64, not_false_eq_true, cc3, m3, pq_C_new, pq_L_new, pq_I_new, pq_J_new, pq_R_new, pq_N_new, pq_S_new, Nat.add_assoc, Nat.reduceAdd, kz_4, kz_5, kz_8, kz_16, kz_20, kz_25, kz_64, kz_80, kz_6000]
  obtain ⟨c3, q3, r3_2⟩ := r_nx (v := some 5) (k := 2) E3 (by decide)
  rw [c2] at c3
  have r3_0 := (q3 0 (by decide)).trans r2_0
  have r3_1 := (q3 1 (by decide)).trans r2_1
  have n3 : pz_N (pz_sR k3 0 2 (some 5)) = 7 := m3
  have t3 : pz_S (pz_sR k3 0 2 (some 5)) = pz_S g2 + 4098 := by
    have e := s3
    show pz_S k3 = _
    omega
  have Z3 : CZ 5 g2 (pz_sR k3 0 2 (some 5)) := CZ_trans (CZ_CX E3) CZ_sR
  have xl3 : pz_XL (pz_sR k3 0 2 (some 5)) = pz_XL h ∧ pz_XS (pz_sR k3 0 2 (some 5)) = pz_XS h := ⟨E3.2.1.trans xl2.1, E3.2.2.trans xl2.2⟩
  have wc_3 := ROW_sR (x := 0) (k := 2) (v := some 5) wc (by decide)
  have wa_3 := ROW_CZ wa_2 Z3 (by decide) (by decide) (by decide)
  have wb_3 := ROW_CZ wb_2 Z3 (by decide) (by decide) (by decide)
  clear q3
  generalize pz_sR k3 0 2 (some 5) = g3 at *
  refine i_sha (new_C n3) (by rw [pq_N_new, n3]) (fun k4 F4 m4 s4 sh => ?_)
  have E4 : CX 7 g3 k4 := CX_trans (CX_new (by omega)) F4
  have cc4 : pz_C k4 0 = 9 := by rw [(E4.1 0 (by decide)).1]; exact c3
  simp only [enX9_init, uX9_init_0, uX9_init_0o, uX9_init_0f, uX9_init_1, uX9_init_4, uX9_init_4o, uX9_init_4f, uX9_init_5, uX9_init_8, uX9_init_9, uX9_init_12, uX9_init_15, uX9_init_15o, uX9_init_18, uX9_init_18o, uX9_init_18f, uX9_init_19, uX9_init_22, uX9_init_23, uX9_init_26, uX9_init_29, uX9_init_29o, uX9_init_32, uX9_init_32o, uX9_init_32f, uX9_init_33, uX9_init_36, uX9_init_37, uX9_init_40, uX9_init_43, uX9_init_43o, uX9_init_46, uX9_init_46o, uX9_init_46f, uX9_init_47, uX9_init_50, uX9_init_51, uX9_init_54, uX9_init_54o, uX9_init_57, uX9_init_57o, uX9_init_57f, uX9_init_58, uX9_init_61, uX9_init_62, uX9_init_62o, uX9_init_62f, uX9_init_63, uX9_init_66, uX9_init_69, uX9_init_69o, uX9_init_72, uX9_init_72o, uX9_init_72f, uX9_init_73, uX9_init_76, uX9_init_77, uX9_init_80, uX9_init_80o, uX9_init_83, uX9_init_83o, uX9_init_83f, uX9_init_84, uX9_init_87, uX9_init_88, uX9_init_88o, uX9_init_88f, uX9_init_89, uX9_init_92, uX9_init_92o, uX9_init_92f, uX9_init_93, uX9_init_96, uX9_init_99, uX9_init_99o, uX9_init_102, uX9_init_102o, uX9_init_102f, uX9_init_103, uX9_init_104, uX9_init_107, pq_C_sI, pq_C_sJ, pq_C_sR, pq_C_sA, pq_L_sI, pq_L_sJ, pq_L_sR, pq_L_sA, pq_I_sI, pq_I_sJ, pq_I_sR, pq_I_sA, pq_J_sI, pq_J_sJ, pq_J_sR, pq_J_sA, pq_R_sI, pq_R_sJ, pq_R_sR, pq_R_sA, pq_N_sI, pq_N_sJ, pq_N_sR, pq_N_sA, pq_S_sI, pq_S_sJ, pq_S_sR, pq_S_sA, pz_rf_s, pz_cut_i, pz_cut_r, pz_cut_n, pz_cut_f, pz_cut_u, pz_cut_o, true_and, and_true, true_or, or_true, Option.toList_some, Option.toList_none, List.cons_append, List.nil_append, Nat.add_left_cancel_iff, Nat.left_eq_add, Nat.add_eq_left, Nat.reduceEqDiff, if_true, if_false, ite_true, ite_false, false_and, and_false, false_or, or_false, reduceIte, reduceCtorEq, and_self, z_4, z_5, z_7, z_8, z_10, z_16, z_20, z_64, not_false_eq_true, cc4, m4, pq_C_new, pq_L_new, pq_I_new, pq_J_new, pq_R_new, pq_N_new, pq_S_new, Nat.add_assoc, Nat.reduceAdd, kz_4, kz_5, kz_8, kz_16, kz_20, kz_25, kz_64, kz_80, kz_6000]
  obtain ⟨c4, q4, r4_3⟩ := r_nx (v := some 7) (k := 3) E4 (by decide)
  rw [c3] at c4
  have r4_0 := (q4 0 (by decide)).trans r3_0
  have r4_1 := (q4 1 (by decide)).trans r3_1
  have r4_2 := (q4 2 (by decide)).trans r3_2
  have n4 : pz_N (pz_sR k4 0 3 (some 7)) = 10 := m4
  have t4 : pz_S (pz_sR k4 0 3 (some 7)) = pz_S g3 + 87 := by
    have e := s4
    rw [pq_S_new] at e
    show pz_S k4 = _
    omega
  have Z4 : CZ 7 g3 (pz_sR k4 0 3 (some 7)) := CZ_trans (CZ_CX E4) CZ_sR
  have xl4 : pz_XL (pz_sR k4 0 3 (some 7)) = pz_XL h ∧ pz_XS (pz_sR k4 0 3 (some 7)) = pz_XS h := ⟨E4.2.1.trans xl3.1, E4.2.2.trans xl3.2⟩
  have sh_4 := SH_CZ (y := 10) sh (CZ_sR (k := 3) (v := some 7)) (by decide)
  have wa_4 := ROW_CZ wa_3 Z4 (by decide) (by decide) (by decide)
  have wb_4 := ROW_CZ wb_3 Z4 (by decide) (by decide) (by decide)
  have wc_4 := ROW_CZ wc_3 Z4 (by decide) (by decide) (by decide)
  clear q4
  generalize pz_sR k4 0 3 (some 7) = g4 at *
  refine i_loa (new_C n4) (by rw [pq_N_new, n4]) (fun k5 F5 m5 s5 lo lr lt => ?_)
  have E5 : CX 10 g4 k5 := CX_trans (CX_new (by omega)) F5
  have cc5 : pz_C k5 0 = 9 := by rw [(E5.1 0 (by decide)).1]; exact c4
  simp only [enX9_init, uX9_init_0, uX9_init_0o, uX9_init_0f, uX9_init_1, uX9_init_4, uX9_init_4o, uX9_init_4f, uX9_init_5, uX9_init_8, uX9_init_9, uX9_init_12, uX9_init_15, uX9_init_15o, uX9_init_18, uX9_init_18o, uX9_init_18f, uX9_init_19, uX9_init_22, uX9_init_23, uX9_init_26, uX9_init_29, uX9_init_29o, uX9_init_32, uX9_init_32o, uX9_init_32f, uX9_init_33, uX9_init_36, uX9_init_37, uX9_init_40, uX9_init_43, uX9_init_43o, uX9_init_46, uX9_init_46o, uX9_init_46f, uX9_init_47, uX9_init_50, uX9_init_51, uX9_init_54, uX9_init_54o, uX9_init_57, uX9_init_57o, uX9_init_57f, uX9_init_58, uX9_init_61, uX9_init_62, uX9_init_62o, uX9_init_62f, uX9_init_63, uX9_init_66, uX9_init_69, uX9_init_69o, uX9_init_72, uX9_init_72o, uX9_init_72f, uX9_init_73, uX9_init_76, uX9_init_77, uX9_init_80, uX9_init_80o, uX9_init_83, uX9_init_83o, uX9_init_83f, uX9_init_84, uX9_init_87, uX9_init_88, uX9_init_88o, uX9_init_88f, uX9_init_89, uX9_init_92, uX9_init_92o, uX9_init_92f, uX9_init_93, uX9_init_96, uX9_init_99, uX9_init_99o, uX9_init_102, uX9_init_102o, uX9_init_102f, uX9_init_103, uX9_init_104, uX9_init_107, pq_C_sI, pq_C_sJ, pq_C_sR, pq_C_sA, pq_L_sI, pq_L_sJ, pq_L_sR, pq_L_sA, pq_I_sI, pq_I_sJ, pq_I_sR, pq_I_sA, pq_J_sI, pq_J_sJ, pq_J_sR, pq_J_sA, pq_R_sI, pq_R_sJ, pq_R_sR, pq_R_sA, pq_N_sI, pq_N_sJ, pq_N_sR, pq_N_sA, pq_S_sI, pq_S_sJ, pq_S_sR, pq_S_sA, pz_rf_s, pz_cut_i, pz_cut_r, pz_cut_n, pz_cut_f, pz_cut_u, pz_cut_o, true_and, and_true, true_or, or_true, Option.toList_some, Option.toList_none, List.cons_append, List.nil_append, Nat.add_left_cancel_iff, Nat.left_eq_add, Nat.add_eq_left, Nat.reduceEqDiff, if_true, if_false, ite_true, ite_false, false_and, and_false, false_or, or_false, reduceIte, reduceCtorEq, and_self, z_4, z_5, z_7, z_8, z_10, z_16, z_20, z_64, not_false_eq_true, cc5, m5, pq_C_new, pq_L_new, pq_I_new, pq_J_new, pq_R_new, pq_N_new, pq_S_new, Nat.add_assoc, Nat.reduceAdd, kz_4, kz_5, kz_8, kz_16, kz_20, kz_25, kz_64, kz_80, kz_6000]
  obtain ⟨c5, q5, r5_4⟩ := r_nx (v := some 10) (k := 4) E5 (by decide)
  rw [c4] at c5
  have r5_0 := (q5 0 (by decide)).trans r4_0
  have r5_1 := (q5 1 (by decide)).trans r4_1
  have r5_2 := (q5 2 (by decide)).trans r4_2
  have r5_3 := (q5 3 (by decide)).trans r4_3
  have n5 : pz_N (pz_sR k5 0 4 (some 10)) = 23 := m5
  have t5 : pz_S (pz_sR k5 0 4 (some 10)) = pz_S g4 + 7370 := by
    have e := s5
    rw [pq_S_new] at e
    show pz_S k5 = _
    omega
  have Z5 : CZ 10 g4 (pz_sR k5 0 4 (some 10)) := CZ_trans (CZ_CX E5) CZ_sR
  have xl5 : pz_XL (pz_sR k5 0 4 (some 10)) = pz_XL h ∧ pz_XS (pz_sR k5 0 4 (some 10)) = pz_XS h := ⟨E5.2.1.trans xl4.1, E5.2.2.trans xl4.2⟩
  have lo_5 := LOA_CZ (y := 23) lo (CZ_sR (k := 4) (v := some 10)) (by decide)
  have lr_5 := show pz_R (pz_sR k5 0 4 (some 10)) 10 2 = some 15 by rw [pq_R_sR, if_neg (by decide)]; exact lr
  have lt_5 := TF_CZ (y := 23) lt (CZ_sR (k := 4) (v := some 10)) (by decide) (by decide)
  have wa_5 := ROW_CZ wa_4 Z5 (by decide) (by decide) (by decide)
  have wb_5 := ROW_CZ wb_4 Z5 (by decide) (by decide) (by decide)
  have wc_5 := ROW_CZ wc_4 Z5 (by decide) (by decide) (by decide)
  have sh_5 := SH_CZ sh_4 Z5 (by decide)
  clear q5
  generalize pz_sR k5 0 4 (some 10) = g5 at *
  refine i_net (new_C n5) (by rw [pq_N_new, n5]) (fun k6 F6 m6 s6 nb kf lf => ?_)
  have E6 : CX 23 g5 k6 := CX_trans (CX_new (by omega)) F6
  have cc6 : pz_C k6 0 = 9 := by rw [(E6.1 0 (by decide)).1]; exact c5
  have rr6 : pz_R k6 0 3 = some 7 := by rw [(E6.1 0 (by decide)).2.2.2.2]; exact r5_3
  simp only [enX9_init, uX9_init_0, uX9_init_0o, uX9_init_0f, uX9_init_1, uX9_init_4, uX9_init_4o, uX9_init_4f, uX9_init_5, uX9_init_8, uX9_init_9, uX9_init_12, uX9_init_15, uX9_init_15o, uX9_init_18, uX9_init_18o, uX9_init_18f, uX9_init_19, uX9_init_22, uX9_init_23, uX9_init_26, uX9_init_29, uX9_init_29o, uX9_init_32, uX9_init_32o, uX9_init_32f, uX9_init_33, uX9_init_36, uX9_init_37, uX9_init_40, uX9_init_43, uX9_init_43o, uX9_init_46, uX9_init_46o, uX9_init_46f, uX9_init_47, uX9_init_50, uX9_init_51, uX9_init_54, uX9_init_54o, uX9_init_57, uX9_init_57o, uX9_init_57f, uX9_init_58, uX9_init_61, uX9_init_62, uX9_init_62o, uX9_init_62f, uX9_init_63, uX9_init_66, uX9_init_69, uX9_init_69o, uX9_init_72, uX9_init_72o, uX9_init_72f, uX9_init_73, uX9_init_76, uX9_init_77, uX9_init_80, uX9_init_80o, uX9_init_83, uX9_init_83o, uX9_init_83f, uX9_init_84, uX9_init_87, uX9_init_88, uX9_init_88o, uX9_init_88f, uX9_init_89, uX9_init_92, uX9_init_92o, uX9_init_92f, uX9_init_93, uX9_init_96, uX9_init_99, uX9_init_99o, uX9_init_102, uX9_init_102o, uX9_init_102f, uX9_init_103, uX9_init_104, uX9_init_107, pq_C_sI, pq_C_sJ, pq_C_sR, pq_C_sA, pq_L_sI, pq_L_sJ, pq_L_sR, pq_L_sA, pq_I_sI, pq_I_sJ, pq_I_sR, pq_I_sA, pq_J_sI, pq_J_sJ, pq_J_sR, pq_J_sA, pq_R_sI, pq_R_sJ, pq_R_sR, pq_R_sA, pq_N_sI, pq_N_sJ, pq_N_sR, pq_N_sA, pq_S_sI, pq_S_sJ, pq_S_sR, pq_S_sA, pz_rf_s, pz_cut_i, pz_cut_r, pz_cut_n, pz_cut_f, pz_cut_u, pz_cut_o, true_and, and_true, true_or, or_true, Option.toList_some, Option.toList_none, List.cons_append, List.nil_append, Nat.add_left_cancel_iff, Nat.left_eq_add, Nat.add_eq_left, Nat.reduceEqDiff, if_true, if_false, ite_true, ite_false, false_and, and_false, false_or, or_false, reduceIte, reduceCtorEq, and_self, z_4, z_5, z_7, z_8, z_10, z_16, z_20, z_64, not_false_eq_true, cc6, m6, pq_C_new, pq_L_new, pq_I_new, pq_J_new, pq_R_new, pq_N_new, pq_S_new, Nat.add_assoc, Nat.reduceAdd, kz_4, kz_5, kz_8, kz_16, kz_20, kz_25, kz_64, kz_80, kz_6000, rr6]
  obtain ⟨c6, q6, r6_5⟩ := r_nx (v := some 23) (k := 5) E6 (by decide)
  rw [c5] at c6
  have r6_0 := (q6 0 (by decide)).trans r5_0
  have r6_1 := (q6 1 (by decide)).trans r5_1
  have r6_2 := (q6 2 (by decide)).trans r5_2
  have r6_3 := (q6 3 (by decide)).trans r5_3
  have r6_4 := (q6 4 (by decide)).trans r5_4
  have n6 : pz_N (pz_sR k6 0 5 (some 23)) = 132 := m6
  have t6 : pz_S (pz_sR k6 0 5 (some 23)) = pz_S g5 + 98544 := by
    have e1 : pz_S (pz_new g5 5 0 4) = pz_S g5 + 4 := rfl
    have e2 : pz_S (pz_sR k6 0 5 (some 23)) = pz_S k6 := rfl
    refine e2.trans (s6.trans ?_)
    generalize pz_S (pz_new g5 5 0 4) = u at e1
    subst e1
    exact ad3 (by decide)
  have Z6 : CZ 23 g5 (pz_sR k6 0 5 (some 23)) := CZ_trans (CZ_CX E6) CZ_sR
  have xl6 : pz_XL (pz_sR k6 0 5 (some 23)) = pz_XL h ∧ pz_XS (pz_sR k6 0 5 (some 23)) = pz_XS h := ⟨E6.2.1.trans xl5.1, E6.2.2.trans xl5.2⟩
  have nb_6 := NB_CZ (y := 132) nb (CZ_sR (k := 5) (v := some 23)) (by decide)
  have kf_6 := KFs_CZ (y := 132) kf (CZ_sR (k := 5) (v := some 23)) (by decide)
  have lf_6 := LFs_CZ (y := 132) lf (CZ_sR (k := 5) (v := some 23)) (by decide)
  have wa_6 := ROW_CZ wa_5 Z6 (by decide) (by decide) (by decide)
  have wb_6 := ROW_CZ wb_5 Z6 (by decide) (by decide) (by decide)
  have wc_6 := ROW_CZ wc_5 Z6 (by decide) (by decide) (by decide)
  have sh_6 := SH_CZ sh_5 Z6 (by decide)
  have lo_6 := LOA_CZ lo_5 Z6 (by decide)
  have lr_6 := (congrFun (Z6 10 (by decide) (by decide)).2.2.2.2 2).trans lr_5
  have lt_6 := TF_CZ lt_5 Z6 (by decide) (by decide)
  clear q6
  generalize pz_sR k6 0 5 (some 23) = g6 at *
  refine i_act (new_C n6) (by rw [pq_N_new, n6]) (fun k7 F7 m7 s7 ac wx wy => ?_)
  have E7 : CX 132 g6 k7 := CX_trans (CX_new (by omega)) F7
  have cc7 : pz_C k7 0 = 9 := by rw [(E7.1 0 (by decide)).1]; exact c6
  simp only [enX9_init, uX9_init_0, uX9_init_0o, uX9_init_0f, uX9_init_1, uX9_init_4, uX9_init_4o, uX9_init_4f, uX9_init_5, uX9_init_8, uX9_init_9, uX9_init_12, uX9_init_15, uX9_init_15o, uX9_init_18, uX9_init_18o, uX9_init_18f, uX9_init_19, uX9_init_22, uX9_init_23, uX9_init_26, uX9_init_29, uX9_init_29o, uX9_init_32, uX9_init_32o, uX9_init_32f, uX9_init_33, uX9_init_36, uX9_init_37, uX9_init_40, uX9_init_43, uX9_init_43o, uX9_init_46, uX9_init_46o, uX9_init_46f, uX9_init_47, uX9_init_50, uX9_init_51, uX9_init_54, uX9_init_54o, uX9_init_57, uX9_init_57o, uX9_init_57f, uX9_init_58, uX9_init_61, uX9_init_62, uX9_init_62o, uX9_init_62f, uX9_init_63, uX9_init_66, uX9_init_69, uX9_init_69o, uX9_init_72, uX9_init_72o, uX9_init_72f, uX9_init_73, uX9_init_76, uX9_init_77, uX9_init_80, uX9_init_80o, uX9_init_83, uX9_init_83o, uX9_init_83f, uX9_init_84, uX9_init_87, uX9_init_88, uX9_init_88o, uX9_init_88f, uX9_init_89, uX9_init_92, uX9_init_92o, uX9_init_92f, uX9_init_93, uX9_init_96, uX9_init_99, uX9_init_99o, uX9_init_102, uX9_init_102o, uX9_init_102f, uX9_init_103, uX9_init_104, uX9_init_107, pq_C_sI, pq_C_sJ, pq_C_sR, pq_C_sA, pq_L_sI, pq_L_sJ, pq_L_sR, pq_L_sA, pq_I_sI, pq_I_sJ, pq_I_sR, pq_I_sA, pq_J_sI, pq_J_sJ, pq_J_sR, pq_J_sA, pq_R_sI, pq_R_sJ, pq_R_sR, pq_R_sA, pq_N_sI, pq_N_sJ, pq_N_sR, pq_N_sA, pq_S_sI, pq_S_sJ, pq_S_sR, pq_S_sA, pz_rf_s, pz_cut_i, pz_cut_r, pz_cut_n, pz_cut_f, pz_cut_u, pz_cut_o, true_and, and_true, true_or, or_true, Option.toList_some, Option.toList_none, List.cons_append, List.nil_append, Nat.add_left_cancel_iff, Nat.left_eq_add, Nat.add_eq_left, Nat.reduceEqDiff, if_true, if_false, ite_true, ite_false, false_and, and_false, false_or, or_false, reduceIte, reduceCtorEq, and_self, z_4, z_5, z_7, z_8, z_10, z_16, z_20, z_64, not_false_eq_true, cc7, m7, pq_C_new, pq_L_new, pq_I_new, pq_J_new, pq_R_new, pq_N_new, pq_S_new, Nat.add_assoc, Nat.reduceAdd, kz_4, kz_5, kz_8, kz_16, kz_20, kz_25, kz_64, kz_80, kz_6000]
  obtain ⟨c7, q7, r7_6⟩ := r_nx (v := some 132) (k := 6) E7 (by decide)
  rw [c6] at c7
  have r7_0 := (q7 0 (by decide)).trans r6_0
  have r7_1 := (q7 1 (by decide)).trans r6_1
  have r7_2 := (q7 2 (by decide)).trans r6_2
  have r7_3 := (q7 3 (by decide)).trans r6_3
  have r7_4 := (q7 4 (by decide)).trans r6_4
  have r7_5 := (q7 5 (by decide)).trans r6_5
  have n7 : pz_N (pz_sR k7 0 6 (some 132)) = 138 := m7
  have t7 : pz_S (pz_sR k7 0 6 (some 132)) = pz_S g6 + 281 := by
    have e := s7
    rw [pq_S_new] at e
    show pz_S k7 = _
    omega
  have Z7 : CZ 132 g6 (pz_sR k7 0 6 (some 132)) := CZ_trans (CZ_CX E7) CZ_sR
  have xl7 : pz_XL (pz_sR k7 0 6 (some 132)) = pz_XL h ∧ pz_XS (pz_sR k7 0 6 (some 132)) = pz_XS h := ⟨E7.2.1.trans xl6.1, E7.2.2.trans xl6.2⟩
  have ac_7 := ACT_CZ (y := 138) ac (CZ_sR (k := 6) (v := some 132)) (by decide)
  have wx_7 := ROW_sR (x := 0) (k := 6) (v := some 132) wx (by decide)
  have wy_7 := ROW_sR (x := 0) (k := 6) (v := some 132) wy (by decide)
  have wa_7 := ROW_CZ wa_6 Z7 (by decide) (by decide) (by decide)
  have wb_7 := ROW_CZ wb_6 Z7 (by decide) (by decide) (by decide)
  have wc_7 := ROW_CZ wc_6 Z7 (by decide) (by decide) (by decide)
  have sh_7 := SH_CZ sh_6 Z7 (by decide)
  have lo_7 := LOA_CZ lo_6 Z7 (by decide)
  have lr_7 := (congrFun (Z7 10 (by decide) (by decide)).2.2.2.2 2).trans lr_6
  have lt_7 := TF_CZ lt_6 Z7 (by decide) (by decide)
  have nb_7 := NB_CZ nb_6 Z7 (by decide)
  have kf_7 := KFs_CZ kf_6 Z7 (by decide)
  have lf_7 := LFs_CZ lf_6 Z7 (by decide)
  clear q7
  generalize pz_sR k7 0 6 (some 132) = g7 at *
  have Z8 : CZ 138 g7 (pz_sI g7 0 7 (-1)) := CZ_sI
  refine K _ xl7.1 xl7.2 n7 ?_ ⟨⟨c7, r7_0, r7_1, r7_2, r7_3, r7_4, r7_5, r7_6⟩, ?_, ⟨ROW_CZ wa_7 Z8 (by decide) (by decide) (by decide), ROW_CZ wb_7 Z8 (by decide) (by decide) (by decide), ROW_CZ wc_7 Z8 (by decide) (by decide) (by decide)⟩, SH_CZ sh_7 Z8 (by decide), ⟨LOA_CZ lo_7 Z8 (by decide), lr_7, TF_CZ lt_7 Z8 (by decide) (by decide)⟩, ⟨NB_CZ nb_7 Z8 (by decide), KFs_CZ kf_7 Z8 (by decide), LFs_CZ lf_7 Z8 (by decide)⟩, ac_7, ROW_CZ wx_7 Z8 (by decide) (by decide) (by decide), ROW_CZ wy_7 Z8 (by decide) (by decide) (by decide)⟩
  · rw [pq_S_sI]
    omega
  · rw [pq_I_sI, if_pos ⟨rfl, rfl⟩]
end
