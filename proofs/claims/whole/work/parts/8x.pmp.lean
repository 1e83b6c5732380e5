/-! ===== the class: step whole, act, pump ===== -/
section
variable {d : Nat} {h : PzH} {Q : Option Value → PzH → Prop} {A : St} {l c p : Nat}
theorem c_step_0 (R : RC h A) {a b : Int32} (hw : ∀ x y, vI a 4 = some x → vI b 5 = some y → ¬ whA A x y = true) : pz_M (d + 8) mX0_step [.ref 132, .int a, .int b] h Q ↔ Q (some (.int (-1))) h := by
  obtain ⟨a1, a2, a3, a4, a5, a6, a7, a8⟩ := ACT_of R
  have n1 := R.1.2.2.2.2.2.1.1
  cases ec : clO A a with
  | none =>
    cases el : lkO a b with
    | none =>
      simp only [enX0_step, uX0_step_0, uX0_step_0o, uX0_step_0f, uX0_step_1, uX0_step_4, uX0_step_5, uX0_step_8, uX0_step_8o, uX0_step_9, uX0_step_9o, uX0_step_9f, uX0_step_10, uX0_step_13, uX0_step_14, uX0_step_15, uX0_step_18, uX0_step_18o, uX0_step_20, uX0_step_20o, uX0_step_20f, uX0_step_21, uX0_step_21a, uX0_step_24, uX0_step_24o, uX0_step_24f, uX0_step_26, uX0_step_26a, uX0_step_29, uX0_step_29o, uX0_step_29f, uX0_step_31, uX0_step_34, uX0_step_37, uX0_step_38, uX0_step_39, uX0_step_39o, uX0_step_39f, uX0_step_41, uX0_step_44, uX0_step_46, uX0_step_48, uX0_step_49, uX0_step_52, uX0_step_53, uX0_step_54, uX0_step_54o, uX0_step_54f, uX0_step_55, uX0_step_58, uX0_step_59, uX0_step_62, uX0_step_62o, uX0_step_62f, uX0_step_63, uX0_step_66, uX0_step_66o, uX0_step_66f, uX0_step_68, uX0_step_71, uX0_step_72, uX0_step_74, uX0_step_77, uX0_step_77o, uX0_step_77f, uX0_step_79, uX0_step_82, uX0_step_84, uX0_step_87, uX0_step_87o, uX0_step_87f, uX0_step_88, uX0_step_88o, uX0_step_88f, uX0_step_90, uX0_step_93, uX0_step_95, uX0_step_95o, uX0_step_95f, uX0_step_96, uX0_step_96o, uX0_step_96f, uX0_step_97, uX0_step_97o, uX0_step_97f, uX0_step_99, uX0_step_101, uX0_step_104, uX0_step_106, uX0_step_108, uX0_step_110, uX0_step_113, uX0_step_115, uX0_step_117, uX0_step_120, uX0_step_120o, uX0_step_120f, uX0_step_122, uX0_step_122o, uX0_step_122f, uX0_step_124, uX0_step_127, uX0_step_130, uX0_step_132, uX0_step_135, uX0_step_135o, uX0_step_135f, uX0_step_136, uX0_step_139, uX0_step_140, uX0_step_141, uX0_step_143, uX0_step_146, uX0_step_146o, uX0_step_146f, uX0_step_147, uX0_step_147o, uX0_step_147f, uX0_step_148, uX0_step_149, uX0_step_152, uX0_step_154, uX0_step_157, uX0_step_159, uX0_step_161, uX0_step_162, uX0_step_165, uX0_step_167, pq_C_sI, pq_C_sJ, pq_C_sR, pq_C_sA, pq_L_sI, pq_L_sJ, pq_L_sR, pq_L_sA, pq_I_sI, pq_I_sJ, pq_I_sR, pq_I_sA, pq_J_sI, pq_J_sJ, pq_J_sR, pq_J_sA, pq_R_sI, pq_R_sJ, pq_R_sR, pq_R_sA, pq_N_sI, pq_N_sJ, pq_N_sR, pq_N_sA, pq_S_sI, pq_S_sJ, pq_S_sR, pq_S_sA, pz_rf_s, pz_cut_i, pz_cut_r, pz_cut_n, pz_cut_f, pz_cut_u, pz_cut_o, true_and, and_true, true_or, or_true, Option.toList_some, Option.toList_none, List.cons_append, List.nil_append, Nat.add_left_cancel_iff, Nat.left_eq_add, Nat.add_eq_left, Nat.reduceEqDiff, if_true, if_false, ite_true, ite_false, false_and, and_false, false_or, or_false, reduceIte, reduceCtorEq, and_self, z_4, z_5, z_7, z_8, z_10, z_16, z_20, z_64, not_false_eq_true, a1, a2, n1, c_clientOf R.1 R.2.2.2.1, ec, c_linkOf R.1, el, pz_cut_o]
    | some k =>
      simp only [enX0_step, uX0_step_0, uX0_step_0o, uX0_step_0f, uX0_step_1, uX0_step_4, uX0_step_5, uX0_step_8, uX0_step_8o, uX0_step_9, uX0_step_9o, uX0_step_9f, uX0_step_10, uX0_step_13, uX0_step_14, uX0_step_15, uX0_step_18, uX0_step_18o, uX0_step_20, uX0_step_20o, uX0_step_20f, uX0_step_21, uX0_step_21a, uX0_step_24, uX0_step_24o, uX0_step_24f, uX0_step_26, uX0_step_26a, uX0_step_29, uX0_step_29o, uX0_step_29f, uX0_step_31, uX0_step_34, uX0_step_37, uX0_step_38, uX0_step_39, uX0_step_39o, uX0_step_39f, uX0_step_41, uX0_step_44, uX0_step_46, uX0_step_48, uX0_step_49, uX0_step_52, uX0_step_53, uX0_step_54, uX0_step_54o, uX0_step_54f, uX0_step_55, uX0_step_58, uX0_step_59, uX0_step_62, uX0_step_62o, uX0_step_62f, uX0_step_63, uX0_step_66, uX0_step_66o, uX0_step_66f, uX0_step_68, uX0_step_71, uX0_step_72, uX0_step_74, uX0_step_77, uX0_step_77o, uX0_step_77f, uX0_step_79, uX0_step_82, uX0_step_84, uX0_step_87, uX0_step_87o, uX0_step_87f, uX0_step_88, uX0_step_88o, uX0_step_88f, uX0_step_90, uX0_step_93, uX0_step_95, uX0_step_95o, uX0_step_95f, uX0_step_96, uX0_step_96o, uX0_step_96f, uX0_step_97, uX0_step_97o, uX0_step_97f, uX0_step_99, uX0_step_101, uX0_step_104, uX0_step_106, uX0_step_108, uX0_step_110, uX0_step_113, uX0_step_115, uX0_step_117, uX0_step_120, uX0_step_120o, uX0_step_120f, uX0_step_122, uX0_step_122o, uX0_step_122f, uX0_step_124, uX0_step_127, uX0_step_130, uX0_step_132, uX0_step_135, uX0_step_135o, uX0_step_135f, uX0_step_136, uX0_step_139, uX0_step_140, uX0_step_141, uX0_step_143, uX0_step_146, uX0_step_146o, uX0_step_146f, uX0_step_147, uX0_step_147o, uX0_step_147f, uX0_step_148, uX0_step_149, uX0_step_152, uX0_step_154, uX0_step_157, uX0_step_159, uX0_step_161, uX0_step_162, uX0_step_165, uX0_step_167, pq_C_sI, pq_C_sJ, pq_C_sR, pq_C_sA, pq_L_sI, pq_L_sJ, pq_L_sR, pq_L_sA, pq_I_sI, pq_I_sJ, pq_I_sR, pq_I_sA, pq_J_sI, pq_J_sJ, pq_J_sR, pq_J_sA, pq_R_sI, pq_R_sJ, pq_R_sR, pq_R_sA, pq_N_sI, pq_N_sJ, pq_N_sR, pq_N_sA, pq_S_sI, pq_S_sJ, pq_S_sR, pq_S_sA, pz_rf_s, pz_cut_i, pz_cut_r, pz_cut_n, pz_cut_f, pz_cut_u, pz_cut_o, true_and, and_true, true_or, or_true, Option.toList_some, Option.toList_none, List.cons_append, List.nil_append, Nat.add_left_cancel_iff, Nat.left_eq_add, Nat.add_eq_left, Nat.reduceEqDiff, if_true, if_false, ite_true, ite_false, false_and, and_false, false_or, or_false, reduceIte, reduceCtorEq, and_self, z_4, z_5, z_7, z_8, z_10, z_16, z_20, z_64, not_false_eq_true, a1, a2, n1, c_clientOf R.1 R.2.2.2.1, ec, c_linkOf R.1, el, pz_cut_o]
  | some k =>
    unfold clO at ec
    cases ea : vI a 4 with
    | none => rw [ea] at ec; exact absurd ec (by simp)
    | some x =>
      rw [ea] at ec
      dsimp only at ec
      by_cases h18 : sB A 18 x = 0
      · rw [if_pos h18] at ec; exact absurd ec (by simp)
      · obtain ⟨x4, rfl⟩ := vI_some (by decide) ea
        have ec' : clO A (nI x) = some (36 + 4 * x) := by
          unfold clO
          rw [ea]
          exact if_neg h18
        cases el : lkO (nI x) b with
        | none =>
          simp only [enX0_step, uX0_step_0, uX0_step_0o, uX0_step_0f, uX0_step_1, uX0_step_4, uX0_step_5, uX0_step_8, uX0_step_8o, uX0_step_9, uX0_step_9o, uX0_step_9f, uX0_step_10, uX0_step_13, uX0_step_14, uX0_step_15, uX0_step_18, uX0_step_18o, uX0_step_20, uX0_step_20o, uX0_step_20f, uX0_step_21, uX0_step_21a, uX0_step_24, uX0_step_24o, uX0_step_24f, uX0_step_26, uX0_step_26a, uX0_step_29, uX0_step_29o, uX0_step_29f, uX0_step_31, uX0_step_34, uX0_step_37, uX0_step_38, uX0_step_39, uX0_step_39o, uX0_step_39f, uX0_step_41, uX0_step_44, uX0_step_46, uX0_step_48, uX0_step_49, uX0_step_52, uX0_step_53, uX0_step_54, uX0_step_54o, uX0_step_54f, uX0_step_55, uX0_step_58, uX0_step_59, uX0_step_62, uX0_step_62o, uX0_step_62f, uX0_step_63, uX0_step_66, uX0_step_66o, uX0_step_66f, uX0_step_68, uX0_step_71, uX0_step_72, uX0_step_74, uX0_step_77, uX0_step_77o, uX0_step_77f, uX0_step_79, uX0_step_82, uX0_step_84, uX0_step_87, uX0_step_87o, uX0_step_87f, uX0_step_88, uX0_step_88o, uX0_step_88f, uX0_step_90, uX0_step_93, uX0_step_95, uX0_step_95o, uX0_step_95f, uX0_step_96, uX0_step_96o, uX0_step_96f, uX0_step_97, uX0_step_97o, uX0_step_97f, uX0_step_99, uX0_step_101, uX0_step_104, uX0_step_106, uX0_step_108, uX0_step_110, uX0_step_113, uX0_step_115, uX0_step_117, uX0_step_120, uX0_step_120o, uX0_step_120f, uX0_step_122, uX0_step_122o, uX0_step_122f, uX0_step_124, uX0_step_127, uX0_step_130, uX0_step_132, uX0_step_135, uX0_step_135o, uX0_step_135f, uX0_step_136, uX0_step_139, uX0_step_140, uX0_step_141, uX0_step_143, uX0_step_146, uX0_step_146o, uX0_step_146f, uX0_step_147, uX0_step_147o, uX0_step_147f, uX0_step_148, uX0_step_149, uX0_step_152, uX0_step_154, uX0_step_157, uX0_step_159, uX0_step_161, uX0_step_162, uX0_step_165, uX0_step_167, pq_C_sI, pq_C_sJ, pq_C_sR, pq_C_sA, pq_L_sI, pq_L_sJ, pq_L_sR, pq_L_sA, pq_I_sI, pq_I_sJ, pq_I_sR, pq_I_sA, pq_J_sI, pq_J_sJ, pq_J_sR, pq_J_sA, pq_R_sI, pq_R_sJ, pq_R_sR, pq_R_sA, pq_N_sI, pq_N_sJ, pq_N_sR, pq_N_sA, pq_S_sI, pq_S_sJ, pq_S_sR, pq_S_sA, pz_rf_s, pz_cut_i, pz_cut_r, pz_cut_n, pz_cut_f, pz_cut_u, pz_cut_o, true_and, and_true, true_or, or_true, Option.toList_some, Option.toList_none, List.cons_append, List.nil_append, Nat.add_left_cancel_iff, Nat.left_eq_add, Nat.add_eq_left, Nat.reduceEqDiff, if_true, if_false, ite_true, ite_false, false_and, and_false, false_or, or_false, reduceIte, reduceCtorEq, and_self, z_4, z_5, z_7, z_8, z_10, z_16, z_20, z_64, not_false_eq_true, a1, a2, n1, c_clientOf R.1 R.2.2.2.1, ec', c_linkOf R.1, el, pz_cut_o]
        | some k2 =>
          unfold lkO at el
          rw [vI_of (by decide) (show x < 5 by omega)] at el
          cases eb : vI b 5 with
          | none => rw [eb] at el; exact absurd el (by simp)
          | some y =>
            rw [eb] at el
            dsimp only at el
            by_cases exy : x = y
            · rw [if_pos exy] at el; exact absurd el (by simp)
            · obtain ⟨y5, rfl⟩ := vI_some (by decide) eb
              have hno := hw x y ea eb
              obtain ⟨⟨k1, _⟩, L⟩ := LN_of R (show x < 5 by omega) y5 exy
              have r3 := L.2.2.1
              by_cases hj : sB A 23 (5 * x + y) = 0
              · simp only [enX0_step, uX0_step_0, uX0_step_0o, uX0_step_0f, uX0_step_1, uX0_step_4, uX0_step_5, uX0_step_8, uX0_step_8o, uX0_step_9, uX0_step_9o, uX0_step_9f, uX0_step_10, uX0_step_13, uX0_step_14, uX0_step_15, uX0_step_18, uX0_step_18o, uX0_step_20, uX0_step_20o, uX0_step_20f, uX0_step_21, uX0_step_21a, uX0_step_24, uX0_step_24o, uX0_step_24f, uX0_step_26, uX0_step_26a, uX0_step_29, uX0_step_29o, uX0_step_29f, uX0_step_31, uX0_step_34, uX0_step_37, uX0_step_38, uX0_step_39, uX0_step_39o, uX0_step_39f, uX0_step_41, uX0_step_44, uX0_step_46, uX0_step_48, uX0_step_49, uX0_step_52, uX0_step_53, uX0_step_54, uX0_step_54o, uX0_step_54f, uX0_step_55, uX0_step_58, uX0_step_59, uX0_step_62, uX0_step_62o, uX0_step_62f, uX0_step_63, uX0_step_66, uX0_step_66o, uX0_step_66f, uX0_step_68, uX0_step_71, uX0_step_72, uX0_step_74, uX0_step_77, uX0_step_77o, uX0_step_77f, uX0_step_79, uX0_step_82, uX0_step_84, uX0_step_87, uX0_step_87o, uX0_step_87f, uX0_step_88, uX0_step_88o, uX0_step_88f, uX0_step_90, uX0_step_93, uX0_step_95, uX0_step_95o, uX0_step_95f, uX0_step_96, uX0_step_96o, uX0_step_96f, uX0_step_97, uX0_step_97o, uX0_step_97f, uX0_step_99, uX0_step_101, uX0_step_104, uX0_step_106, uX0_step_108, uX0_step_110, uX0_step_113, uX0_step_115, uX0_step_117, uX0_step_120, uX0_step_120o, uX0_step_120f, uX0_step_122, uX0_step_122o, uX0_step_122f, uX0_step_124, uX0_step_127, uX0_step_130, uX0_step_132, uX0_step_135, uX0_step_135o, uX0_step_135f, uX0_step_136, uX0_step_139, uX0_step_140, uX0_step_141, uX0_step_143, uX0_step_146, uX0_step_146o, uX0_step_146f, uX0_step_147, uX0_step_147o, uX0_step_147f, uX0_step_148, uX0_step_149, uX0_step_152, uX0_step_154, uX0_step_157, uX0_step_159, uX0_step_161, uX0_step_162, uX0_step_165, uX0_step_167, pq_C_sI, pq_C_sJ, pq_C_sR, pq_C_sA, pq_L_sI, pq_L_sJ, pq_L_sR, pq_L_sA, pq_I_sI, pq_I_sJ, pq_I_sR, pq_I_sA, pq_J_sI, pq_J_sJ, pq_J_sR, pq_J_sA, pq_R_sI, pq_R_sJ, pq_R_sR, pq_R_sA, pq_N_sI, pq_N_sJ, pq_N_sR, pq_N_sA, pq_S_sI, pq_S_sJ, pq_S_sR, pq_S_sA, pz_rf_s, pz_cut_i, pz_cut_r, pz_cut_n, pz_cut_f, pz_cut_u, pz_cut_o, true_and, and_true, true_or, or_true, Option.toList_some, Option.toList_none, List.cons_append, List.nil_append, Nat.add_left_cancel_iff, Nat.left_eq_add, Nat.add_eq_left, Nat.reduceEqDiff, if_true, if_false, ite_true, ite_false, false_and, and_false, false_or, or_false, reduceIte, reduceCtorEq, and_self, z_4, z_5, z_7, z_8, z_10, z_16, z_20, z_64, not_false_eq_true, a1, a2, n1, c_clientOf R.1 R.2.2.2.1, ec', c_linkOf R.1, lkO_of (show x < 5 by omega) y5 exy, k1, r3, hj, not_true_eq_false]
              · have es : whS A x y = none := by
                  rw [whS_wh x4 hj] at hno
                  cases e : whS A x y with
                  | none => rfl
                  | some s => rw [e] at hno; exact absurd rfl hno
                simp only [enX0_step, uX0_step_0, uX0_step_0o, uX0_step_0f, uX0_step_1, uX0_step_4, uX0_step_5, uX0_step_8, uX0_step_8o, uX0_step_9, uX0_step_9o, uX0_step_9f, uX0_step_10, uX0_step_13, uX0_step_14, uX0_step_15, uX0_step_18, uX0_step_18o, uX0_step_20, uX0_step_20o, uX0_step_20f, uX0_step_21, uX0_step_21a, uX0_step_24, uX0_step_24o, uX0_step_24f, uX0_step_26, uX0_step_26a, uX0_step_29, uX0_step_29o, uX0_step_29f, uX0_step_31, uX0_step_34, uX0_step_37, uX0_step_38, uX0_step_39, uX0_step_39o, uX0_step_39f, uX0_step_41, uX0_step_44, uX0_step_46, uX0_step_48, uX0_step_49, uX0_step_52, uX0_step_53, uX0_step_54, uX0_step_54o, uX0_step_54f, uX0_step_55, uX0_step_58, uX0_step_59, uX0_step_62, uX0_step_62o, uX0_step_62f, uX0_step_63, uX0_step_66, uX0_step_66o, uX0_step_66f, uX0_step_68, uX0_step_71, uX0_step_72, uX0_step_74, uX0_step_77, uX0_step_77o, uX0_step_77f, uX0_step_79, uX0_step_82, uX0_step_84, uX0_step_87, uX0_step_87o, uX0_step_87f, uX0_step_88, uX0_step_88o, uX0_step_88f, uX0_step_90, uX0_step_93, uX0_step_95, uX0_step_95o, uX0_step_95f, uX0_step_96, uX0_step_96o, uX0_step_96f, uX0_step_97, uX0_step_97o, uX0_step_97f, uX0_step_99, uX0_step_101, uX0_step_104, uX0_step_106, uX0_step_108, uX0_step_110, uX0_step_113, uX0_step_115, uX0_step_117, uX0_step_120, uX0_step_120o, uX0_step_120f, uX0_step_122, uX0_step_122o, uX0_step_122f, uX0_step_124, uX0_step_127, uX0_step_130, uX0_step_132, uX0_step_135, uX0_step_135o, uX0_step_135f, uX0_step_136, uX0_step_139, uX0_step_140, uX0_step_141, uX0_step_143, uX0_step_146, uX0_step_146o, uX0_step_146f, uX0_step_147, uX0_step_147o, uX0_step_147f, uX0_step_148, uX0_step_149, uX0_step_152, uX0_step_154, uX0_step_157, uX0_step_159, uX0_step_161, uX0_step_162, uX0_step_165, uX0_step_167, pq_C_sI, pq_C_sJ, pq_C_sR, pq_C_sA, pq_L_sI, pq_L_sJ, pq_L_sR, pq_L_sA, pq_I_sI, pq_I_sJ, pq_I_sR, pq_I_sA, pq_J_sI, pq_J_sJ, pq_J_sR, pq_J_sA, pq_R_sI, pq_R_sJ, pq_R_sR, pq_R_sA, pq_N_sI, pq_N_sJ, pq_N_sR, pq_N_sA, pq_S_sI, pq_S_sJ, pq_S_sR, pq_S_sA, pz_rf_s, pz_cut_i, pz_cut_r, pz_cut_n, pz_cut_f, pz_cut_u, pz_cut_o, true_and, and_true, true_or, or_true, Option.toList_some, Option.toList_none, List.cons_append, List.nil_append, Nat.add_left_cancel_iff, Nat.left_eq_add, Nat.add_eq_left, Nat.reduceEqDiff, if_true, if_false, ite_true, ite_false, false_and, and_false, false_or, or_false, reduceIte, reduceCtorEq, and_self, z_4, z_5, z_7, z_8, z_10, z_16, z_20, z_64, not_false_eq_true, a1, a2, n1, c_clientOf R.1 R.2.2.2.1, ec', c_linkOf R.1, lkO_of (show x < 5 by omega) y5 exy, k1, r3, hj, c_wholeSize R (show x < 5 by omega) y5 exy, es, show kyOf none = -1 from rfl, not_true_eq_false]
theorem c_step (R : RC h A) (hG : ∀ x y, x < 4 → y < 5 → whA A x y = true → OI A l c p ∧ J1 A) {a b : Int32} (K : ∀ h', HC h h' → RC h' (acA A a b l c p).2 → Q (some (.int (acA A a b l c p).1)) h') : pz_M (d + 8) mX0_step [.ref 132, .int a, .int b] h Q := by
  by_cases q : ∃ x y, vI a 4 = some x ∧ vI b 5 = some y ∧ whA A x y = true
  · obtain ⟨x, y, ea, eb, hw⟩ := q
    obtain ⟨x4, rfl⟩ := vI_some (by decide) ea
    obtain ⟨y5, rfl⟩ := vI_some (by decide) eb
    unfold acA at K
    rw [ea, eb] at K
    dsimp only at K
    rw [if_pos hw] at K
    obtain ⟨I, J⟩ := hG x y x4 y5 hw
    exact c_step_1 R I J x4 y5 hw K
  · rw [c_step_0 R (fun x y ea eb hw => q ⟨x, y, ea, eb, hw⟩)]
    have e : acA A a b l c p = (-1, A) := by
      unfold acA
      cases ea : vI a 4 with
      | none => rfl
      | some x =>
        cases eb : vI b 5 with
        | none => rfl
        | some y =>
          dsimp only
          exact if_neg (fun hw => q ⟨x, y, ea, eb, hw⟩)
    rw [e] at K
    exact K h HC_refl R
theorem DS_of (R : RC h A) : DSKO h := R.1.1
theorem c_act (R : RC h A) (hG : ∀ x y, x < 4 → y < 5 → whA A x y = true → OI A l c p ∧ J1 A) {a b : Int32} (K : ∀ h', HC h h' → RC h' (acA A a b l c p).2 → Q (some (.int (acA A a b l c p).1)) h') : pz_M (d + 9) mX9_act [.ref 0, .int a, .int b] h Q := by
  obtain ⟨s0, s1, s2, s3, s4, s5, s6, s7⟩ := DS_of R
  have a1 := (ACT_of R).1
  simp only [enX9_act, uX9_act_0, uX9_act_0o, uX9_act_0f, uX9_act_1, uX9_act_4, uX9_act_5, uX9_act_6, uX9_act_9, pq_C_sI, pq_C_sJ, pq_C_sR, pq_C_sA, pq_L_sI, pq_L_sJ, pq_L_sR, pq_L_sA, pq_I_sI, pq_I_sJ, pq_I_sR, pq_I_sA, pq_J_sI, pq_J_sJ, pq_J_sR, pq_J_sA, pq_R_sI, pq_R_sJ, pq_R_sR, pq_R_sA, pq_N_sI, pq_N_sJ, pq_N_sR, pq_N_sA, pq_S_sI, pq_S_sJ, pq_S_sR, pq_S_sA, pz_rf_s, pz_cut_i, pz_cut_r, pz_cut_n, pz_cut_f, pz_cut_u, pz_cut_o, true_and, and_true, true_or, or_true, Option.toList_some, Option.toList_none, List.cons_append, List.nil_append, Nat.add_left_cancel_iff, Nat.left_eq_add, Nat.add_eq_left, Nat.reduceEqDiff, if_true, if_false, ite_true, ite_false, false_and, and_false, false_or, or_false, reduceIte, reduceCtorEq, and_self, z_4, z_5, z_7, z_8, z_10, z_16, z_20, z_64, not_false_eq_true, s0, s7, a1]
  refine c_step R hG (fun h' H' R' => ?_)
  simp only [enX9_act, uX9_act_0, uX9_act_0o, uX9_act_0f, uX9_act_1, uX9_act_4, uX9_act_5, uX9_act_6, uX9_act_9, pq_C_sI, pq_C_sJ, pq_C_sR, pq_C_sA, pq_L_sI, pq_L_sJ, pq_L_sR, pq_L_sA, pq_I_sI, pq_I_sJ, pq_I_sR, pq_I_sA, pq_J_sI, pq_J_sJ, pq_J_sR, pq_J_sA, pq_R_sI, pq_R_sJ, pq_R_sR, pq_R_sA, pq_N_sI, pq_N_sJ, pq_N_sR, pq_N_sA, pq_S_sI, pq_S_sJ, pq_S_sR, pq_S_sA, pz_rf_s, pz_cut_i, pz_cut_r, pz_cut_n, pz_cut_f, pz_cut_u, pz_cut_o, true_and, and_true, true_or, or_true, Option.toList_some, Option.toList_none, List.cons_append, List.nil_append, Nat.add_left_cancel_iff, Nat.left_eq_add, Nat.add_eq_left, Nat.reduceEqDiff, if_true, if_false, ite_true, ite_false, false_and, and_false, false_or, or_false, reduceIte, reduceCtorEq, and_self, z_4, z_5, z_7, z_8, z_10, z_16, z_20, z_64, not_false_eq_true]
  exact K h' H' R'
/-- an act's answer is none of the refusals -/
theorem act_ne {a b : Nat} : (actA A a b l c p).1 ≠ -1 := by
  have h1 : (helA A a b p).1 ≠ -1 := by
    unfold helA
    split
    · unfold hl2
      split <;> (dsimp only; decide)
    · (dsimp only; decide)
  have h2 : ∀ (B : St) (m : List Int8) (f : Prop) [Decidable f] (t : Nat), (hdl B a b l c p m f t).1 ≠ -1 := by
    intro B m f _ t
    unfold hdl
    split
    · (dsimp only; decide)
    · (dsimp only; decide)
    · (dsimp only; decide)
    · (dsimp only; decide)
    · split <;> (dsimp only; decide)
    · unfold bitA
      split <;> (dsimp only; decide)
    · unfold reqA
      split
      · split <;> (dsimp only; decide)
      · (dsimp only; decide)
    · unfold givA
      split
      · (dsimp only; decide)
      · unfold gv2
        split
        · split <;> (dsimp only; decide)
        · (dsimp only; decide)
    · (dsimp only; decide)
  have h3 : (takA A a b l c p).1 ≠ -1 := by
    unfold takA
    split
    · (dsimp only; decide)
    · split
      · (dsimp only; decide)
      · unfold tk2
        split
        · (dsimp only; decide)
        · split
          · exact h2 _ _ _ _
          · (dsimp only; decide)
  unfold actA
  by_cases q : sB A 24 (5 * a + b) = 0
  · rw [if_pos q]; exact h1
  · rw [if_neg q]; exact h3
theorem pmR_stop {n : Nat} {s : Nat × St} {i : Nat} (e : (pmR n l c p s i).1 = n) : ∀ k, pmR n l c p s (i + k) = pmR n l c p s i
  | 0 => rfl
  | k + 1 => by
    have ih := pmR_stop e k
    show pm1 n l c p ((i + k) / 5) ((i + k) % 5) (pmR n l c p s (i + k)) = _
    rw [ih]
    unfold pm1
    rw [if_pos (Or.inl e)]
theorem J1_pmR {n : Nat} {s : Nat × St} (j : J1 s.2) : ∀ k, J1 (pmR n l c p s k).2
  | 0 => j
  | k + 1 => by
    have ih := J1_pmR (n := n) j k
    unfold pmR pm1
    generalize pmR n l c p s k = Z at ih
    split
    · exact ih
    · exact J1_of ih d23_act
/-- a whole round -/
theorem pmp_1 {n : Nat} {s : Nat × St} {v3 v4 v5 : Int32} (hn : n ≤ 2000) (hs : s.1 ≤ n) (hG : ∀ i x y, i ≤ 20 → x < 4 → y < 5 → whA (pmR n l c p s i).2 x y = true → OI (pmR n l c p s i).2 l c p ∧ J1 (pmR n l c p s i).2) : ∀ (k i : Nat) (h : PzH), i + k = 20 → RC h (pmR n l c p s i).2 → (∀ h' v6, HC h h' → RC h' (pmR n l c p s 20).2 → wp (d + 8) mX9_pump 81 [.ref 0, .int (nI n), .int (nI (pmR n l c p s 20).1), .int v3, .int v4, .int v5, .int v6] [] h' Q) → wp (d + 8) mX9_pump 41 [.ref 0, .int (nI n), .int (nI (pmR n l c p s i).1), .int v3, .int v4, .int v5, .int (nI i)] [] h Q := by
  intro k
  induction k with
  | zero =>
    intro i h hi R K
    have e : i = 20 := by omega
    subst e
    rw [uX9_pump_41]
    simp only [enX9_pump, uX9_pump_0, uX9_pump_1, uX9_pump_2, uX9_pump_5, uX9_pump_8, uX9_pump_11, uX9_pump_12, uX9_pump_13, uX9_pump_14, uX9_pump_15, uX9_pump_16, uX9_pump_17, uX9_pump_18, uX9_pump_20, uX9_pump_22, uX9_pump_23, uX9_pump_26, uX9_pump_27, uX9_pump_30, uX9_pump_31, uX9_pump_32, uX9_pump_35, uX9_pump_36, uX9_pump_38, uX9_pump_39, uX9_pump_43, uX9_pump_45, uX9_pump_48, uX9_pump_49, uX9_pump_50, uX9_pump_53, uX9_pump_53o, uX9_pump_53f, uX9_pump_54, uX9_pump_57, uX9_pump_59, uX9_pump_60, uX9_pump_61, uX9_pump_63, uX9_pump_64, uX9_pump_65, uX9_pump_68, uX9_pump_69, uX9_pump_72, uX9_pump_75, uX9_pump_78, uX9_pump_82, uX9_pump_84, uX9_pump_87, uX9_pump_88, uX9_pump_91, uX9_pump_92, uX9_pump_93, uX9_pump_96, uX9_pump_99, uX9_pump_100, pq_C_sI, pq_C_sJ, pq_C_sR, pq_C_sA, pq_L_sI, pq_L_sJ, pq_L_sR, pq_L_sA, pq_I_sI, pq_I_sJ, pq_I_sR, pq_I_sA, pq_J_sI, pq_J_sJ, pq_J_sR, pq_J_sA, pq_R_sI, pq_R_sJ, pq_R_sR, pq_R_sA, pq_N_sI, pq_N_sJ, pq_N_sR, pq_N_sA, pq_S_sI, pq_S_sJ, pq_S_sR, pq_S_sA, pz_rf_s, pz_cut_i, pz_cut_r, pz_cut_n, pz_cut_f, pz_cut_u, pz_cut_o, true_and, and_true, true_or, or_true, Option.toList_some, Option.toList_none, List.cons_append, List.nil_append, Nat.add_left_cancel_iff, Nat.left_eq_add, Nat.add_eq_left, Nat.reduceEqDiff, if_true, if_false, ite_true, ite_false, false_and, and_false, false_or, or_false, reduceIte, reduceCtorEq, and_self, z_4, z_5, z_7, z_8, z_10, z_16, z_20, z_64, not_false_eq_true]
    rw [if_pos (show (20 : Int32) ≤ nI 20 by decide)]
    exact K h _ HC_refl R
  | succ k ih =>
    intro i h hi R K
    obtain ⟨s0, s1, s2, s3, s4, s5, s6, s7⟩ := DS_of R
    have a1 := (ACT_of R).1
    obtain ⟨n1, n2⟩ := pmR_n (l := l) (c := c) (p := p) hs i
    have ed : nI i / 5 = nI (i / 5) := pk_div (a := i) (d := 5) (by omega) (by decide) (by decide)
    have er : nI i - nI (i / 5) * 5 = nI (i % 5) := by
      have := pk_rem (a := i) (d := 5) (by omega) (by decide) (by decide)
      rw [← ed]
      exact this
    rw [uX9_pump_41]
    simp only [enX9_pump, uX9_pump_0, uX9_pump_1, uX9_pump_2, uX9_pump_5, uX9_pump_8, uX9_pump_11, uX9_pump_12, uX9_pump_13, uX9_pump_14, uX9_pump_15, uX9_pump_16, uX9_pump_17, uX9_pump_18, uX9_pump_20, uX9_pump_22, uX9_pump_23, uX9_pump_26, uX9_pump_27, uX9_pump_30, uX9_pump_31, uX9_pump_32, uX9_pump_35, uX9_pump_36, uX9_pump_38, uX9_pump_39, uX9_pump_43, uX9_pump_45, uX9_pump_48, uX9_pump_49, uX9_pump_50, uX9_pump_53, uX9_pump_53o, uX9_pump_53f, uX9_pump_54, uX9_pump_57, uX9_pump_59, uX9_pump_60, uX9_pump_61, uX9_pump_63, uX9_pump_64, uX9_pump_65, uX9_pump_68, uX9_pump_69, uX9_pump_72, uX9_pump_75, uX9_pump_78, uX9_pump_82, uX9_pump_84, uX9_pump_87, uX9_pump_88, uX9_pump_91, uX9_pump_92, uX9_pump_93, uX9_pump_96, uX9_pump_99, uX9_pump_100, pq_C_sI, pq_C_sJ, pq_C_sR, pq_C_sA, pq_L_sI, pq_L_sJ, pq_L_sR, pq_L_sA, pq_I_sI, pq_I_sJ, pq_I_sR, pq_I_sA, pq_J_sI, pq_J_sJ, pq_J_sR, pq_J_sA, pq_R_sI, pq_R_sJ, pq_R_sR, pq_R_sA, pq_N_sI, pq_N_sJ, pq_N_sR, pq_N_sA, pq_S_sI, pq_S_sJ, pq_S_sR, pq_S_sA, pz_rf_s, pz_cut_i, pz_cut_r, pz_cut_n, pz_cut_f, pz_cut_u, pz_cut_o, true_and, and_true, true_or, or_true, Option.toList_some, Option.toList_none, List.cons_append, List.nil_append, Nat.add_left_cancel_iff, Nat.left_eq_add, Nat.add_eq_left, Nat.reduceEqDiff, if_true, if_false, ite_true, ite_false, false_and, and_false, false_or, or_false, reduceIte, reduceCtorEq, and_self, z_4, z_5, z_7, z_8, z_10, z_16, z_20, z_64, not_false_eq_true, s0, s7, a1, ed, er]
    rw [if_neg (show ¬ (20 : Int32) ≤ nI i from nI_ge (b := 20) (by omega) (by decide))]
    by_cases q : (pmR n l c p s i).1 = n
    · rw [if_pos (by rw [q]; exact nI_le (Nat.le_refl _) (by omega))]
      have e := pmR_stop q (k + 1)
      rw [hi] at e
      rw [← e]
      exact K h _ HC_refl (by rw [e]; exact R)
    · rw [if_neg (nI_ge (by omega) (by omega))]
      have stp : pmR n l c p s (i + 1) = pm1 n l c p (i / 5) (i % 5) (pmR n l c p s i) := rfl
      have hG' := hG i
      have ih' := ih (i + 1)
      rw [stp] at ih'
      generalize hZ : pmR n l c p s i = Z at R n1 n2 q ih' hG'
      by_cases hw : whA Z.2 (i / 5) (i % 5) = true
      · have e1 : pm1 n l c p (i / 5) (i % 5) Z = (Z.1 + 1, (actA Z.2 (i / 5) (i % 5) l c p).2) := by
          unfold pm1
          rw [if_neg (fun z => z.elim q (fun y => y hw))]
        rw [e1] at ih'
        obtain ⟨I, J⟩ := hG' (i / 5) (i % 5) (by omega) (by omega) (by omega) hw
        refine c_step_1 R I J (by omega) (by omega) hw (fun h2 H2 R2 => ?_)
        simp only [enX9_pump, uX9_pump_0, uX9_pump_1, uX9_pump_2, uX9_pump_5, uX9_pump_8, uX9_pump_11, uX9_pump_12, uX9_pump_13, uX9_pump_14, uX9_pump_15, uX9_pump_16, uX9_pump_17, uX9_pump_18, uX9_pump_20, uX9_pump_22, uX9_pump_23, uX9_pump_26, uX9_pump_27, uX9_pump_30, uX9_pump_31, uX9_pump_32, uX9_pump_35, uX9_pump_36, uX9_pump_38, uX9_pump_39, uX9_pump_43, uX9_pump_45, uX9_pump_48, uX9_pump_49, uX9_pump_50, uX9_pump_53, uX9_pump_53o, uX9_pump_53f, uX9_pump_54, uX9_pump_57, uX9_pump_59, uX9_pump_60, uX9_pump_61, uX9_pump_63, uX9_pump_64, uX9_pump_65, uX9_pump_68, uX9_pump_69, uX9_pump_72, uX9_pump_75, uX9_pump_78, uX9_pump_82, uX9_pump_84, uX9_pump_87, uX9_pump_88, uX9_pump_91, uX9_pump_92, uX9_pump_93, uX9_pump_96, uX9_pump_99, uX9_pump_100, pq_C_sI, pq_C_sJ, pq_C_sR, pq_C_sA, pq_L_sI, pq_L_sJ, pq_L_sR, pq_L_sA, pq_I_sI, pq_I_sJ, pq_I_sR, pq_I_sA, pq_J_sI, pq_J_sJ, pq_J_sR, pq_J_sA, pq_R_sI, pq_R_sJ, pq_R_sR, pq_R_sA, pq_N_sI, pq_N_sJ, pq_N_sR, pq_N_sA, pq_S_sI, pq_S_sJ, pq_S_sR, pq_S_sA, pz_rf_s, pz_cut_i, pz_cut_r, pz_cut_n, pz_cut_f, pz_cut_u, pz_cut_o, true_and, and_true, true_or, or_true, Option.toList_some, Option.toList_none, List.cons_append, List.nil_append, Nat.add_left_cancel_iff, Nat.left_eq_add, Nat.add_eq_left, Nat.reduceEqDiff, if_true, if_false, ite_true, ite_false, false_and, and_false, false_or, or_false, reduceIte, reduceCtorEq, and_self, z_4, z_5, z_7, z_8, z_10, z_16, z_20, z_64, not_false_eq_true]
        rw [if_neg act_ne]
        simp only [nI_1]
        generalize actA Z.2 (i / 5) (i % 5) l c p = Y at R2 ih'
        exact ih' h2 (by omega) R2 (fun h3 v6 H3 R3 => K h3 v6 (HC_trans H2 H3) R3)
      · have e1 : pm1 n l c p (i / 5) (i % 5) Z = Z := by
          unfold pm1
          rw [if_pos (Or.inr hw)]
        rw [e1] at ih'
        rw [c_step_0 R (fun x y ex ey => by
          have e4 := (vI_of (n := 4) (by decide) (show i / 5 < 4 by omega)).symm.trans ex
          have e5 := (vI_of (n := 5) (by decide) (show i % 5 < 5 by omega)).symm.trans ey
          rw [← Option.some.inj e4, ← Option.some.inj e5]
          exact hw)]
        simp only [enX9_pump, uX9_pump_0, uX9_pump_1, uX9_pump_2, uX9_pump_5, uX9_pump_8, uX9_pump_11, uX9_pump_12, uX9_pump_13, uX9_pump_14, uX9_pump_15, uX9_pump_16, uX9_pump_17, uX9_pump_18, uX9_pump_20, uX9_pump_22, uX9_pump_23, uX9_pump_26, uX9_pump_27, uX9_pump_30, uX9_pump_31, uX9_pump_32, uX9_pump_35, uX9_pump_36, uX9_pump_38, uX9_pump_39, uX9_pump_43, uX9_pump_45, uX9_pump_48, uX9_pump_49, uX9_pump_50, uX9_pump_53, uX9_pump_53o, uX9_pump_53f, uX9_pump_54, uX9_pump_57, uX9_pump_59, uX9_pump_60, uX9_pump_61, uX9_pump_63, uX9_pump_64, uX9_pump_65, uX9_pump_68, uX9_pump_69, uX9_pump_72, uX9_pump_75, uX9_pump_78, uX9_pump_82, uX9_pump_84, uX9_pump_87, uX9_pump_88, uX9_pump_91, uX9_pump_92, uX9_pump_93, uX9_pump_96, uX9_pump_99, uX9_pump_100, pq_C_sI, pq_C_sJ, pq_C_sR, pq_C_sA, pq_L_sI, pq_L_sJ, pq_L_sR, pq_L_sA, pq_I_sI, pq_I_sJ, pq_I_sR, pq_I_sA, pq_J_sI, pq_J_sJ, pq_J_sR, pq_J_sA, pq_R_sI, pq_R_sJ, pq_R_sR, pq_R_sA, pq_N_sI, pq_N_sJ, pq_N_sR, pq_N_sA, pq_S_sI, pq_S_sJ, pq_S_sR, pq_S_sA, pz_rf_s, pz_cut_i, pz_cut_r, pz_cut_n, pz_cut_f, pz_cut_u, pz_cut_o, true_and, and_true, true_or, or_true, Option.toList_some, Option.toList_none, List.cons_append, List.nil_append, Nat.add_left_cancel_iff, Nat.left_eq_add, Nat.add_eq_left, Nat.reduceEqDiff, if_true, if_false, ite_true, ite_false, false_and, and_false, false_or, or_false, reduceIte, reduceCtorEq, and_self, z_4, z_5, z_7, z_8, z_10, z_16, z_20, z_64, not_false_eq_true, nI_1]
        exact ih' h (by omega) R K
theorem pmp_2 {n : Nat} (hn : n ≤ 2000) (G : St → Prop) (hG1 : ∀ B, G B → ∀ x y, x < 4 → y < 5 → whA B x y = true → OI B l c p ∧ J1 B) (hG2 : ∀ (s : Nat × St) i, i ≤ 20 → G s.2 → G (pmR n l c p s i).2) : ∀ (f r : Nat) (s : Nat × St) (h : PzH) (v5 v6 : Value), n ≤ f + s.1 → s.1 < n → r ≤ s.1 → RC h s.2 → G s.2 → pz_cut v5 = v5 → (∀ h', HC h h' → RC h' (pmW n l c p f s).2 → Q (some (.int (nI (pmW n l c p f s).1))) h') → wp (d + 8) mX9_pump 20 [.ref 0, .int (nI n), .int (nI s.1), .int 0, .int (nI r), v5, v6] [] h Q := by
  intro f
  induction f with
  | zero =>
    intro r s h v5 v6 h1 h2
    omega
  | succ f ih =>
    intro r s h v5 v6 h1 h2 hr R g c5 K
    rw [uX9_pump_20]
    simp only [enX9_pump, uX9_pump_0, uX9_pump_1, uX9_pump_2, uX9_pump_5, uX9_pump_8, uX9_pump_11, uX9_pump_12, uX9_pump_13, uX9_pump_14, uX9_pump_15, uX9_pump_16, uX9_pump_17, uX9_pump_18, uX9_pump_22, uX9_pump_23, uX9_pump_26, uX9_pump_27, uX9_pump_30, uX9_pump_31, uX9_pump_32, uX9_pump_35, uX9_pump_36, uX9_pump_38, uX9_pump_39, uX9_pump_43, uX9_pump_45, uX9_pump_48, uX9_pump_49, uX9_pump_50, uX9_pump_53, uX9_pump_53o, uX9_pump_53f, uX9_pump_54, uX9_pump_57, uX9_pump_59, uX9_pump_60, uX9_pump_61, uX9_pump_63, uX9_pump_64, uX9_pump_65, uX9_pump_68, uX9_pump_69, uX9_pump_72, uX9_pump_75, uX9_pump_78, uX9_pump_81, uX9_pump_82, uX9_pump_84, uX9_pump_87, uX9_pump_88, uX9_pump_91, uX9_pump_92, uX9_pump_93, uX9_pump_96, uX9_pump_99, uX9_pump_100, pq_C_sI, pq_C_sJ, pq_C_sR, pq_C_sA, pq_L_sI, pq_L_sJ, pq_L_sR, pq_L_sA, pq_I_sI, pq_I_sJ, pq_I_sR, pq_I_sA, pq_J_sI, pq_J_sJ, pq_J_sR, pq_J_sA, pq_R_sI, pq_R_sJ, pq_R_sR, pq_R_sA, pq_N_sI, pq_N_sJ, pq_N_sR, pq_N_sA, pq_S_sI, pq_S_sJ, pq_S_sR, pq_S_sA, pz_rf_s, pz_cut_i, pz_cut_r, pz_cut_n, pz_cut_f, pz_cut_u, pz_cut_o, true_and, and_true, true_or, or_true, Option.toList_some, Option.toList_none, List.cons_append, List.nil_append, Nat.add_left_cancel_iff, Nat.left_eq_add, Nat.add_eq_left, Nat.reduceEqDiff, if_true, if_false, ite_true, ite_false, false_and, and_false, false_or, or_false, reduceIte, reduceCtorEq, and_self, z_4, z_5, z_7, z_8, z_10, z_16, z_20, z_64, not_false_eq_true, c5]
    rw [if_neg (nI_ge (by omega) (by omega)), if_neg (nI_ge h2 (by omega))]
    refine pmp_1 (s := s) hn (by omega) (fun i x y hi hx hy hw => hG1 _ (hG2 s i hi g) x y hx hy hw) 20 0 h (by omega) R (fun h3 v6' H3 R3 => ?_)
    obtain ⟨n1, n2⟩ := pmR_n (l := l) (c := c) (p := p) (show s.1 ≤ n by omega) 20
    have g3 := hG2 s 20 (Nat.le_refl _) g
    unfold pmW at K
    generalize pmR n l c p s 20 = Z at R3 n1 n2 g3 K
    simp only [enX9_pump, uX9_pump_0, uX9_pump_1, uX9_pump_2, uX9_pump_5, uX9_pump_8, uX9_pump_11, uX9_pump_12, uX9_pump_13, uX9_pump_14, uX9_pump_15, uX9_pump_16, uX9_pump_17, uX9_pump_18, uX9_pump_22, uX9_pump_23, uX9_pump_26, uX9_pump_27, uX9_pump_30, uX9_pump_31, uX9_pump_32, uX9_pump_35, uX9_pump_36, uX9_pump_38, uX9_pump_39, uX9_pump_43, uX9_pump_45, uX9_pump_48, uX9_pump_49, uX9_pump_50, uX9_pump_53, uX9_pump_53o, uX9_pump_53f, uX9_pump_54, uX9_pump_57, uX9_pump_59, uX9_pump_60, uX9_pump_61, uX9_pump_63, uX9_pump_64, uX9_pump_65, uX9_pump_68, uX9_pump_69, uX9_pump_72, uX9_pump_75, uX9_pump_78, uX9_pump_81, uX9_pump_82, uX9_pump_84, uX9_pump_87, uX9_pump_88, uX9_pump_91, uX9_pump_92, uX9_pump_93, uX9_pump_96, uX9_pump_99, uX9_pump_100, pq_C_sI, pq_C_sJ, pq_C_sR, pq_C_sA, pq_L_sI, pq_L_sJ, pq_L_sR, pq_L_sA, pq_I_sI, pq_I_sJ, pq_I_sR, pq_I_sA, pq_J_sI, pq_J_sJ, pq_J_sR, pq_J_sA, pq_R_sI, pq_R_sJ, pq_R_sR, pq_R_sA, pq_N_sI, pq_N_sJ, pq_N_sR, pq_N_sA, pq_S_sI, pq_S_sJ, pq_S_sR, pq_S_sA, pz_rf_s, pz_cut_i, pz_cut_r, pz_cut_n, pz_cut_f, pz_cut_u, pz_cut_o, true_and, and_true, true_or, or_true, Option.toList_some, Option.toList_none, List.cons_append, List.nil_append, Nat.add_left_cancel_iff, Nat.left_eq_add, Nat.add_eq_left, Nat.reduceEqDiff, if_true, if_false, ite_true, ite_false, false_and, and_false, false_or, or_false, reduceIte, reduceCtorEq, and_self, z_4, z_5, z_7, z_8, z_10, z_16, z_20, z_64, not_false_eq_true, nI_1]
    have fin : ∀ v3 : Int32, ¬ (s.1 < Z.1 ∧ Z.1 < n) → (v3 = 0 → Z.1 = n) → wp (d + 8) mX9_pump 20 [.ref 0, .int (nI n), .int (nI Z.1), .int v3, .int (nI (r + 1)), .int (nI s.1), .int v6'] [] h3 Q := by
      intro v3 q z
      rw [if_neg q] at K
      have done := K h3 H3 R3
      rw [uX9_pump_20]
      simp only [enX9_pump, uX9_pump_0, uX9_pump_1, uX9_pump_2, uX9_pump_5, uX9_pump_8, uX9_pump_11, uX9_pump_12, uX9_pump_13, uX9_pump_14, uX9_pump_15, uX9_pump_16, uX9_pump_17, uX9_pump_18, uX9_pump_22, uX9_pump_23, uX9_pump_26, uX9_pump_27, uX9_pump_30, uX9_pump_31, uX9_pump_32, uX9_pump_35, uX9_pump_36, uX9_pump_38, uX9_pump_39, uX9_pump_43, uX9_pump_45, uX9_pump_48, uX9_pump_49, uX9_pump_50, uX9_pump_53, uX9_pump_53o, uX9_pump_53f, uX9_pump_54, uX9_pump_57, uX9_pump_59, uX9_pump_60, uX9_pump_61, uX9_pump_63, uX9_pump_64, uX9_pump_65, uX9_pump_68, uX9_pump_69, uX9_pump_72, uX9_pump_75, uX9_pump_78, uX9_pump_81, uX9_pump_82, uX9_pump_84, uX9_pump_87, uX9_pump_88, uX9_pump_91, uX9_pump_92, uX9_pump_93, uX9_pump_96, uX9_pump_99, uX9_pump_100, pq_C_sI, pq_C_sJ, pq_C_sR, pq_C_sA, pq_L_sI, pq_L_sJ, pq_L_sR, pq_L_sA, pq_I_sI, pq_I_sJ, pq_I_sR, pq_I_sA, pq_J_sI, pq_J_sJ, pq_J_sR, pq_J_sA, pq_R_sI, pq_R_sJ, pq_R_sR, pq_R_sA, pq_N_sI, pq_N_sJ, pq_N_sR, pq_N_sA, pq_S_sI, pq_S_sJ, pq_S_sR, pq_S_sA, pz_rf_s, pz_cut_i, pz_cut_r, pz_cut_n, pz_cut_f, pz_cut_u, pz_cut_o, true_and, and_true, true_or, or_true, Option.toList_some, Option.toList_none, List.cons_append, List.nil_append, Nat.add_left_cancel_iff, Nat.left_eq_add, Nat.add_eq_left, Nat.reduceEqDiff, if_true, if_false, ite_true, ite_false, false_and, and_false, false_or, or_false, reduceIte, reduceCtorEq, and_self, z_4, z_5, z_7, z_8, z_10, z_16, z_20, z_64, not_false_eq_true]
      by_cases q1 : nI n ≤ nI (r + 1)
      · rw [if_pos q1]; exact done
      · rw [if_neg q1]
        by_cases q2 : v3 = 0
        · rw [if_neg (fun y => y q2), if_pos (by rw [z q2]; exact nI_le (Nat.le_refl _) (by omega))]
          exact done
        · rw [if_pos q2]; exact done
    by_cases q1 : s.1 = Z.1
    · rw [if_neg (fun z => z (by rw [q1]))]
      exact fin 1 (fun z => by omega) (fun z => absurd z (by decide))
    · rw [if_pos (show ¬ nI Z.1 = nI s.1 from fun z => q1 ((nI_eq (by omega) (by omega)).mp z).symm)]
      by_cases q2 : Z.1 < n
      · rw [if_pos ⟨by omega, q2⟩] at K
        exact ih (r + 1) Z h3 _ _ (by omega) q2 (by omega) R3 g3 rfl (fun h4 H4 R4 => K h4 (HC_trans H3 H4) R4)
      · exact fin 0 (fun z => q2 z.2) (fun _ => by omega)
theorem c_pump (R : RC h A) (G : St → Prop) (g : G A) (hG1 : ∀ B, G B → ∀ x y, x < 4 → y < 5 → whA B x y = true → OI B l c p ∧ J1 B) (hG2 : ∀ n (s : Nat × St) i, i ≤ 20 → G s.2 → G (pmR n l c p s i).2) {n : Int32} (K : ∀ h', HC h h' → RC h' (pumA A n l c p).2 → Q (some (.int (pumA A n l c p).1)) h') : pz_M (d + 9) mX9_pump [.ref 0, .int n] h Q := by
  simp only [enX9_pump, uX9_pump_0, uX9_pump_1, uX9_pump_2, uX9_pump_5, uX9_pump_8, uX9_pump_11, uX9_pump_12, uX9_pump_13, uX9_pump_14, uX9_pump_15, uX9_pump_16, uX9_pump_17, uX9_pump_18, uX9_pump_22, uX9_pump_23, uX9_pump_26, uX9_pump_27, uX9_pump_30, uX9_pump_31, uX9_pump_32, uX9_pump_35, uX9_pump_36, uX9_pump_38, uX9_pump_39, uX9_pump_41, uX9_pump_43, uX9_pump_45, uX9_pump_48, uX9_pump_49, uX9_pump_50, uX9_pump_53, uX9_pump_53o, uX9_pump_53f, uX9_pump_54, uX9_pump_57, uX9_pump_59, uX9_pump_60, uX9_pump_61, uX9_pump_63, uX9_pump_64, uX9_pump_65, uX9_pump_68, uX9_pump_69, uX9_pump_72, uX9_pump_75, uX9_pump_78, uX9_pump_81, uX9_pump_82, uX9_pump_84, uX9_pump_87, uX9_pump_88, uX9_pump_91, uX9_pump_92, uX9_pump_93, uX9_pump_96, uX9_pump_99, uX9_pump_100, pq_C_sI, pq_C_sJ, pq_C_sR, pq_C_sA, pq_L_sI, pq_L_sJ, pq_L_sR, pq_L_sA, pq_I_sI, pq_I_sJ, pq_I_sR, pq_I_sA, pq_J_sI, pq_J_sJ, pq_J_sR, pq_J_sA, pq_R_sI, pq_R_sJ, pq_R_sR, pq_R_sA, pq_N_sI, pq_N_sJ, pq_N_sR, pq_N_sA, pq_S_sI, pq_S_sJ, pq_S_sR, pq_S_sA, pz_rf_s, pz_cut_i, pz_cut_r, pz_cut_n, pz_cut_f, pz_cut_u, pz_cut_o, true_and, and_true, true_or, or_true, Option.toList_some, Option.toList_none, List.cons_append, List.nil_append, Nat.add_left_cancel_iff, Nat.left_eq_add, Nat.add_eq_left, Nat.reduceEqDiff, if_true, if_false, ite_true, ite_false, false_and, and_false, false_or, or_false, reduceIte, reduceCtorEq, and_self, z_4, z_5, z_7, z_8, z_10, z_16, z_20, z_64, not_false_eq_true, c_isWithin]
  unfold pumA at K
  by_cases q1 : n < 1
  · rw [if_pos (Or.inl q1)] at K
    rw [if_neg (show ¬ (1 ≤ n ∧ n ≤ 2000) from fun z => absurd z.1 (i32_nle.mpr q1)), if_neg (fun z => z rfl)]
    exact K h HC_refl R
  · by_cases q2 : 2000 < n
    · rw [if_pos (Or.inr q2)] at K
      rw [if_neg (show ¬ (1 ≤ n ∧ n ≤ 2000) from fun z => absurd z.2 (i32_nle.mpr q2)), if_neg (fun z => z rfl)]
      exact K h HC_refl R
    · rw [if_neg (fun z => z.elim q1 q2)] at K
      have h1 : 1 ≤ n := i32_nlt.mp q1
      rw [if_pos (show 1 ≤ n ∧ n ≤ 2000 from ⟨h1, i32_nlt.mp q2⟩), if_pos (show ¬ (1 : Int32) = 0 by decide)]
      obtain ⟨j, hj, rfl⟩ := nI_of (x := n) (fun z => by
        have z1 := Int32.lt_iff_toInt_lt.mp z
        have z2 := Int32.le_iff_toInt_le.mp h1
        have e0 : (0 : Int32).toInt = 0 := by decide
        have e1 : (1 : Int32).toInt = 1 := by decide
        omega)
      have j1 : 1 ≤ j := (nI_leI (a := 1) (by decide) hj).mp h1
      have j2 : j ≤ 2000 := (nI_leI (b := 2000) hj (by decide)).mp (i32_nlt.mp q2)
      rw [nI_clamp hj] at K
      exact pmp_2 j2 G hG1 (hG2 j) j 0 (0, A) h _ _ (by omega) (by omega) (by omega) R g rfl K
end
