/-! ===== the class: askFor, settle ===== -/
section
variable {d : Nat} {h : PzH} {Q : Option Value → PzH → Prop} {A : St} {l c p : Nat}
theorem c_addAsked (R : RC h A) {a b v : Nat} (ha : a < 5) (hb : b < 5) (hab : a ≠ b) (hv : v < 1024) (hl : (sL A (5 * a + b)).length < 4) (K : ∀ h', HF (lkC (5 * a + b)) h h' → RC h' (adL A (5 * a + b) v) → Q none h') : pz_M (d + 1) mX3_addAsked [.ref (lkA (5 * a + b)), .int (nI v)] h Q := by
  obtain ⟨⟨k1, k2, k3, k4, k5⟩, L⟩ := LN_of R ha hb hab
  obtain ⟨r0, r1, r3, r4, r5, r6, r7, r8, r9, r10, r12, ⟨M, P1, M4, Mv, Mf⟩, r13, rw⟩ := L
  have ml : M.length = (sL A (5 * a + b)).length := P1.length_eq
  have ne : ∀ i, i ≠ 0 → ¬ lkA (5 * a + b) = lkA (5 * a + b) + i := fun i hi => by omega
  simp only [enX3_addAsked, uX3_addAsked_0, uX3_addAsked_0o, uX3_addAsked_0f, uX3_addAsked_1, uX3_addAsked_4, uX3_addAsked_5, uX3_addAsked_8, uX3_addAsked_8o, uX3_addAsked_8f, uX3_addAsked_9, uX3_addAsked_12, uX3_addAsked_12o, uX3_addAsked_12f, uX3_addAsked_13, uX3_addAsked_16, uX3_addAsked_17, uX3_addAsked_18, uX3_addAsked_18o, uX3_addAsked_18f, uX3_addAsked_19, uX3_addAsked_20, uX3_addAsked_23, uX3_addAsked_24, uX3_addAsked_25, uX3_addAsked_28, pq_C_sI, pq_C_sJ, pq_C_sR, pq_C_sA, pq_L_sI, pq_L_sJ, pq_L_sR, pq_L_sA, pq_I_sI, pq_I_sJ, pq_I_sR, pq_I_sA, pq_J_sI, pq_J_sJ, pq_J_sR, pq_J_sA, pq_R_sI, pq_R_sJ, pq_R_sR, pq_R_sA, pq_N_sI, pq_N_sJ, pq_N_sR, pq_N_sA, pq_S_sI, pq_S_sJ, pq_S_sR, pq_S_sA, pz_rf_s, pz_cut_i, pz_cut_r, pz_cut_n, pz_cut_f, pz_cut_u, pz_cut_o, true_and, and_true, true_or, or_true, Option.toList_some, Option.toList_none, List.cons_append, List.nil_append, Nat.add_left_cancel_iff, Nat.left_eq_add, Nat.add_eq_left, Nat.reduceEqDiff, if_true, if_false, ite_true, ite_false, false_and, and_false, false_or, or_false, reduceIte, reduceCtorEq, and_self, z_4, z_5, z_7, z_8, z_10, z_16, z_20, z_64, not_false_eq_true, k1, k3, k4, k5, r12]
  rw [if_neg (show ¬ (4 : Int32) ≤ nI (sL A (5 * a + b)).length from nI_ge (b := 4) hl (by decide))]
  simp (disch := omega) only [nI_clamp, pz_in_nI, true_and, ne 3 (by decide), false_and, if_false, r12, nI_1]
  generalize hk : lkA (5 * a + b) = k at *
  have f : HF (lkC (5 * a + b)) h (pz_sI (pz_sI h (k + 3) (sL A (5 * a + b)).length (nI v)) k 12 (nI ((sL A (5 * a + b)).length + 1))) := HF_trans (HF_sI (lkC_m.mpr (by omega))) (HF_sI (lkC_m.mpr (by omega)))
  have f2 : HF [k, k + 3] h (pz_sI (pz_sI h (k + 3) (sL A (5 * a + b)).length (nI v)) k 12 (nI ((sL A (5 * a + b)).length + 1))) := HF_trans (HF_sI (by simp)) (HF_sI (by simp))
  refine K _ f (RC_lk R ha hb hab f ?_ (fun _ => rfl) rfl rfl rfl (fun _ _ => rfl) (fun _ _ _ _ => rfl) (fun _ _ _ _ => rfl) (fun j hj => upf_n hj) (fun _ _ => rfl))
  have iv : ∀ i, pz_I (pz_sI (pz_sI h (k + 3) (sL A (5 * a + b)).length (nI v)) k 12 (nI ((sL A (5 * a + b)).length + 1))) k i = if i = 12 then nI ((sL A (5 * a + b)).length + 1) else pz_I h k i := by
    intro i
    rw [pq_I_sI]
    by_cases e : i = 12
    · rw [if_pos ⟨rfl, e⟩, if_pos e]
    · rw [if_neg (fun z => e z.2), if_neg e, pq_I_sI, if_neg (fun z => by omega)]
  have i3 : pz_I (pz_sI (pz_sI h (k + 3) (sL A (5 * a + b)).length (nI v)) k 12 (nI ((sL A (5 * a + b)).length + 1))) (k + 3) = upd (pz_I h (k + 3)) (sL A (5 * a + b)).length (nI v) := by
    funext j
    rw [pq_I_sI, if_neg (fun z => by omega), pq_I_sI]
    unfold upd
    by_cases e : j = (sL A (5 * a + b)).length
    · rw [if_pos ⟨rfl, e⟩, if_pos e]
    · rw [if_neg (fun z => e z.2), if_neg e]
  unfold LR
  rw [hk, i3, iv 0, iv 1, iv 3, iv 4, iv 5, iv 6, iv 7, iv 8, iv 9, iv 12, iv 13]
  have eL : sL (adL A (5 * a + b) v) (5 * a + b) = v :: sL A (5 * a + b) := upf_s
  rw [eL]
  refine ⟨r0, r1, r3, r4, r5, r6, r7, r8, r9, r10, rfl, ⟨M ++ [v], ?_, ?_, ?_, ?_⟩, r13, ROW_fr rw f2 (by simp) (by simp)⟩
  · exact (List.perm_append_comm (l₁ := M) (l₂ := [v])).trans (P1.cons v)
  · rw [List.length_append]; simp; omega
  · intro w hw
    rcases List.mem_append.mp hw with z | z
    · exact Mv w z
    · have : w = v := by simpa using z
      omega
  · intro i hi
    rw [List.length_append] at hi
    have hi' : i < M.length + 1 := by simpa using hi
    by_cases e : i = M.length
    · subst e
      have e3 : (M ++ [v]).getD M.length 0 = v := by
        have := getD_app2 (l := M) (m := [v]) (i := 0) (z := 0)
        simpa using this
      rw [e3, ml, pk_us]
    · rw [pk_un (by omega), Mf i (by omega), getD_app1 (by omega)]
theorem c_askFor (R : RC h A) (I : OI A l c p) {a b : Nat} (ha : a < 4) (hb : b < 5) (hab : a ≠ b) (hh : sB A 24 (5 * a + b) ≠ 0) (K : ∀ h', HC h h' → RC h' (askN a b l c p 4 A) → Q none h') : pz_M (d + 6) mX0_askFor [.ref 132, .ref (36 + 4 * a), .ref (lkA (5 * a + b))] h Q := by
  have hj := LI_j (show a < 5 by omega) hb I.2 hh
  have hth : sB A 18 a ≠ 0 := by
    rcases ((I.2.1 a b (by omega) hb).1 hj).2.1 with z | z
    · omega
    · exact z
  have loop : ∀ (r : Nat) (A : St) (h0 h : PzH) (v4 v5 : Value), 4 ≤ r + (sL A (5 * a + b)).length → HC h0 h → RC h A → OI A l c p → sB A 24 (5 * a + b) ≠ 0 → sB A 28 (5 * a + b) ≠ 0 → sB A 27 (5 * a + b) = 0 → BZ (pz_I h 137) (bsy A a) → pz_cut v4 = v4 → (∀ h', HC h0 h' → RC h' (askN a b l c p r A) → Q none h') → wp (d + 5) mX0_askFor 29 [.ref 132, .ref (36 + 4 * a), .ref (lkA (5 * a + b)), .int (nI (sL A (5 * a + b)).length), v4, v5] [] h Q := by
    intro r
    induction r with
    | zero =>
      intro A h0 h v4 v5 hr H0 R I _ _ _ Z _ K
      have L := (LN_of R (show a < 5 by omega) hb hab).2
      obtain ⟨M, P1, M4, _, _⟩ := L.2.2.2.2.2.2.2.2.2.2.2.1
      have ml := P1.length_eq
      rw [uX0_askFor_29]
      simp only [enX0_askFor, uX0_askFor_0, uX0_askFor_0o, uX0_askFor_0f, uX0_askFor_1, uX0_askFor_4, uX0_askFor_7, uX0_askFor_7o, uX0_askFor_7f, uX0_askFor_8, uX0_askFor_11, uX0_askFor_14, uX0_askFor_15, uX0_askFor_15o, uX0_askFor_15f, uX0_askFor_16, uX0_askFor_16o, uX0_askFor_16f, uX0_askFor_17, uX0_askFor_17o, uX0_askFor_17f, uX0_askFor_18, uX0_askFor_21, uX0_askFor_24, uX0_askFor_24o, uX0_askFor_24f, uX0_askFor_25, uX0_askFor_28, uX0_askFor_30, uX0_askFor_31, uX0_askFor_34, uX0_askFor_34o, uX0_askFor_34f, uX0_askFor_35, uX0_askFor_38, uX0_askFor_41, uX0_askFor_41o, uX0_askFor_41f, uX0_askFor_42, uX0_askFor_42o, uX0_askFor_42f, uX0_askFor_43, uX0_askFor_43o, uX0_askFor_43f, uX0_askFor_44, uX0_askFor_47, uX0_askFor_49, uX0_askFor_51, uX0_askFor_52, uX0_askFor_55, uX0_askFor_56, uX0_askFor_56o, uX0_askFor_56f, uX0_askFor_57, uX0_askFor_60, uX0_askFor_62, uX0_askFor_63, uX0_askFor_66, uX0_askFor_68, uX0_askFor_68o, uX0_askFor_68f, uX0_askFor_69, uX0_askFor_72, uX0_askFor_74, uX0_askFor_75, uX0_askFor_76, uX0_askFor_77, uX0_askFor_79, uX0_askFor_80, uX0_askFor_81, uX0_askFor_82, uX0_askFor_82o, uX0_askFor_82f, uX0_askFor_83, uX0_askFor_85, uX0_askFor_87, uX0_askFor_88, uX0_askFor_90, uX0_askFor_91, uX0_askFor_94, uX0_askFor_94o, uX0_askFor_94f, uX0_askFor_95, uX0_askFor_97, uX0_askFor_99, uX0_askFor_101, uX0_askFor_102, uX0_askFor_102o, uX0_askFor_102f, uX0_askFor_103, uX0_askFor_106, uX0_askFor_109, uX0_askFor_111, uX0_askFor_113, uX0_askFor_116, uX0_askFor_119, uX0_askFor_119o, uX0_askFor_119f, uX0_askFor_120, uX0_askFor_123, uX0_askFor_123o, uX0_askFor_123f, uX0_askFor_124, uX0_askFor_124o, uX0_askFor_124f, uX0_askFor_125, uX0_askFor_128, uX0_askFor_131, uX0_askFor_134, uX0_askFor_137, pq_C_sI, pq_C_sJ, pq_C_sR, pq_C_sA, pq_L_sI, pq_L_sJ, pq_L_sR, pq_L_sA, pq_I_sI, pq_I_sJ, pq_I_sR, pq_I_sA, pq_J_sI, pq_J_sJ, pq_J_sR, pq_J_sA, pq_R_sI, pq_R_sJ, pq_R_sR, pq_R_sA, pq_N_sI, pq_N_sJ, pq_N_sR, pq_N_sA, pq_S_sI, pq_S_sJ, pq_S_sR, pq_S_sA, pz_rf_s, pz_cut_i, pz_cut_r, pz_cut_n, pz_cut_f, pz_cut_u, pz_cut_o, true_and, and_true, true_or, or_true, Option.toList_some, Option.toList_none, List.cons_append, List.nil_append, Nat.add_left_cancel_iff, Nat.left_eq_add, Nat.add_eq_left, Nat.reduceEqDiff, if_true, if_false, ite_true, ite_false, false_and, and_false, false_or, or_false, reduceIte, reduceCtorEq, and_self, z_4, z_5, z_7, z_8, z_10, z_16, z_20, z_64, not_false_eq_true]
      rw [if_pos (show (4 : Int32) ≤ nI (sL A (5 * a + b)).length from nI_le (a := 4) (by omega) (by omega))]
      exact K h H0 R
    | succ r ih =>
      intro A h0 h v4 v5 hr H0 R I hh h28 h27 Z c4 K
      have hj := LI_j (show a < 5 by omega) hb I.2 hh
      have hj2 := ((I.2.1 a b (by omega) hb).1 hj).2.2
      have hth : sB A 18 a ≠ 0 := by
        rcases ((I.2.1 a b (by omega) hb).1 hj).2.1 with z | z
        · omega
        · exact z
      obtain ⟨a1, a2, a3, a4, a5, a6, a7, a8⟩ := ACT_of R
      obtain ⟨⟨k1, k2, k3, k4, k5⟩, L⟩ := LN_of R (show a < 5 by omega) hb hab
      obtain ⟨M, P1, M4, _, _⟩ := L.2.2.2.2.2.2.2.2.2.2.2.1
      have ml := P1.length_eq
      have q4 := L.2.2.2.1
      obtain ⟨t, ht, tr, tc, T⟩ := TS_of R
      have n1 := R.1.2.2.2.2.2.1.1
      rw [uX0_askFor_29]
      simp only [enX0_askFor, uX0_askFor_0, uX0_askFor_0o, uX0_askFor_0f, uX0_askFor_1, uX0_askFor_4, uX0_askFor_7, uX0_askFor_7o, uX0_askFor_7f, uX0_askFor_8, uX0_askFor_11, uX0_askFor_14, uX0_askFor_15, uX0_askFor_15o, uX0_askFor_15f, uX0_askFor_16, uX0_askFor_16o, uX0_askFor_16f, uX0_askFor_17, uX0_askFor_17o, uX0_askFor_17f, uX0_askFor_18, uX0_askFor_21, uX0_askFor_24, uX0_askFor_24o, uX0_askFor_24f, uX0_askFor_25, uX0_askFor_28, uX0_askFor_30, uX0_askFor_31, uX0_askFor_34, uX0_askFor_34o, uX0_askFor_34f, uX0_askFor_35, uX0_askFor_38, uX0_askFor_41, uX0_askFor_41o, uX0_askFor_41f, uX0_askFor_42, uX0_askFor_42o, uX0_askFor_42f, uX0_askFor_43, uX0_askFor_43o, uX0_askFor_43f, uX0_askFor_44, uX0_askFor_47, uX0_askFor_49, uX0_askFor_51, uX0_askFor_52, uX0_askFor_55, uX0_askFor_57, uX0_askFor_60, uX0_askFor_62, uX0_askFor_63, uX0_askFor_66, uX0_askFor_68, uX0_askFor_68o, uX0_askFor_68f, uX0_askFor_69, uX0_askFor_72, uX0_askFor_74, uX0_askFor_75, uX0_askFor_76, uX0_askFor_77, uX0_askFor_79, uX0_askFor_80, uX0_askFor_81, uX0_askFor_82, uX0_askFor_82o, uX0_askFor_82f, uX0_askFor_83, uX0_askFor_85, uX0_askFor_87, uX0_askFor_88, uX0_askFor_90, uX0_askFor_91, uX0_askFor_94, uX0_askFor_94o, uX0_askFor_94f, uX0_askFor_95, uX0_askFor_97, uX0_askFor_99, uX0_askFor_101, uX0_askFor_102, uX0_askFor_102o, uX0_askFor_102f, uX0_askFor_103, uX0_askFor_106, uX0_askFor_109, uX0_askFor_111, uX0_askFor_113, uX0_askFor_116, uX0_askFor_119, uX0_askFor_119o, uX0_askFor_119f, uX0_askFor_120, uX0_askFor_123, uX0_askFor_123o, uX0_askFor_123f, uX0_askFor_124, uX0_askFor_124o, uX0_askFor_124f, uX0_askFor_125, uX0_askFor_128, uX0_askFor_131, uX0_askFor_134, uX0_askFor_137, pq_C_sI, pq_C_sJ, pq_C_sR, pq_C_sA, pq_L_sI, pq_L_sJ, pq_L_sR, pq_L_sA, pq_I_sI, pq_I_sJ, pq_I_sR, pq_I_sA, pq_J_sI, pq_J_sJ, pq_J_sR, pq_J_sA, pq_R_sI, pq_R_sJ, pq_R_sR, pq_R_sA, pq_N_sI, pq_N_sJ, pq_N_sR, pq_N_sA, pq_S_sI, pq_S_sJ, pq_S_sR, pq_S_sA, pz_rf_s, pz_cut_i, pz_cut_r, pz_cut_n, pz_cut_f, pz_cut_u, pz_cut_o, true_and, and_true, true_or, or_true, Option.toList_some, Option.toList_none, List.cons_append, List.nil_append, Nat.add_left_cancel_iff, Nat.left_eq_add, Nat.add_eq_left, Nat.reduceEqDiff, if_true, if_false, ite_true, ite_false, false_and, and_false, false_or, or_false, reduceIte, reduceCtorEq, and_self, z_4, z_5, z_7, z_8, z_10, z_16, z_20, z_64, not_false_eq_true, k1, q4, a1, c_rarest R I ha hb hab hth Z]
      unfold askN at K
      by_cases q : (sL A (5 * a + b)).length < 4
      · rw [if_neg (show ¬ (4 : Int32) ≤ nI (sL A (5 * a + b)).length from nI_ge (b := 4) q (by decide)), if_neg hh]
        rw [if_pos ⟨h28, h27, q⟩] at K
        cases en : (nxt A a b l c p p).1 with
        | none =>
          rw [en] at K
          rw [show rbO none = -1 from rfl]
          simp only [enX0_askFor, uX0_askFor_0, uX0_askFor_0o, uX0_askFor_0f, uX0_askFor_1, uX0_askFor_4, uX0_askFor_7, uX0_askFor_7o, uX0_askFor_7f, uX0_askFor_8, uX0_askFor_11, uX0_askFor_14, uX0_askFor_15, uX0_askFor_15o, uX0_askFor_15f, uX0_askFor_16, uX0_askFor_16o, uX0_askFor_16f, uX0_askFor_17, uX0_askFor_17o, uX0_askFor_17f, uX0_askFor_18, uX0_askFor_21, uX0_askFor_24, uX0_askFor_24o, uX0_askFor_24f, uX0_askFor_25, uX0_askFor_28, uX0_askFor_30, uX0_askFor_31, uX0_askFor_34, uX0_askFor_34o, uX0_askFor_34f, uX0_askFor_35, uX0_askFor_38, uX0_askFor_41, uX0_askFor_41o, uX0_askFor_41f, uX0_askFor_42, uX0_askFor_42o, uX0_askFor_42f, uX0_askFor_43, uX0_askFor_43o, uX0_askFor_43f, uX0_askFor_44, uX0_askFor_47, uX0_askFor_49, uX0_askFor_51, uX0_askFor_52, uX0_askFor_55, uX0_askFor_57, uX0_askFor_60, uX0_askFor_62, uX0_askFor_63, uX0_askFor_66, uX0_askFor_68, uX0_askFor_68o, uX0_askFor_68f, uX0_askFor_69, uX0_askFor_72, uX0_askFor_74, uX0_askFor_75, uX0_askFor_76, uX0_askFor_77, uX0_askFor_79, uX0_askFor_80, uX0_askFor_81, uX0_askFor_82, uX0_askFor_82o, uX0_askFor_82f, uX0_askFor_83, uX0_askFor_85, uX0_askFor_87, uX0_askFor_88, uX0_askFor_90, uX0_askFor_91, uX0_askFor_94, uX0_askFor_94o, uX0_askFor_94f, uX0_askFor_95, uX0_askFor_97, uX0_askFor_99, uX0_askFor_101, uX0_askFor_102, uX0_askFor_102o, uX0_askFor_102f, uX0_askFor_103, uX0_askFor_106, uX0_askFor_109, uX0_askFor_111, uX0_askFor_113, uX0_askFor_116, uX0_askFor_119, uX0_askFor_119o, uX0_askFor_119f, uX0_askFor_120, uX0_askFor_123, uX0_askFor_123o, uX0_askFor_123f, uX0_askFor_124, uX0_askFor_124o, uX0_askFor_124f, uX0_askFor_125, uX0_askFor_128, uX0_askFor_131, uX0_askFor_134, uX0_askFor_137, pq_C_sI, pq_C_sJ, pq_C_sR, pq_C_sA, pq_L_sI, pq_L_sJ, pq_L_sR, pq_L_sA, pq_I_sI, pq_I_sJ, pq_I_sR, pq_I_sA, pq_J_sI, pq_J_sJ, pq_J_sR, pq_J_sA, pq_R_sI, pq_R_sJ, pq_R_sR, pq_R_sA, pq_N_sI, pq_N_sJ, pq_N_sR, pq_N_sA, pq_S_sI, pq_S_sJ, pq_S_sR, pq_S_sA, pz_rf_s, pz_cut_i, pz_cut_r, pz_cut_n, pz_cut_f, pz_cut_u, pz_cut_o, true_and, and_true, true_or, or_true, Option.toList_some, Option.toList_none, List.cons_append, List.nil_append, Nat.add_left_cancel_iff, Nat.left_eq_add, Nat.add_eq_left, Nat.reduceEqDiff, if_true, if_false, ite_true, ite_false, false_and, and_false, false_or, or_false, reduceIte, reduceCtorEq, and_self, z_4, z_5, z_7, z_8, z_10, z_16, z_20, z_64, not_false_eq_true, c4]
          exact K h H0 R
        | some v =>
          rw [en] at K
          dsimp only at K
          obtain ⟨O1, v1, v2, v3⟩ := OA_ad I.1 en
          obtain ⟨u1, u2, u3, u4⟩ := TN_i I.1.1 v1
          have t6 := I.1.1.2.2.2.2.2.1
          obtain ⟨P, P1', P2'⟩ := nxt_1 p en
          obtain ⟨w1, w2, w3, w5⟩ := wbl_sp (nbl_le I.1.1 P1').1 P2'
          obtain ⟨m, m1, m2, m3⟩ := Z (v / 16) (by omega)
          rw [← w1] at P2'
          obtain ⟨f1, f2⟩ := bz_fst I v1 m3 P2'
          rw [show rbO (some v) = nI (v / 16) from rfl, if_pos (show ¬ nI (v / 16) = -1 from fun z => by
            have z1 := congrArg Int32.toInt z
            rw [nI_toInt (by omega)] at z1
            have : (-1 : Int32).toInt = -1 := by decide
            omega)]
          have hin : pz_in (nI (v / 16)) 64 = true := pz_in_nI (by omega) (by decide)
          have ec : (16 : Int32) * nI (v / 16) + nI (v % 16) = nI v := by
            rw [show (16 : Int32) = nI 16 from rfl, pk_mul, nI_add, show 16 * (v / 16) + v % 16 = v by omega]
          simp only [enX0_askFor, uX0_askFor_0, uX0_askFor_0o, uX0_askFor_0f, uX0_askFor_1, uX0_askFor_4, uX0_askFor_7, uX0_askFor_7o, uX0_askFor_7f, uX0_askFor_8, uX0_askFor_11, uX0_askFor_14, uX0_askFor_15, uX0_askFor_15o, uX0_askFor_15f, uX0_askFor_16, uX0_askFor_16o, uX0_askFor_16f, uX0_askFor_17, uX0_askFor_17o, uX0_askFor_17f, uX0_askFor_18, uX0_askFor_21, uX0_askFor_24, uX0_askFor_24o, uX0_askFor_24f, uX0_askFor_25, uX0_askFor_28, uX0_askFor_30, uX0_askFor_31, uX0_askFor_34, uX0_askFor_34o, uX0_askFor_34f, uX0_askFor_35, uX0_askFor_38, uX0_askFor_41, uX0_askFor_41o, uX0_askFor_41f, uX0_askFor_42, uX0_askFor_42o, uX0_askFor_42f, uX0_askFor_43, uX0_askFor_43o, uX0_askFor_43f, uX0_askFor_44, uX0_askFor_47, uX0_askFor_49, uX0_askFor_51, uX0_askFor_52, uX0_askFor_55, uX0_askFor_56, uX0_askFor_56o, uX0_askFor_56f, uX0_askFor_57, uX0_askFor_60, uX0_askFor_62, uX0_askFor_63, uX0_askFor_66, uX0_askFor_68, uX0_askFor_68o, uX0_askFor_68f, uX0_askFor_69, uX0_askFor_72, uX0_askFor_74, uX0_askFor_75, uX0_askFor_76, uX0_askFor_77, uX0_askFor_79, uX0_askFor_80, uX0_askFor_81, uX0_askFor_82, uX0_askFor_82o, uX0_askFor_82f, uX0_askFor_83, uX0_askFor_85, uX0_askFor_87, uX0_askFor_88, uX0_askFor_90, uX0_askFor_91, uX0_askFor_95, uX0_askFor_97, uX0_askFor_99, uX0_askFor_101, uX0_askFor_102, uX0_askFor_102o, uX0_askFor_102f, uX0_askFor_103, uX0_askFor_106, uX0_askFor_109, uX0_askFor_111, uX0_askFor_113, uX0_askFor_116, uX0_askFor_119, uX0_askFor_119o, uX0_askFor_119f, uX0_askFor_120, uX0_askFor_123, uX0_askFor_123o, uX0_askFor_123f, uX0_askFor_124, uX0_askFor_124o, uX0_askFor_124f, uX0_askFor_125, uX0_askFor_128, uX0_askFor_131, uX0_askFor_134, uX0_askFor_137, pq_C_sI, pq_C_sJ, pq_C_sR, pq_C_sA, pq_L_sI, pq_L_sJ, pq_L_sR, pq_L_sA, pq_I_sI, pq_I_sJ, pq_I_sR, pq_I_sA, pq_J_sI, pq_J_sJ, pq_J_sR, pq_J_sA, pq_R_sI, pq_R_sJ, pq_R_sR, pq_R_sA, pq_N_sI, pq_N_sJ, pq_N_sR, pq_N_sA, pq_S_sI, pq_S_sJ, pq_S_sR, pq_S_sA, pz_rf_s, pz_cut_i, pz_cut_r, pz_cut_n, pz_cut_f, pz_cut_u, pz_cut_o, true_and, and_true, true_or, or_true, Option.toList_some, Option.toList_none, List.cons_append, List.nil_append, Nat.add_left_cancel_iff, Nat.left_eq_add, Nat.add_eq_left, Nat.reduceEqDiff, if_true, if_false, ite_true, ite_false, false_and, and_false, false_or, or_false, reduceIte, reduceCtorEq, and_self, z_4, z_5, z_7, z_8, z_10, z_16, z_20, z_64, not_false_eq_true, a1, a6, a7, a8, hin, nI_clamp (show v / 16 < 2 ^ 31 by omega), m2, c_firstFree m1 (show v % 16 < 16 by omega) f1 f2, c4, k1, ec]
          -- the block is busy from now on
          have F1 : HF [137] h (pz_sI h 137 (v / 16) (nI m ||| 1 <<< (nI (v % 16) &&& 31))) := HF_sI (by simp)
          have Z1 := BZ_set Z (show v / 16 < 64 by omega) (show v % 16 < 16 by omega)
          rw [show 16 * (v / 16) + v % 16 = v by omega, m2] at Z1
          have e137 : pz_I (pz_sI h 137 (v / 16) (nI m ||| 1 <<< (nI (v % 16) &&& 31))) 137 = upd (pz_I h 137) (v / 16) (nI m ||| 1 <<< (nI (v % 16) &&& 31)) := by
            rw [pq_sI_A, pq_I_sA, if_pos rfl]
          rw [← e137] at Z1
          have R1 := RC_137 R F1
          have H1 : HC h (pz_sI h 137 (v / 16) (nI m ||| 1 <<< (nI (v % 16) &&& 31))) := HC_HF F1 (fun x hx => by simp at hx; omega)
          generalize pz_sI h 137 (v / 16) (nI m ||| 1 <<< (nI (v % 16) &&& 31)) = h1 at Z1 R1 H1
          refine c_addAsked R1 (show a < 5 by omega) hb hab v3 q (fun h2 F2 R2 => ?_)
          have lin := lkA_in (k := 5 * a + b) (by omega) (by omega)
          have Z2 : BZ (pz_I h2 137) (bsy (adL A (5 * a + b) v) a) := by
            rw [F2.2.2.2.2.2.2.2.1 137 (fun z => by rw [lkC_m] at z; omega)]
            refine BZ_iff Z1 (fun w _ => ?_)
            unfold bsy
            rw [anyN_iff, anyN_iff]
            constructor
            · rintro ((z | ⟨b', b1, b2⟩) | z)
              · exact Or.inl z
              · refine Or.inr ⟨b', b1, ?_⟩
                show w ∈ upf (sL A) (5 * a + b) (v :: sL A (5 * a + b)) (5 * a + b')
                by_cases e : 5 * a + b' = 5 * a + b
                · rw [e, upf_s]
                  rw [e] at b2
                  exact List.mem_cons_of_mem _ b2
                · rw [upf_n e]
                  exact b2
              · refine Or.inr ⟨b, hb, ?_⟩
                show w ∈ upf (sL A) (5 * a + b) (v :: sL A (5 * a + b)) (5 * a + b)
                rw [upf_s, z]
                exact List.mem_cons_self
            · rintro (z | ⟨b', b1, b2⟩)
              · exact Or.inl (Or.inl z)
              · have b2' : w ∈ upf (sL A) (5 * a + b) (v :: sL A (5 * a + b)) (5 * a + b') := b2
                by_cases e : 5 * a + b' = 5 * a + b
                · rw [e, upf_s] at b2'
                  rcases List.mem_cons.mp b2' with y | y
                  · exact Or.inr y
                  · exact Or.inl (Or.inr ⟨b, hb, y⟩)
                · rw [upf_n e] at b2'
                  exact Or.inl (Or.inr ⟨b', b1, b2'⟩)
          have I2 : OI (adL A (5 * a + b) v) l c p := ⟨O1, LI_WL I.2 (fun k hk z => z) (fun k hk z => by
            rw [upf_n (show k ≠ 5 * a + b from fun q => hj (by rw [← q]; exact hk))]
            exact z)⟩
          have eL : sL (adL A (5 * a + b) v) (5 * a + b) = v :: sL A (5 * a + b) := upf_s
          have H2 : HC h1 h2 := HC_HF F2 (fun x hx => by rw [lkC_m] at hx; omega)
          have B2 : sB (adL A (5 * a + b) v) = sB A := rfl
          have W2 : sW (adL A (5 * a + b) v) = sW A := rfl
          generalize adL A (5 * a + b) v = A2 at R2 Z2 I2 eL B2 W2 K
          obtain ⟨b1, b2, b3, b4, b5, b6, b7, b8⟩ := ACT_of R2
          obtain ⟨t2, ht2, tr2, tc2, T2⟩ := TS_of R2
          have n2 := R2.1.2.2.2.2.2.1.1
          have e64 : (64 : Int32) * nI (v % 16) = nI (64 * (v % 16)) := pk_mul 64 _
          simp only [enX0_askFor, uX0_askFor_0, uX0_askFor_0o, uX0_askFor_0f, uX0_askFor_1, uX0_askFor_4, uX0_askFor_7, uX0_askFor_7o, uX0_askFor_7f, uX0_askFor_8, uX0_askFor_11, uX0_askFor_14, uX0_askFor_15, uX0_askFor_15o, uX0_askFor_15f, uX0_askFor_16, uX0_askFor_16o, uX0_askFor_16f, uX0_askFor_17, uX0_askFor_17o, uX0_askFor_17f, uX0_askFor_18, uX0_askFor_21, uX0_askFor_24, uX0_askFor_24o, uX0_askFor_24f, uX0_askFor_25, uX0_askFor_28, uX0_askFor_30, uX0_askFor_31, uX0_askFor_34, uX0_askFor_34o, uX0_askFor_34f, uX0_askFor_35, uX0_askFor_38, uX0_askFor_41, uX0_askFor_41o, uX0_askFor_41f, uX0_askFor_42, uX0_askFor_42o, uX0_askFor_42f, uX0_askFor_43, uX0_askFor_43o, uX0_askFor_43f, uX0_askFor_44, uX0_askFor_47, uX0_askFor_49, uX0_askFor_51, uX0_askFor_52, uX0_askFor_55, uX0_askFor_56, uX0_askFor_56o, uX0_askFor_56f, uX0_askFor_57, uX0_askFor_60, uX0_askFor_62, uX0_askFor_63, uX0_askFor_66, uX0_askFor_68, uX0_askFor_68o, uX0_askFor_68f, uX0_askFor_69, uX0_askFor_72, uX0_askFor_74, uX0_askFor_75, uX0_askFor_76, uX0_askFor_77, uX0_askFor_79, uX0_askFor_80, uX0_askFor_81, uX0_askFor_82, uX0_askFor_82o, uX0_askFor_82f, uX0_askFor_83, uX0_askFor_85, uX0_askFor_87, uX0_askFor_88, uX0_askFor_90, uX0_askFor_91, uX0_askFor_94, uX0_askFor_94o, uX0_askFor_94f, uX0_askFor_95, uX0_askFor_97, uX0_askFor_99, uX0_askFor_101, uX0_askFor_102, uX0_askFor_102o, uX0_askFor_102f, uX0_askFor_103, uX0_askFor_106, uX0_askFor_109, uX0_askFor_111, uX0_askFor_113, uX0_askFor_116, uX0_askFor_119, uX0_askFor_119o, uX0_askFor_119f, uX0_askFor_120, uX0_askFor_123, uX0_askFor_123o, uX0_askFor_123f, uX0_askFor_124, uX0_askFor_124o, uX0_askFor_124f, uX0_askFor_125, uX0_askFor_128, uX0_askFor_131, uX0_askFor_134, uX0_askFor_137, pq_C_sI, pq_C_sJ, pq_C_sR, pq_C_sA, pq_L_sI, pq_L_sJ, pq_L_sR, pq_L_sA, pq_I_sI, pq_I_sJ, pq_I_sR, pq_I_sA, pq_J_sI, pq_J_sJ, pq_J_sR, pq_J_sA, pq_R_sI, pq_R_sJ, pq_R_sR, pq_R_sA, pq_N_sI, pq_N_sJ, pq_N_sR, pq_N_sA, pq_S_sI, pq_S_sJ, pq_S_sR, pq_S_sA, pz_rf_s, pz_cut_i, pz_cut_r, pz_cut_n, pz_cut_f, pz_cut_u, pz_cut_o, true_and, and_true, true_or, or_true, Option.toList_some, Option.toList_none, List.cons_append, List.nil_append, Nat.add_left_cancel_iff, Nat.left_eq_add, Nat.add_eq_left, Nat.reduceEqDiff, if_true, if_false, ite_true, ite_false, false_and, and_false, false_or, or_false, reduceIte, reduceCtorEq, and_self, z_4, z_5, z_7, z_8, z_10, z_16, z_20, z_64, not_false_eq_true, b1, b2, n2, tr2, tc2, c_blockSize tc2 T2 I2.1.1 v1 (show 64 * (v % 16) ≤ psz l c p (v / 16) by omega), e64]
          refine c_noteRequest R2 (fun h3 F3 N3 => ?_)
          have R3 := RC_note R2 F3 N3
          obtain ⟨c1, c2, c3, c4, c5, c6, c7, c8⟩ := ACT_of R3
          have n3 := R3.1.2.2.2.2.2.1.1
          have Z3 : BZ (pz_I h3 137) (bsy A2 a) := by rw [F3.2.2.2.2.2.2.2.1 137 (by simp)]; exact Z2
          simp only [enX0_askFor, uX0_askFor_0, uX0_askFor_0o, uX0_askFor_0f, uX0_askFor_1, uX0_askFor_4, uX0_askFor_7, uX0_askFor_7o, uX0_askFor_7f, uX0_askFor_8, uX0_askFor_11, uX0_askFor_14, uX0_askFor_15, uX0_askFor_15o, uX0_askFor_15f, uX0_askFor_16, uX0_askFor_16o, uX0_askFor_16f, uX0_askFor_17, uX0_askFor_17o, uX0_askFor_17f, uX0_askFor_18, uX0_askFor_21, uX0_askFor_24, uX0_askFor_24o, uX0_askFor_24f, uX0_askFor_25, uX0_askFor_28, uX0_askFor_30, uX0_askFor_31, uX0_askFor_34, uX0_askFor_34o, uX0_askFor_34f, uX0_askFor_35, uX0_askFor_38, uX0_askFor_41, uX0_askFor_41o, uX0_askFor_41f, uX0_askFor_42, uX0_askFor_42o, uX0_askFor_42f, uX0_askFor_43, uX0_askFor_43o, uX0_askFor_43f, uX0_askFor_44, uX0_askFor_47, uX0_askFor_49, uX0_askFor_51, uX0_askFor_52, uX0_askFor_55, uX0_askFor_56, uX0_askFor_56o, uX0_askFor_56f, uX0_askFor_57, uX0_askFor_60, uX0_askFor_62, uX0_askFor_63, uX0_askFor_66, uX0_askFor_68, uX0_askFor_68o, uX0_askFor_68f, uX0_askFor_69, uX0_askFor_72, uX0_askFor_74, uX0_askFor_75, uX0_askFor_76, uX0_askFor_77, uX0_askFor_79, uX0_askFor_80, uX0_askFor_81, uX0_askFor_82, uX0_askFor_82o, uX0_askFor_82f, uX0_askFor_83, uX0_askFor_85, uX0_askFor_87, uX0_askFor_88, uX0_askFor_90, uX0_askFor_91, uX0_askFor_94, uX0_askFor_94o, uX0_askFor_94f, uX0_askFor_95, uX0_askFor_97, uX0_askFor_99, uX0_askFor_101, uX0_askFor_102, uX0_askFor_102o, uX0_askFor_102f, uX0_askFor_103, uX0_askFor_106, uX0_askFor_109, uX0_askFor_111, uX0_askFor_113, uX0_askFor_116, uX0_askFor_119, uX0_askFor_119o, uX0_askFor_119f, uX0_askFor_120, uX0_askFor_123, uX0_askFor_123o, uX0_askFor_123f, uX0_askFor_124, uX0_askFor_124o, uX0_askFor_124f, uX0_askFor_125, uX0_askFor_128, uX0_askFor_131, uX0_askFor_134, uX0_askFor_137, pq_C_sI, pq_C_sJ, pq_C_sR, pq_C_sA, pq_L_sI, pq_L_sJ, pq_L_sR, pq_L_sA, pq_I_sI, pq_I_sJ, pq_I_sR, pq_I_sA, pq_J_sI, pq_J_sJ, pq_J_sR, pq_J_sA, pq_R_sI, pq_R_sJ, pq_R_sR, pq_R_sA, pq_N_sI, pq_N_sJ, pq_N_sR, pq_N_sA, pq_S_sI, pq_S_sJ, pq_S_sR, pq_S_sA, pz_rf_s, pz_cut_i, pz_cut_r, pz_cut_n, pz_cut_f, pz_cut_u, pz_cut_o, true_and, and_true, true_or, or_true, Option.toList_some, Option.toList_none, List.cons_append, List.nil_append, Nat.add_left_cancel_iff, Nat.left_eq_add, Nat.add_eq_left, Nat.reduceEqDiff, if_true, if_false, ite_true, ite_false, false_and, and_false, false_or, or_false, reduceIte, reduceCtorEq, and_self, z_4, z_5, z_7, z_8, z_10, z_16, z_20, z_64, not_false_eq_true, c1, c2, c5, n3]
          have hw2 : (sW A2 (5 * a + b)).length ≤ 4000 := I2.1.2.1 _ (by omega)
          have hj2' : sB A2 23 (5 * b + a) ≠ 0 := by rw [B2]; exact hj2
          have hj' : sB A2 23 (5 * a + b) ≠ 0 := by rw [B2]; exact hj
          refine c_send R3 (show a < 5 by omega) hb hab hj2' hw2 N3 (fun h4 F4 R4 => ?_)
          simp only [enX0_askFor, uX0_askFor_0, uX0_askFor_0o, uX0_askFor_0f, uX0_askFor_1, uX0_askFor_4, uX0_askFor_7, uX0_askFor_7o, uX0_askFor_7f, uX0_askFor_8, uX0_askFor_11, uX0_askFor_14, uX0_askFor_15, uX0_askFor_15o, uX0_askFor_15f, uX0_askFor_16, uX0_askFor_16o, uX0_askFor_16f, uX0_askFor_17, uX0_askFor_17o, uX0_askFor_17f, uX0_askFor_18, uX0_askFor_21, uX0_askFor_24, uX0_askFor_24o, uX0_askFor_24f, uX0_askFor_25, uX0_askFor_28, uX0_askFor_30, uX0_askFor_31, uX0_askFor_34, uX0_askFor_34o, uX0_askFor_34f, uX0_askFor_35, uX0_askFor_38, uX0_askFor_41, uX0_askFor_41o, uX0_askFor_41f, uX0_askFor_42, uX0_askFor_42o, uX0_askFor_42f, uX0_askFor_43, uX0_askFor_43o, uX0_askFor_43f, uX0_askFor_44, uX0_askFor_47, uX0_askFor_49, uX0_askFor_51, uX0_askFor_52, uX0_askFor_55, uX0_askFor_56, uX0_askFor_56o, uX0_askFor_56f, uX0_askFor_57, uX0_askFor_60, uX0_askFor_62, uX0_askFor_63, uX0_askFor_66, uX0_askFor_68, uX0_askFor_68o, uX0_askFor_68f, uX0_askFor_69, uX0_askFor_72, uX0_askFor_74, uX0_askFor_75, uX0_askFor_76, uX0_askFor_77, uX0_askFor_79, uX0_askFor_80, uX0_askFor_81, uX0_askFor_82, uX0_askFor_82o, uX0_askFor_82f, uX0_askFor_83, uX0_askFor_85, uX0_askFor_87, uX0_askFor_88, uX0_askFor_90, uX0_askFor_91, uX0_askFor_94, uX0_askFor_94o, uX0_askFor_94f, uX0_askFor_95, uX0_askFor_97, uX0_askFor_99, uX0_askFor_101, uX0_askFor_102, uX0_askFor_102o, uX0_askFor_102f, uX0_askFor_103, uX0_askFor_106, uX0_askFor_109, uX0_askFor_111, uX0_askFor_113, uX0_askFor_116, uX0_askFor_119, uX0_askFor_119o, uX0_askFor_119f, uX0_askFor_120, uX0_askFor_123, uX0_askFor_123o, uX0_askFor_123f, uX0_askFor_124, uX0_askFor_124o, uX0_askFor_124f, uX0_askFor_125, uX0_askFor_128, uX0_askFor_131, uX0_askFor_134, uX0_askFor_137, pq_C_sI, pq_C_sJ, pq_C_sR, pq_C_sA, pq_L_sI, pq_L_sJ, pq_L_sR, pq_L_sA, pq_I_sI, pq_I_sJ, pq_I_sR, pq_I_sA, pq_J_sI, pq_J_sJ, pq_J_sR, pq_J_sA, pq_R_sI, pq_R_sJ, pq_R_sR, pq_R_sA, pq_N_sI, pq_N_sJ, pq_N_sR, pq_N_sA, pq_S_sI, pq_S_sJ, pq_S_sR, pq_S_sA, pz_rf_s, pz_cut_i, pz_cut_r, pz_cut_n, pz_cut_f, pz_cut_u, pz_cut_o, true_and, and_true, true_or, or_true, Option.toList_some, Option.toList_none, List.cons_append, List.nil_append, Nat.add_left_cancel_iff, Nat.left_eq_add, Nat.add_eq_left, Nat.reduceEqDiff, if_true, if_false, ite_true, ite_false, false_and, and_false, false_or, or_false, reduceIte, reduceCtorEq, and_self, z_4, z_5, z_7, z_8, z_10, z_16, z_20, z_64, not_false_eq_true, nI_1]
          have H4 : HC h0 h4 := HC_trans H0 (HC_trans H1 (HC_trans H2 (HC_trans (HC_note F3) (HC_HL F4))))
          have erq : be4 13 ++ ([(6 : Int32).toInt8] ++ (be4 (nI (v / 16)) ++ (be4 (nI (64 * (v % 16))) ++ be4 (nI (bsz l c p (v / 16) (v % 16)))))) = rqL l c p v := rfl
          rw [erq] at R4
          generalize rqL l c p v = ql at R4 K
          have I4 : OI (sndA A2 a b ql) l c p := OI_snd (by omega) hb I2 hj'
          have Z4 : pz_I h4 137 = pz_I h3 137 := by
            obtain ⟨cs, fc, gc⟩ := F4
            exact fc.2.2.2.2.2.2.2.1 137 (fun z => by have := gc 137 z; unfold lkR at this; omega)
          by_cases qs : (sW A2 (5 * a + b)).length + ql.length ≤ 4000
          · have es : sndA A2 a b ql = apA A2 (5 * a + b) ql := if_pos qs
            rw [es] at R4 I4 K
            have e5 : sL (apA A2 (5 * a + b) ql) (5 * a + b) = v :: sL A (5 * a + b) := eL
            have eb : sB (apA A2 (5 * a + b) ql) = sB A := B2
            have := ih (apA A2 (5 * a + b) ql) h0 h4 (.int (nI (v / 16))) (.int (nI (v % 16))) (by rw [e5]; simp only [List.length_cons]; omega) H4 R4 I4 (by rw [eb]; exact hh) (by rw [eb]; exact h28) (by rw [eb]; exact h27) (by rw [Z4]; exact Z3) rfl K
            rw [e5] at this
            exact this
          · have es : sndA A2 a b ql = clA A2 a b 8 := if_neg qs
            rw [es] at R4 I4 K
            have z24 : sB (clA A2 a b 8) 24 (5 * a + b) = 0 := by rw [cl_v (by decide)]; split; rfl; rw [if_pos rfl]
            have z28 : sB (clA A2 a b 8) 28 (5 * a + b) = 0 := by rw [cl_v (by decide)]; split; rfl; rw [if_pos rfl]
            have L4 := LN_of R4 (show a < 5 by omega) hb hab
            have q4' := L4.2.2.2.2.1
            rw [z24] at q4'
            have ek : askN a b l c p r (clA A2 a b 8) = clA A2 a b 8 := by
              cases r with
              | zero => rfl
              | succ r =>
                unfold askN
                rw [if_neg (fun z => z.1 z28)]
            rw [ek] at K
            have L4k := L4.1.1
            rw [uX0_askFor_29]
            simp only [enX0_askFor, uX0_askFor_0, uX0_askFor_0o, uX0_askFor_0f, uX0_askFor_1, uX0_askFor_4, uX0_askFor_7, uX0_askFor_7o, uX0_askFor_7f, uX0_askFor_8, uX0_askFor_11, uX0_askFor_14, uX0_askFor_15, uX0_askFor_15o, uX0_askFor_15f, uX0_askFor_16, uX0_askFor_16o, uX0_askFor_16f, uX0_askFor_17, uX0_askFor_17o, uX0_askFor_17f, uX0_askFor_18, uX0_askFor_21, uX0_askFor_24, uX0_askFor_24o, uX0_askFor_24f, uX0_askFor_25, uX0_askFor_28, uX0_askFor_30, uX0_askFor_31, uX0_askFor_34, uX0_askFor_34o, uX0_askFor_34f, uX0_askFor_35, uX0_askFor_38, uX0_askFor_41, uX0_askFor_41o, uX0_askFor_41f, uX0_askFor_42, uX0_askFor_42o, uX0_askFor_42f, uX0_askFor_43, uX0_askFor_43o, uX0_askFor_43f, uX0_askFor_44, uX0_askFor_47, uX0_askFor_49, uX0_askFor_51, uX0_askFor_52, uX0_askFor_55, uX0_askFor_56, uX0_askFor_56o, uX0_askFor_56f, uX0_askFor_57, uX0_askFor_60, uX0_askFor_62, uX0_askFor_63, uX0_askFor_66, uX0_askFor_68, uX0_askFor_68o, uX0_askFor_68f, uX0_askFor_69, uX0_askFor_72, uX0_askFor_74, uX0_askFor_75, uX0_askFor_76, uX0_askFor_77, uX0_askFor_79, uX0_askFor_80, uX0_askFor_81, uX0_askFor_82, uX0_askFor_82o, uX0_askFor_82f, uX0_askFor_83, uX0_askFor_85, uX0_askFor_87, uX0_askFor_88, uX0_askFor_90, uX0_askFor_91, uX0_askFor_94, uX0_askFor_94o, uX0_askFor_94f, uX0_askFor_95, uX0_askFor_97, uX0_askFor_99, uX0_askFor_101, uX0_askFor_102, uX0_askFor_102o, uX0_askFor_102f, uX0_askFor_103, uX0_askFor_106, uX0_askFor_109, uX0_askFor_111, uX0_askFor_113, uX0_askFor_116, uX0_askFor_119, uX0_askFor_119o, uX0_askFor_119f, uX0_askFor_120, uX0_askFor_123, uX0_askFor_123o, uX0_askFor_123f, uX0_askFor_124, uX0_askFor_124o, uX0_askFor_124f, uX0_askFor_125, uX0_askFor_128, uX0_askFor_131, uX0_askFor_134, uX0_askFor_137, pq_C_sI, pq_C_sJ, pq_C_sR, pq_C_sA, pq_L_sI, pq_L_sJ, pq_L_sR, pq_L_sA, pq_I_sI, pq_I_sJ, pq_I_sR, pq_I_sA, pq_J_sI, pq_J_sJ, pq_J_sR, pq_J_sA, pq_R_sI, pq_R_sJ, pq_R_sR, pq_R_sA, pq_N_sI, pq_N_sJ, pq_N_sR, pq_N_sA, pq_S_sI, pq_S_sJ, pq_S_sR, pq_S_sA, pz_rf_s, pz_cut_i, pz_cut_r, pz_cut_n, pz_cut_f, pz_cut_u, pz_cut_o, true_and, and_true, true_or, or_true, Option.toList_some, Option.toList_none, List.cons_append, List.nil_append, Nat.add_left_cancel_iff, Nat.left_eq_add, Nat.add_eq_left, Nat.reduceEqDiff, if_true, if_false, ite_true, ite_false, false_and, and_false, false_or, or_false, reduceIte, reduceCtorEq, and_self, z_4, z_5, z_7, z_8, z_10, z_16, z_20, z_64, not_false_eq_true, L4k, q4']
            split <;> exact K h4 H4 R4
      · rw [if_neg (fun z => q z.2.2)] at K
        rw [if_pos (show (4 : Int32) ≤ nI (sL A (5 * a + b)).length from nI_le (a := 4) (by omega) (by omega))]
        exact K h H0 R
  obtain ⟨a1, a2, a3, a4, a5, a6, a7, a8⟩ := ACT_of R
  obtain ⟨⟨k1, k2, k3, k4, k5⟩, L⟩ := LN_of R (show a < 5 by omega) hb hab
  have r7 := L.2.2.2.2.2.2.1
  rw [if_neg hj] at r7
  have r8 := L.2.2.2.2.2.2.2.1
  have r0 := L.1
  simp only [enX0_askFor, uX0_askFor_0, uX0_askFor_0o, uX0_askFor_0f, uX0_askFor_1, uX0_askFor_4, uX0_askFor_7, uX0_askFor_7o, uX0_askFor_7f, uX0_askFor_8, uX0_askFor_11, uX0_askFor_14, uX0_askFor_15, uX0_askFor_15o, uX0_askFor_15f, uX0_askFor_16, uX0_askFor_16o, uX0_askFor_16f, uX0_askFor_17, uX0_askFor_17o, uX0_askFor_17f, uX0_askFor_18, uX0_askFor_21, uX0_askFor_25, uX0_askFor_28, uX0_askFor_30, uX0_askFor_31, uX0_askFor_34, uX0_askFor_34o, uX0_askFor_34f, uX0_askFor_35, uX0_askFor_38, uX0_askFor_41, uX0_askFor_41o, uX0_askFor_41f, uX0_askFor_42, uX0_askFor_42o, uX0_askFor_42f, uX0_askFor_43, uX0_askFor_43o, uX0_askFor_43f, uX0_askFor_44, uX0_askFor_47, uX0_askFor_49, uX0_askFor_51, uX0_askFor_52, uX0_askFor_55, uX0_askFor_56, uX0_askFor_56o, uX0_askFor_56f, uX0_askFor_57, uX0_askFor_60, uX0_askFor_62, uX0_askFor_63, uX0_askFor_66, uX0_askFor_68, uX0_askFor_68o, uX0_askFor_68f, uX0_askFor_69, uX0_askFor_72, uX0_askFor_74, uX0_askFor_75, uX0_askFor_76, uX0_askFor_77, uX0_askFor_79, uX0_askFor_80, uX0_askFor_81, uX0_askFor_82, uX0_askFor_82o, uX0_askFor_82f, uX0_askFor_83, uX0_askFor_85, uX0_askFor_87, uX0_askFor_88, uX0_askFor_90, uX0_askFor_91, uX0_askFor_94, uX0_askFor_94o, uX0_askFor_94f, uX0_askFor_95, uX0_askFor_97, uX0_askFor_99, uX0_askFor_101, uX0_askFor_102, uX0_askFor_102o, uX0_askFor_102f, uX0_askFor_103, uX0_askFor_106, uX0_askFor_109, uX0_askFor_111, uX0_askFor_113, uX0_askFor_116, uX0_askFor_119, uX0_askFor_119o, uX0_askFor_119f, uX0_askFor_120, uX0_askFor_123, uX0_askFor_123o, uX0_askFor_123f, uX0_askFor_124, uX0_askFor_124o, uX0_askFor_124f, uX0_askFor_125, uX0_askFor_128, uX0_askFor_131, uX0_askFor_134, uX0_askFor_137, pq_C_sI, pq_C_sJ, pq_C_sR, pq_C_sA, pq_L_sI, pq_L_sJ, pq_L_sR, pq_L_sA, pq_I_sI, pq_I_sJ, pq_I_sR, pq_I_sA, pq_J_sI, pq_J_sJ, pq_J_sR, pq_J_sA, pq_R_sI, pq_R_sJ, pq_R_sR, pq_R_sA, pq_N_sI, pq_N_sJ, pq_N_sR, pq_N_sA, pq_S_sI, pq_S_sJ, pq_S_sR, pq_S_sA, pz_rf_s, pz_cut_i, pz_cut_r, pz_cut_n, pz_cut_f, pz_cut_u, pz_cut_o, true_and, and_true, true_or, or_true, Option.toList_some, Option.toList_none, List.cons_append, List.nil_append, Nat.add_left_cancel_iff, Nat.left_eq_add, Nat.add_eq_left, Nat.reduceEqDiff, if_true, if_false, ite_true, ite_false, false_and, and_false, false_or, or_false, reduceIte, reduceCtorEq, and_self, z_4, z_5, z_7, z_8, z_10, z_16, z_20, z_64, not_false_eq_true, a1, k1, r8, r7, r0]
  by_cases q1 : sB A 28 (5 * a + b) = 0
  · rw [if_pos q1]
    have e : askN a b l c p 4 A = A := by
      unfold askN
      rw [if_neg (fun z => z.1 q1)]
    rw [e] at K
    exact K h HC_refl R
  · rw [if_neg q1]
    by_cases q2 : sB A 27 (5 * a + b) = 0
    · rw [if_pos q2]
      refine c_look R I ha hth (fun h1 F1 Z1 => ?_)
      have R1 := RC_137 R F1
      obtain ⟨⟨k1, _⟩, L1⟩ := LN_of R1 (show a < 5 by omega) hb hab
      have r12 := L1.2.2.2.2.2.2.2.2.2.2.1
      simp only [enX0_askFor, uX0_askFor_0, uX0_askFor_0o, uX0_askFor_0f, uX0_askFor_1, uX0_askFor_4, uX0_askFor_7, uX0_askFor_7o, uX0_askFor_7f, uX0_askFor_8, uX0_askFor_11, uX0_askFor_14, uX0_askFor_15, uX0_askFor_15o, uX0_askFor_15f, uX0_askFor_16, uX0_askFor_16o, uX0_askFor_16f, uX0_askFor_17, uX0_askFor_17o, uX0_askFor_17f, uX0_askFor_18, uX0_askFor_21, uX0_askFor_24, uX0_askFor_24o, uX0_askFor_24f, uX0_askFor_25, uX0_askFor_28, uX0_askFor_30, uX0_askFor_31, uX0_askFor_34, uX0_askFor_34o, uX0_askFor_34f, uX0_askFor_35, uX0_askFor_38, uX0_askFor_41, uX0_askFor_41o, uX0_askFor_41f, uX0_askFor_42, uX0_askFor_42o, uX0_askFor_42f, uX0_askFor_43, uX0_askFor_43o, uX0_askFor_43f, uX0_askFor_44, uX0_askFor_47, uX0_askFor_49, uX0_askFor_51, uX0_askFor_52, uX0_askFor_55, uX0_askFor_56, uX0_askFor_56o, uX0_askFor_56f, uX0_askFor_57, uX0_askFor_60, uX0_askFor_62, uX0_askFor_63, uX0_askFor_66, uX0_askFor_68, uX0_askFor_68o, uX0_askFor_68f, uX0_askFor_69, uX0_askFor_72, uX0_askFor_74, uX0_askFor_75, uX0_askFor_76, uX0_askFor_77, uX0_askFor_79, uX0_askFor_80, uX0_askFor_81, uX0_askFor_82, uX0_askFor_82o, uX0_askFor_82f, uX0_askFor_83, uX0_askFor_85, uX0_askFor_87, uX0_askFor_88, uX0_askFor_90, uX0_askFor_91, uX0_askFor_94, uX0_askFor_94o, uX0_askFor_94f, uX0_askFor_95, uX0_askFor_97, uX0_askFor_99, uX0_askFor_101, uX0_askFor_102, uX0_askFor_102o, uX0_askFor_102f, uX0_askFor_103, uX0_askFor_106, uX0_askFor_109, uX0_askFor_111, uX0_askFor_113, uX0_askFor_116, uX0_askFor_119, uX0_askFor_119o, uX0_askFor_119f, uX0_askFor_120, uX0_askFor_123, uX0_askFor_123o, uX0_askFor_123f, uX0_askFor_124, uX0_askFor_124o, uX0_askFor_124f, uX0_askFor_125, uX0_askFor_128, uX0_askFor_131, uX0_askFor_134, uX0_askFor_137, pq_C_sI, pq_C_sJ, pq_C_sR, pq_C_sA, pq_L_sI, pq_L_sJ, pq_L_sR, pq_L_sA, pq_I_sI, pq_I_sJ, pq_I_sR, pq_I_sA, pq_J_sI, pq_J_sJ, pq_J_sR, pq_J_sA, pq_R_sI, pq_R_sJ, pq_R_sR, pq_R_sA, pq_N_sI, pq_N_sJ, pq_N_sR, pq_N_sA, pq_S_sI, pq_S_sJ, pq_S_sR, pq_S_sA, pz_rf_s, pz_cut_i, pz_cut_r, pz_cut_n, pz_cut_f, pz_cut_u, pz_cut_o, true_and, and_true, true_or, or_true, Option.toList_some, Option.toList_none, List.cons_append, List.nil_append, Nat.add_left_cancel_iff, Nat.left_eq_add, Nat.add_eq_left, Nat.reduceEqDiff, if_true, if_false, ite_true, ite_false, false_and, and_false, false_or, or_false, reduceIte, reduceCtorEq, and_self, z_4, z_5, z_7, z_8, z_10, z_16, z_20, z_64, not_false_eq_true, k1, r12]
      exact loop 4 A h h1 _ _ (by omega) (HC_HF F1 (fun x hx => by simp at hx; omega)) R1 I hh q1 q2 Z1 rfl K
    · rw [if_neg q2]
      have e : askN a b l c p 4 A = A := by
        unfold askN
        rw [if_neg (fun z => q2 z.2.1)]
      rw [e] at K
      exact K h HC_refl R
theorem c_settle (R : RC h A) (I : OI A l c p) {a : Nat} (ha : a < 4) (K : ∀ h', HC h h' → RC h' (goN A a l c p 5) → Q none h') : pz_M (d + 7) mX0_settle [.ref 132, .ref (36 + 4 * a), .int (nI a)] h Q := by
  simp only [enX0_settle, uX0_settle_0, uX0_settle_1, uX0_settle_3, uX0_settle_4, uX0_settle_7, uX0_settle_7o, uX0_settle_7f, uX0_settle_8, uX0_settle_11, uX0_settle_12, uX0_settle_13, uX0_settle_16, uX0_settle_16o, uX0_settle_18, uX0_settle_18o, uX0_settle_18f, uX0_settle_20, uX0_settle_20a, uX0_settle_23, uX0_settle_23o, uX0_settle_23f, uX0_settle_25, uX0_settle_28, uX0_settle_31, uX0_settle_31o, uX0_settle_31f, uX0_settle_32, uX0_settle_32o, uX0_settle_32f, uX0_settle_33, uX0_settle_33o, uX0_settle_33f, uX0_settle_35, uX0_settle_38, uX0_settle_38o, uX0_settle_38f, uX0_settle_40, uX0_settle_40a, uX0_settle_43, uX0_settle_43o, uX0_settle_43f, uX0_settle_45, uX0_settle_48, uX0_settle_51, uX0_settle_51o, uX0_settle_51f, uX0_settle_52, uX0_settle_52o, uX0_settle_52f, uX0_settle_54, uX0_settle_57, uX0_settle_57o, uX0_settle_57f, uX0_settle_59, uX0_settle_59a, uX0_settle_62, uX0_settle_62o, uX0_settle_62f, uX0_settle_64, uX0_settle_67, uX0_settle_70, uX0_settle_70o, uX0_settle_70f, uX0_settle_71, uX0_settle_71o, uX0_settle_71f, uX0_settle_72, uX0_settle_72o, uX0_settle_72f, uX0_settle_74, uX0_settle_77, uX0_settle_80, uX0_settle_83, pq_C_sI, pq_C_sJ, pq_C_sR, pq_C_sA, pq_L_sI, pq_L_sJ, pq_L_sR, pq_L_sA, pq_I_sI, pq_I_sJ, pq_I_sR, pq_I_sA, pq_J_sI, pq_J_sJ, pq_J_sR, pq_J_sA, pq_R_sI, pq_R_sJ, pq_R_sR, pq_R_sA, pq_N_sI, pq_N_sJ, pq_N_sR, pq_N_sA, pq_S_sI, pq_S_sJ, pq_S_sR, pq_S_sA, pz_rf_s, pz_cut_i, pz_cut_r, pz_cut_n, pz_cut_f, pz_cut_u, pz_cut_o, true_and, and_true, true_or, or_true, Option.toList_some, Option.toList_none, List.cons_append, List.nil_append, Nat.add_left_cancel_iff, Nat.left_eq_add, Nat.add_eq_left, Nat.reduceEqDiff, if_true, if_false, ite_true, ite_false, false_and, and_false, false_or, or_false, reduceIte, reduceCtorEq, and_self, z_4, z_5, z_7, z_8, z_10, z_16, z_20, z_64, not_false_eq_true]
  refine wp_up 5 (fun i ls h' => (∃ v4, ls = [.ref 132, .ref (36 + 4 * a), .int (nI a), .int (nI i), v4]) ∧ HC h h' ∧ RC h' (goN A a l c p i)) ?_ ?_ _ _ ⟨⟨.retAddr 0, rfl⟩, HC_refl, R⟩
  · rintro i ls h' hi ⟨⟨v4, rfl⟩, H, R'⟩ K'
    have I' := OI_go ha I i (by omega)
    obtain ⟨a1, a2, a3, a4, a5, a6, a7, a8⟩ := ACT_of R'
    have n1 := R'.1.2.2.2.2.2.1.1
    have stp : goN A a l c p (i + 1) = go1 (goN A a l c p i) a i l c p := rfl
    rw [stp] at K'
    generalize goN A a l c p i = A0 at R' I' K'
    rw [uX0_settle_2]
    by_cases e : a = i
    · subst e
      rw [uX0_settle_3, uX0_settle_4, if_neg (show ¬ (5 : Int32) ≤ nI a from nI_ge hi (by decide))]
      simp only [enX0_settle, uX0_settle_0, uX0_settle_1, uX0_settle_3, uX0_settle_4, uX0_settle_7, uX0_settle_7o, uX0_settle_7f, uX0_settle_8, uX0_settle_11, uX0_settle_12, uX0_settle_13, uX0_settle_16, uX0_settle_16o, uX0_settle_18, uX0_settle_18o, uX0_settle_18f, uX0_settle_20, uX0_settle_20a, uX0_settle_23, uX0_settle_23o, uX0_settle_23f, uX0_settle_25, uX0_settle_28, uX0_settle_31, uX0_settle_31o, uX0_settle_31f, uX0_settle_32, uX0_settle_32o, uX0_settle_32f, uX0_settle_33, uX0_settle_33o, uX0_settle_33f, uX0_settle_35, uX0_settle_38, uX0_settle_38o, uX0_settle_38f, uX0_settle_40, uX0_settle_40a, uX0_settle_43, uX0_settle_43o, uX0_settle_43f, uX0_settle_45, uX0_settle_48, uX0_settle_51, uX0_settle_51o, uX0_settle_51f, uX0_settle_52, uX0_settle_52o, uX0_settle_52f, uX0_settle_54, uX0_settle_57, uX0_settle_57o, uX0_settle_57f, uX0_settle_59, uX0_settle_59a, uX0_settle_62, uX0_settle_62o, uX0_settle_62f, uX0_settle_64, uX0_settle_67, uX0_settle_70, uX0_settle_70o, uX0_settle_70f, uX0_settle_71, uX0_settle_71o, uX0_settle_71f, uX0_settle_72, uX0_settle_72o, uX0_settle_72f, uX0_settle_74, uX0_settle_77, uX0_settle_80, uX0_settle_83, pq_C_sI, pq_C_sJ, pq_C_sR, pq_C_sA, pq_L_sI, pq_L_sJ, pq_L_sR, pq_L_sA, pq_I_sI, pq_I_sJ, pq_I_sR, pq_I_sA, pq_J_sI, pq_J_sJ, pq_J_sR, pq_J_sA, pq_R_sI, pq_R_sJ, pq_R_sR, pq_R_sA, pq_N_sI, pq_N_sJ, pq_N_sR, pq_N_sA, pq_S_sI, pq_S_sJ, pq_S_sR, pq_S_sA, pz_rf_s, pz_cut_i, pz_cut_r, pz_cut_n, pz_cut_f, pz_cut_u, pz_cut_o, true_and, and_true, true_or, or_true, Option.toList_some, Option.toList_none, List.cons_append, List.nil_append, Nat.add_left_cancel_iff, Nat.left_eq_add, Nat.add_eq_left, Nat.reduceEqDiff, if_true, if_false, ite_true, ite_false, false_and, and_false, false_or, or_false, reduceIte, reduceCtorEq, and_self, z_4, z_5, z_7, z_8, z_10, z_16, z_20, z_64, not_false_eq_true, a1, a2, n1, c_linkOf R'.1, lkO_eq (show a < 5 by omega), nI_1]
      have z : sB A0 24 (5 * a + a) = 0 := Classical.byContradiction (fun z => ((I'.2.1 a a (by omega) (by omega)).1 (LI_j (by omega) (by omega) I'.2 z)).1 rfl)
      have eg : go1 A0 a a l c p = A0 := by
        unfold go1
        simp only [z, if_true]
      rw [eg] at K'
      exact K' _ _ ⟨⟨_, rfl⟩, H, R'⟩
    · have k1 := (LN_of R' (show a < 5 by omega) hi e).1.1
      have r4 := (LN_of R' (show a < 5 by omega) hi e).2.2.2.2.1
      rw [uX0_settle_3, uX0_settle_4, if_neg (show ¬ (5 : Int32) ≤ nI i from nI_ge hi (by decide))]
      have s3 : ∀ (B : St) (g : PzH), HC h g → RC g B → OI B l c p → (∀ g', HC h g' → RC g' (if sB B 24 (5 * a + i) = 0 then B else askN a i l c p 4 B) → wp (d + 6) mX0_settle 77 [.ref 132, .ref (36 + 4 * a), .int (nI a), .int (nI i), .ref (lkA (5 * a + i))] [] g' Q) → wp (d + 6) mX0_settle 57 [.ref 132, .ref (36 + 4 * a), .int (nI a), .int (nI i), .ref (lkA (5 * a + i))] [] g Q := by
        intro B g H RB IB KB
        have k1 := (LN_of RB (show a < 5 by omega) hi e).1.1
        have r4 := (LN_of RB (show a < 5 by omega) hi e).2.2.2.2.1
        have b1 := (ACT_of RB).1
        simp only [enX0_settle, uX0_settle_0, uX0_settle_1, uX0_settle_2, uX0_settle_3, uX0_settle_4, uX0_settle_7, uX0_settle_7o, uX0_settle_7f, uX0_settle_8, uX0_settle_11, uX0_settle_12, uX0_settle_13, uX0_settle_16, uX0_settle_16o, uX0_settle_18, uX0_settle_18o, uX0_settle_18f, uX0_settle_20, uX0_settle_20a, uX0_settle_23, uX0_settle_23o, uX0_settle_23f, uX0_settle_25, uX0_settle_28, uX0_settle_31, uX0_settle_31o, uX0_settle_31f, uX0_settle_32, uX0_settle_32o, uX0_settle_32f, uX0_settle_33, uX0_settle_33o, uX0_settle_33f, uX0_settle_35, uX0_settle_38, uX0_settle_38o, uX0_settle_38f, uX0_settle_40, uX0_settle_40a, uX0_settle_43, uX0_settle_43o, uX0_settle_43f, uX0_settle_45, uX0_settle_48, uX0_settle_51, uX0_settle_51o, uX0_settle_51f, uX0_settle_52, uX0_settle_52o, uX0_settle_52f, uX0_settle_54, uX0_settle_57, uX0_settle_57o, uX0_settle_57f, uX0_settle_59, uX0_settle_59a, uX0_settle_62, uX0_settle_62o, uX0_settle_62f, uX0_settle_64, uX0_settle_67, uX0_settle_70, uX0_settle_70o, uX0_settle_70f, uX0_settle_71, uX0_settle_71o, uX0_settle_71f, uX0_settle_72, uX0_settle_72o, uX0_settle_72f, uX0_settle_74, uX0_settle_80, uX0_settle_83, pq_C_sI, pq_C_sJ, pq_C_sR, pq_C_sA, pq_L_sI, pq_L_sJ, pq_L_sR, pq_L_sA, pq_I_sI, pq_I_sJ, pq_I_sR, pq_I_sA, pq_J_sI, pq_J_sJ, pq_J_sR, pq_J_sA, pq_R_sI, pq_R_sJ, pq_R_sR, pq_R_sA, pq_N_sI, pq_N_sJ, pq_N_sR, pq_N_sA, pq_S_sI, pq_S_sJ, pq_S_sR, pq_S_sA, pz_rf_s, pz_cut_i, pz_cut_r, pz_cut_n, pz_cut_f, pz_cut_u, pz_cut_o, true_and, and_true, true_or, or_true, Option.toList_some, Option.toList_none, List.cons_append, List.nil_append, Nat.add_left_cancel_iff, Nat.left_eq_add, Nat.add_eq_left, Nat.reduceEqDiff, if_true, if_false, ite_true, ite_false, false_and, and_false, false_or, or_false, reduceIte, reduceCtorEq, and_self, z_4, z_5, z_7, z_8, z_10, z_16, z_20, z_64, not_false_eq_true, k1, r4, b1]
        by_cases q : sB B 24 (5 * a + i) = 0
        · rw [if_pos q] at KB ⊢
          exact KB g H RB
        · rw [if_neg q] at KB ⊢
          refine c_askFor RB IB ha hi e q (fun g2 H2 R2 => ?_)
          simp only [enX0_settle, uX0_settle_0, uX0_settle_1, uX0_settle_2, uX0_settle_3, uX0_settle_4, uX0_settle_7, uX0_settle_7o, uX0_settle_7f, uX0_settle_8, uX0_settle_11, uX0_settle_12, uX0_settle_13, uX0_settle_16, uX0_settle_16o, uX0_settle_18, uX0_settle_18o, uX0_settle_18f, uX0_settle_20, uX0_settle_20a, uX0_settle_23, uX0_settle_23o, uX0_settle_23f, uX0_settle_25, uX0_settle_28, uX0_settle_31, uX0_settle_31o, uX0_settle_31f, uX0_settle_32, uX0_settle_32o, uX0_settle_32f, uX0_settle_33, uX0_settle_33o, uX0_settle_33f, uX0_settle_35, uX0_settle_38, uX0_settle_38o, uX0_settle_38f, uX0_settle_40, uX0_settle_40a, uX0_settle_43, uX0_settle_43o, uX0_settle_43f, uX0_settle_45, uX0_settle_48, uX0_settle_51, uX0_settle_51o, uX0_settle_51f, uX0_settle_52, uX0_settle_52o, uX0_settle_52f, uX0_settle_54, uX0_settle_57, uX0_settle_57o, uX0_settle_57f, uX0_settle_59, uX0_settle_59a, uX0_settle_62, uX0_settle_62o, uX0_settle_62f, uX0_settle_64, uX0_settle_67, uX0_settle_70, uX0_settle_70o, uX0_settle_70f, uX0_settle_71, uX0_settle_71o, uX0_settle_71f, uX0_settle_72, uX0_settle_72o, uX0_settle_72f, uX0_settle_74, uX0_settle_80, uX0_settle_83, pq_C_sI, pq_C_sJ, pq_C_sR, pq_C_sA, pq_L_sI, pq_L_sJ, pq_L_sR, pq_L_sA, pq_I_sI, pq_I_sJ, pq_I_sR, pq_I_sA, pq_J_sI, pq_J_sJ, pq_J_sR, pq_J_sA, pq_R_sI, pq_R_sJ, pq_R_sR, pq_R_sA, pq_N_sI, pq_N_sJ, pq_N_sR, pq_N_sA, pq_S_sI, pq_S_sJ, pq_S_sR, pq_S_sA, pz_rf_s, pz_cut_i, pz_cut_r, pz_cut_n, pz_cut_f, pz_cut_u, pz_cut_o, true_and, and_true, true_or, or_true, Option.toList_some, Option.toList_none, List.cons_append, List.nil_append, Nat.add_left_cancel_iff, Nat.left_eq_add, Nat.add_eq_left, Nat.reduceEqDiff, if_true, if_false, ite_true, ite_false, false_and, and_false, false_or, or_false, reduceIte, reduceCtorEq, and_self, z_4, z_5, z_7, z_8, z_10, z_16, z_20, z_64, not_false_eq_true]
          exact KB g2 (HC_trans H H2) R2
      have s2 : ∀ (B : St) (g : PzH), HC h g → RC g B → OI B l c p → (∀ g', HC h g' → RC g' (if sB (if sB B 24 (5 * a + i) = 0 then B else choA B a i) 24 (5 * a + i) = 0 then (if sB B 24 (5 * a + i) = 0 then B else choA B a i) else askN a i l c p 4 (if sB B 24 (5 * a + i) = 0 then B else choA B a i)) → wp (d + 6) mX0_settle 77 [.ref 132, .ref (36 + 4 * a), .int (nI a), .int (nI i), .ref (lkA (5 * a + i))] [] g' Q) → wp (d + 6) mX0_settle 38 [.ref 132, .ref (36 + 4 * a), .int (nI a), .int (nI i), .ref (lkA (5 * a + i))] [] g Q := by
        intro B g H RB IB KB
        have k1 := (LN_of RB (show a < 5 by omega) hi e).1.1
        have r4 := (LN_of RB (show a < 5 by omega) hi e).2.2.2.2.1
        have b1 := (ACT_of RB).1
        simp only [enX0_settle, uX0_settle_0, uX0_settle_1, uX0_settle_2, uX0_settle_3, uX0_settle_4, uX0_settle_7, uX0_settle_7o, uX0_settle_7f, uX0_settle_8, uX0_settle_11, uX0_settle_12, uX0_settle_13, uX0_settle_16, uX0_settle_16o, uX0_settle_18, uX0_settle_18o, uX0_settle_18f, uX0_settle_20, uX0_settle_20a, uX0_settle_23, uX0_settle_23o, uX0_settle_23f, uX0_settle_25, uX0_settle_28, uX0_settle_31, uX0_settle_31o, uX0_settle_31f, uX0_settle_32, uX0_settle_32o, uX0_settle_32f, uX0_settle_33, uX0_settle_33o, uX0_settle_33f, uX0_settle_35, uX0_settle_38, uX0_settle_38o, uX0_settle_38f, uX0_settle_40, uX0_settle_40a, uX0_settle_43, uX0_settle_43o, uX0_settle_43f, uX0_settle_45, uX0_settle_48, uX0_settle_51, uX0_settle_51o, uX0_settle_51f, uX0_settle_52, uX0_settle_52o, uX0_settle_52f, uX0_settle_54, uX0_settle_59, uX0_settle_59a, uX0_settle_62, uX0_settle_62o, uX0_settle_62f, uX0_settle_64, uX0_settle_67, uX0_settle_70, uX0_settle_70o, uX0_settle_70f, uX0_settle_71, uX0_settle_71o, uX0_settle_71f, uX0_settle_72, uX0_settle_72o, uX0_settle_72f, uX0_settle_74, uX0_settle_80, uX0_settle_83, pq_C_sI, pq_C_sJ, pq_C_sR, pq_C_sA, pq_L_sI, pq_L_sJ, pq_L_sR, pq_L_sA, pq_I_sI, pq_I_sJ, pq_I_sR, pq_I_sA, pq_J_sI, pq_J_sJ, pq_J_sR, pq_J_sA, pq_R_sI, pq_R_sJ, pq_R_sR, pq_R_sA, pq_N_sI, pq_N_sJ, pq_N_sR, pq_N_sA, pq_S_sI, pq_S_sJ, pq_S_sR, pq_S_sA, pz_rf_s, pz_cut_i, pz_cut_r, pz_cut_n, pz_cut_f, pz_cut_u, pz_cut_o, true_and, and_true, true_or, or_true, Option.toList_some, Option.toList_none, List.cons_append, List.nil_append, Nat.add_left_cancel_iff, Nat.left_eq_add, Nat.add_eq_left, Nat.reduceEqDiff, if_true, if_false, ite_true, ite_false, false_and, and_false, false_or, or_false, reduceIte, reduceCtorEq, and_self, z_4, z_5, z_7, z_8, z_10, z_16, z_20, z_64, not_false_eq_true, k1, r4, b1]
        by_cases q : sB B 24 (5 * a + i) = 0
        · rw [if_pos q] at KB
          rw [if_pos q]
          exact s3 B g H RB IB KB
        · rw [if_neg q] at KB
          rw [if_neg q]
          refine c_showChoking RB IB ha hi e (LI_j (by omega) hi IB.2 q) (fun g2 H2 R2 => ?_)
          simp only [enX0_settle, uX0_settle_0, uX0_settle_1, uX0_settle_2, uX0_settle_3, uX0_settle_4, uX0_settle_7, uX0_settle_7o, uX0_settle_7f, uX0_settle_8, uX0_settle_11, uX0_settle_12, uX0_settle_13, uX0_settle_16, uX0_settle_16o, uX0_settle_18, uX0_settle_18o, uX0_settle_18f, uX0_settle_20, uX0_settle_20a, uX0_settle_23, uX0_settle_23o, uX0_settle_23f, uX0_settle_25, uX0_settle_28, uX0_settle_31, uX0_settle_31o, uX0_settle_31f, uX0_settle_32, uX0_settle_32o, uX0_settle_32f, uX0_settle_33, uX0_settle_33o, uX0_settle_33f, uX0_settle_35, uX0_settle_38, uX0_settle_38o, uX0_settle_38f, uX0_settle_40, uX0_settle_40a, uX0_settle_43, uX0_settle_43o, uX0_settle_43f, uX0_settle_45, uX0_settle_48, uX0_settle_51, uX0_settle_51o, uX0_settle_51f, uX0_settle_52, uX0_settle_52o, uX0_settle_52f, uX0_settle_54, uX0_settle_59, uX0_settle_59a, uX0_settle_62, uX0_settle_62o, uX0_settle_62f, uX0_settle_64, uX0_settle_67, uX0_settle_70, uX0_settle_70o, uX0_settle_70f, uX0_settle_71, uX0_settle_71o, uX0_settle_71f, uX0_settle_72, uX0_settle_72o, uX0_settle_72f, uX0_settle_74, uX0_settle_80, uX0_settle_83, pq_C_sI, pq_C_sJ, pq_C_sR, pq_C_sA, pq_L_sI, pq_L_sJ, pq_L_sR, pq_L_sA, pq_I_sI, pq_I_sJ, pq_I_sR, pq_I_sA, pq_J_sI, pq_J_sJ, pq_J_sR, pq_J_sA, pq_R_sI, pq_R_sJ, pq_R_sR, pq_R_sA, pq_N_sI, pq_N_sJ, pq_N_sR, pq_N_sA, pq_S_sI, pq_S_sJ, pq_S_sR, pq_S_sA, pz_rf_s, pz_cut_i, pz_cut_r, pz_cut_n, pz_cut_f, pz_cut_u, pz_cut_o, true_and, and_true, true_or, or_true, Option.toList_some, Option.toList_none, List.cons_append, List.nil_append, Nat.add_left_cancel_iff, Nat.left_eq_add, Nat.add_eq_left, Nat.reduceEqDiff, if_true, if_false, ite_true, ite_false, false_and, and_false, false_or, or_false, reduceIte, reduceCtorEq, and_self, z_4, z_5, z_7, z_8, z_10, z_16, z_20, z_64, not_false_eq_true]
          exact s3 _ g2 (HC_trans H H2) R2 (OI_cho ha hi IB (LI_j (by omega) hi IB.2 q)) KB
      simp only [enX0_settle, uX0_settle_0, uX0_settle_1, uX0_settle_3, uX0_settle_4, uX0_settle_7, uX0_settle_7o, uX0_settle_7f, uX0_settle_8, uX0_settle_11, uX0_settle_12, uX0_settle_13, uX0_settle_16, uX0_settle_16o, uX0_settle_18, uX0_settle_18o, uX0_settle_18f, uX0_settle_20, uX0_settle_20a, uX0_settle_23, uX0_settle_23o, uX0_settle_23f, uX0_settle_25, uX0_settle_28, uX0_settle_31, uX0_settle_31o, uX0_settle_31f, uX0_settle_32, uX0_settle_32o, uX0_settle_32f, uX0_settle_33, uX0_settle_33o, uX0_settle_33f, uX0_settle_35, uX0_settle_40, uX0_settle_40a, uX0_settle_43, uX0_settle_43o, uX0_settle_43f, uX0_settle_45, uX0_settle_48, uX0_settle_51, uX0_settle_51o, uX0_settle_51f, uX0_settle_52, uX0_settle_52o, uX0_settle_52f, uX0_settle_54, uX0_settle_57, uX0_settle_57o, uX0_settle_57f, uX0_settle_59, uX0_settle_59a, uX0_settle_62, uX0_settle_62o, uX0_settle_62f, uX0_settle_64, uX0_settle_67, uX0_settle_70, uX0_settle_70o, uX0_settle_70f, uX0_settle_71, uX0_settle_71o, uX0_settle_71f, uX0_settle_72, uX0_settle_72o, uX0_settle_72f, uX0_settle_74, uX0_settle_80, uX0_settle_83, pq_C_sI, pq_C_sJ, pq_C_sR, pq_C_sA, pq_L_sI, pq_L_sJ, pq_L_sR, pq_L_sA, pq_I_sI, pq_I_sJ, pq_I_sR, pq_I_sA, pq_J_sI, pq_J_sJ, pq_J_sR, pq_J_sA, pq_R_sI, pq_R_sJ, pq_R_sR, pq_R_sA, pq_N_sI, pq_N_sJ, pq_N_sR, pq_N_sA, pq_S_sI, pq_S_sJ, pq_S_sR, pq_S_sA, pz_rf_s, pz_cut_i, pz_cut_r, pz_cut_n, pz_cut_f, pz_cut_u, pz_cut_o, true_and, and_true, true_or, or_true, Option.toList_some, Option.toList_none, List.cons_append, List.nil_append, Nat.add_left_cancel_iff, Nat.left_eq_add, Nat.add_eq_left, Nat.reduceEqDiff, if_true, if_false, ite_true, ite_false, false_and, and_false, false_or, or_false, reduceIte, reduceCtorEq, and_self, z_4, z_5, z_7, z_8, z_10, z_16, z_20, z_64, not_false_eq_true, a1, a2, n1, c_linkOf R'.1, lkO_of (show a < 5 by omega) hi e, k1, r4]
      have fin : ∀ g', HC h g' → RC g' (go1 A0 a i l c p) → wp (d + 6) mX0_settle 77 [.ref 132, .ref (36 + 4 * a), .int (nI a), .int (nI i), .ref (lkA (5 * a + i))] [] g' Q := by
        intro g' Hg Rg
        simp only [enX0_settle, uX0_settle_0, uX0_settle_1, uX0_settle_3, uX0_settle_4, uX0_settle_7, uX0_settle_7o, uX0_settle_7f, uX0_settle_8, uX0_settle_11, uX0_settle_12, uX0_settle_13, uX0_settle_16, uX0_settle_16o, uX0_settle_18, uX0_settle_18o, uX0_settle_18f, uX0_settle_20, uX0_settle_20a, uX0_settle_23, uX0_settle_23o, uX0_settle_23f, uX0_settle_25, uX0_settle_28, uX0_settle_31, uX0_settle_31o, uX0_settle_31f, uX0_settle_32, uX0_settle_32o, uX0_settle_32f, uX0_settle_33, uX0_settle_33o, uX0_settle_33f, uX0_settle_35, uX0_settle_38, uX0_settle_38o, uX0_settle_38f, uX0_settle_40, uX0_settle_40a, uX0_settle_43, uX0_settle_43o, uX0_settle_43f, uX0_settle_45, uX0_settle_48, uX0_settle_51, uX0_settle_51o, uX0_settle_51f, uX0_settle_52, uX0_settle_52o, uX0_settle_52f, uX0_settle_54, uX0_settle_57, uX0_settle_57o, uX0_settle_57f, uX0_settle_59, uX0_settle_59a, uX0_settle_62, uX0_settle_62o, uX0_settle_62f, uX0_settle_64, uX0_settle_67, uX0_settle_70, uX0_settle_70o, uX0_settle_70f, uX0_settle_71, uX0_settle_71o, uX0_settle_71f, uX0_settle_72, uX0_settle_72o, uX0_settle_72f, uX0_settle_74, uX0_settle_77, uX0_settle_80, uX0_settle_83, pq_C_sI, pq_C_sJ, pq_C_sR, pq_C_sA, pq_L_sI, pq_L_sJ, pq_L_sR, pq_L_sA, pq_I_sI, pq_I_sJ, pq_I_sR, pq_I_sA, pq_J_sI, pq_J_sJ, pq_J_sR, pq_J_sA, pq_R_sI, pq_R_sJ, pq_R_sR, pq_R_sA, pq_N_sI, pq_N_sJ, pq_N_sR, pq_N_sA, pq_S_sI, pq_S_sJ, pq_S_sR, pq_S_sA, pz_rf_s, pz_cut_i, pz_cut_r, pz_cut_n, pz_cut_f, pz_cut_u, pz_cut_o, true_and, and_true, true_or, or_true, Option.toList_some, Option.toList_none, List.cons_append, List.nil_append, Nat.add_left_cancel_iff, Nat.left_eq_add, Nat.add_eq_left, Nat.reduceEqDiff, if_true, if_false, ite_true, ite_false, false_and, and_false, false_or, or_false, reduceIte, reduceCtorEq, and_self, z_4, z_5, z_7, z_8, z_10, z_16, z_20, z_64, not_false_eq_true, nI_1]
        exact K' _ _ ⟨⟨_, rfl⟩, Hg, Rg⟩
      unfold go1 at fin
      by_cases q : sB A0 24 (5 * a + i) = 0
      · rw [if_pos q] at fin
        rw [if_pos q]
        exact s2 A0 h' H R' I' fin
      · rw [if_neg q] at fin
        rw [if_neg q]
        refine c_showInterest R' I' ha hi e (LI_j (by omega) hi I'.2 q) (fun g2 H2 R2 => ?_)
        simp only [enX0_settle, uX0_settle_0, uX0_settle_1, uX0_settle_3, uX0_settle_4, uX0_settle_7, uX0_settle_7o, uX0_settle_7f, uX0_settle_8, uX0_settle_11, uX0_settle_12, uX0_settle_13, uX0_settle_16, uX0_settle_16o, uX0_settle_18, uX0_settle_18o, uX0_settle_18f, uX0_settle_20, uX0_settle_20a, uX0_settle_23, uX0_settle_23o, uX0_settle_23f, uX0_settle_25, uX0_settle_28, uX0_settle_31, uX0_settle_31o, uX0_settle_31f, uX0_settle_32, uX0_settle_32o, uX0_settle_32f, uX0_settle_33, uX0_settle_33o, uX0_settle_33f, uX0_settle_35, uX0_settle_40, uX0_settle_40a, uX0_settle_43, uX0_settle_43o, uX0_settle_43f, uX0_settle_45, uX0_settle_48, uX0_settle_51, uX0_settle_51o, uX0_settle_51f, uX0_settle_52, uX0_settle_52o, uX0_settle_52f, uX0_settle_54, uX0_settle_57, uX0_settle_57o, uX0_settle_57f, uX0_settle_59, uX0_settle_59a, uX0_settle_62, uX0_settle_62o, uX0_settle_62f, uX0_settle_64, uX0_settle_67, uX0_settle_70, uX0_settle_70o, uX0_settle_70f, uX0_settle_71, uX0_settle_71o, uX0_settle_71f, uX0_settle_72, uX0_settle_72o, uX0_settle_72f, uX0_settle_74, uX0_settle_80, uX0_settle_83, pq_C_sI, pq_C_sJ, pq_C_sR, pq_C_sA, pq_L_sI, pq_L_sJ, pq_L_sR, pq_L_sA, pq_I_sI, pq_I_sJ, pq_I_sR, pq_I_sA, pq_J_sI, pq_J_sJ, pq_J_sR, pq_J_sA, pq_R_sI, pq_R_sJ, pq_R_sR, pq_R_sA, pq_N_sI, pq_N_sJ, pq_N_sR, pq_N_sA, pq_S_sI, pq_S_sJ, pq_S_sR, pq_S_sA, pz_rf_s, pz_cut_i, pz_cut_r, pz_cut_n, pz_cut_f, pz_cut_u, pz_cut_o, true_and, and_true, true_or, or_true, Option.toList_some, Option.toList_none, List.cons_append, List.nil_append, Nat.add_left_cancel_iff, Nat.left_eq_add, Nat.add_eq_left, Nat.reduceEqDiff, if_true, if_false, ite_true, ite_false, false_and, and_false, false_or, or_false, reduceIte, reduceCtorEq, and_self, z_4, z_5, z_7, z_8, z_10, z_16, z_20, z_64, not_false_eq_true]
        exact s2 _ g2 (HC_trans H H2) R2 (OI_int ha hi I' (LI_j (by omega) hi I'.2 q)) fin
  · rintro ls h' ⟨⟨v4, rfl⟩, H, R'⟩
    rw [uX0_settle_2]
    simp only [enX0_settle, uX0_settle_0, uX0_settle_1, uX0_settle_3, uX0_settle_4, uX0_settle_7, uX0_settle_7o, uX0_settle_7f, uX0_settle_8, uX0_settle_11, uX0_settle_12, uX0_settle_13, uX0_settle_16, uX0_settle_16o, uX0_settle_18, uX0_settle_18o, uX0_settle_18f, uX0_settle_20, uX0_settle_20a, uX0_settle_23, uX0_settle_23o, uX0_settle_23f, uX0_settle_25, uX0_settle_28, uX0_settle_31, uX0_settle_31o, uX0_settle_31f, uX0_settle_32, uX0_settle_32o, uX0_settle_32f, uX0_settle_33, uX0_settle_33o, uX0_settle_33f, uX0_settle_35, uX0_settle_38, uX0_settle_38o, uX0_settle_38f, uX0_settle_40, uX0_settle_40a, uX0_settle_43, uX0_settle_43o, uX0_settle_43f, uX0_settle_45, uX0_settle_48, uX0_settle_51, uX0_settle_51o, uX0_settle_51f, uX0_settle_52, uX0_settle_52o, uX0_settle_52f, uX0_settle_54, uX0_settle_57, uX0_settle_57o, uX0_settle_57f, uX0_settle_59, uX0_settle_59a, uX0_settle_62, uX0_settle_62o, uX0_settle_62f, uX0_settle_64, uX0_settle_67, uX0_settle_70, uX0_settle_70o, uX0_settle_70f, uX0_settle_71, uX0_settle_71o, uX0_settle_71f, uX0_settle_72, uX0_settle_72o, uX0_settle_72f, uX0_settle_74, uX0_settle_77, uX0_settle_80, uX0_settle_83, pq_C_sI, pq_C_sJ, pq_C_sR, pq_C_sA, pq_L_sI, pq_L_sJ, pq_L_sR, pq_L_sA, pq_I_sI, pq_I_sJ, pq_I_sR, pq_I_sA, pq_J_sI, pq_J_sJ, pq_J_sR, pq_J_sA, pq_R_sI, pq_R_sJ, pq_R_sR, pq_R_sA, pq_N_sI, pq_N_sJ, pq_N_sR, pq_N_sA, pq_S_sI, pq_S_sJ, pq_S_sR, pq_S_sA, pz_rf_s, pz_cut_i, pz_cut_r, pz_cut_n, pz_cut_f, pz_cut_u, pz_cut_o, true_and, and_true, true_or, or_true, Option.toList_some, Option.toList_none, List.cons_append, List.nil_append, Nat.add_left_cancel_iff, Nat.left_eq_add, Nat.add_eq_left, Nat.reduceEqDiff, if_true, if_false, ite_true, ite_false, false_and, and_false, false_or, or_false, reduceIte, reduceCtorEq, and_self, z_4, z_5, z_7, z_8, z_10, z_16, z_20, z_64, not_false_eq_true]
    rw [if_pos (show (5 : Int32) ≤ nI 5 by decide)]
    exact K h' H R'
end
