/-! ===== the reference: hear, meddle, close, connect ===== -/
section
variable {d : Nat} {h : PzH} {Q : Option Value → PzH → Prop} {mo : Nat} {g : Tb} {A : St} {l : List Int8}
theorem WRS_set {w n : Nat → Int32} {W : Nat → List Int8} {k i : Nat} {b : Int8} (h : WRS w n W) (hk : k < 25) (hl : ∀ j, j < 25 → (W j).length ≤ 4000) (hi : i < 4000) : WRS (upd w (4200 * k + i) b.toInt32) n (upf W k ((W k).set i b)) := by
  intro j hj
  have l1 := hl j hj
  by_cases q : j = k
  · subst q
    rw [upf_s, List.length_set]
    exact ⟨(h j hj).1, SEG_set (h j hj).2⟩
  · rw [upf_n q]
    exact ⟨(h j hj).1, SEG_c (h j hj).2 (fun i hi => pk_un (by omega))⟩
theorem WRS_nil {w n : Nat → Int32} {W : Nat → List Int8} {k : Nat} (h : WRS w n W) : WRS w (upd n k 0) (upf W k []) := by
  intro j hj
  by_cases q : j = k
  · subst q
    rw [upf_s, pk_us]
    exact ⟨rfl, SEG_nil⟩
  · rw [upf_n q, pk_un q]
    exact h j hj
theorem g_hear1 (H : MO h mo) {v1 : Int32} {k m : Nat} (hk : k < 25) (hm : m ≤ 4000) (h3 : g 0 3 = nI m) (hf : ∀ i, i < m → vp_nar .byte (g 33 (4200 * k + i)) = g 33 (4200 * k + i)) {t : Nat → Int32} : wp d mX10_hear 29 [.ref mo, .int v1, .int (nI k), .int 0] [] (mh h mo (pz_u1 g 2 t)) Q ↔ wp d mX10_hear 61 [.ref mo, .int v1, .int (nI k), .int (nI m)] [] (mh h mo (pz_u1 g 2 (put t 0 m (fun i => g 33 (4200 * k + i))))) Q := by
  have key := wp_for (d := d) (m := mX10_hear) (pc := 29) (Q := Q) (fun i => mh h mo (pz_u1 g 2 (put t 0 i (fun i => g 33 (4200 * k + i))))) (fun i => [.ref mo, .int v1, .int (nI k), .int (nI i)]) m (fun i hi => by
    rw [uX10_hear_29]
    simp only [enX10_hear, uX10_hear_0, uX10_hear_0o, uX10_hear_0f, uX10_hear_1, uX10_hear_2, uX10_hear_3, uX10_hear_6, uX10_hear_9, uX10_hear_10, uX10_hear_11, uX10_hear_12, uX10_hear_13, uX10_hear_14, uX10_hear_15, uX10_hear_16, uX10_hear_17, uX10_hear_17o, uX10_hear_17f, uX10_hear_18, uX10_hear_18o, uX10_hear_18f, uX10_hear_19, uX10_hear_22, uX10_hear_23, uX10_hear_24, uX10_hear_27, uX10_hear_28, uX10_hear_30, uX10_hear_30o, uX10_hear_30f, uX10_hear_31, uX10_hear_34, uX10_hear_37, uX10_hear_37o, uX10_hear_37f, uX10_hear_38, uX10_hear_41, uX10_hear_42, uX10_hear_42o, uX10_hear_42f, uX10_hear_43, uX10_hear_46, uX10_hear_49, uX10_hear_50, uX10_hear_51, uX10_hear_52, uX10_hear_53, uX10_hear_54, uX10_hear_55, uX10_hear_58, uX10_hear_62, uX10_hear_65, uX10_hear_66, uX10_hear_67, uX10_hear_68, uX10_hear_68o, uX10_hear_68f, uX10_hear_69, uX10_hear_72, mo_C H, mo_R_wire H, mo_C_wire H, mo_L_wire H, mo_R_out H, mo_C_out H, mo_L_out H, pq_C_sI, pq_C_sJ, pq_C_sR, pq_C_sA, pq_L_sI, pq_L_sJ, pq_L_sR, pq_L_sA, pq_I_sI, pq_I_sJ, pq_I_sR, pq_I_sA, pq_J_sI, pq_J_sJ, pq_J_sR, pq_J_sA, pq_R_sI, pq_R_sJ, pq_R_sR, pq_R_sA, pq_N_sI, pq_N_sJ, pq_N_sR, pq_N_sA, pq_S_sI, pq_S_sJ, pq_S_sR, pq_S_sA, pz_rf_s, pz_cut_i, pz_cut_r, pz_cut_n, pz_cut_f, pz_cut_u, pz_cut_o, true_and, and_true, true_or, or_true, Option.toList_some, Option.toList_none, List.cons_append, List.nil_append, Nat.add_left_cancel_iff, Nat.left_eq_add, Nat.add_eq_left, Nat.reduceEqDiff, if_true, if_false, ite_true, ite_false, false_and, and_false, false_or, or_false, reduceIte, reduceCtorEq, and_self, mh_C, mh_L, mh_R, mh_J, mh_I0, mh_I, mh_Ir, mh_sI0, mh_sI, mh_sA, gu_11, gu_22, gu_r, gu_21s, gu_21c, gu_22s, gu_11s, gu_11c, gu_22c, Nat.reduceLeDiff, Nat.reduceLT, ne_eq, not_false_eq_true, not_true_eq_false, Nat.reduceEqDiff, Nat.lt_irrefl, eq_self, z_4, z_5, z_7, z_8, z_10, z_16, z_20, z_64, h3]
    rw [if_neg (nI_ge hi (by omega))]
    simp (disch := omega) only [nI_4200, pk_mul, nI_clamp, nI_add, pz_in_nI, true_and, nI_1, hf i hi]
    have e := put_s (f := t) (a := 0) (m := i) (u := fun i => g 33 (4200 * k + i))
    rw [Nat.zero_add] at e
    rw [← e])
  refine Iff.trans (show _ ↔ _ from ?_) (key.trans ?_)
  · rw [put_0]
    exact Iff.rfl
  · rw [uX10_hear_29]
    simp only [enX10_hear, uX10_hear_0, uX10_hear_0o, uX10_hear_0f, uX10_hear_1, uX10_hear_2, uX10_hear_3, uX10_hear_6, uX10_hear_9, uX10_hear_10, uX10_hear_11, uX10_hear_12, uX10_hear_13, uX10_hear_14, uX10_hear_15, uX10_hear_16, uX10_hear_17, uX10_hear_17o, uX10_hear_17f, uX10_hear_18, uX10_hear_18o, uX10_hear_18f, uX10_hear_19, uX10_hear_22, uX10_hear_23, uX10_hear_24, uX10_hear_27, uX10_hear_28, uX10_hear_30, uX10_hear_30o, uX10_hear_30f, uX10_hear_31, uX10_hear_34, uX10_hear_37, uX10_hear_37o, uX10_hear_37f, uX10_hear_38, uX10_hear_41, uX10_hear_42, uX10_hear_42o, uX10_hear_42f, uX10_hear_43, uX10_hear_46, uX10_hear_49, uX10_hear_50, uX10_hear_51, uX10_hear_52, uX10_hear_53, uX10_hear_54, uX10_hear_55, uX10_hear_58, uX10_hear_62, uX10_hear_65, uX10_hear_66, uX10_hear_67, uX10_hear_68, uX10_hear_68o, uX10_hear_68f, uX10_hear_69, uX10_hear_72, mo_C H, mo_R_wire H, mo_C_wire H, mo_L_wire H, mo_R_out H, mo_C_out H, mo_L_out H, pq_C_sI, pq_C_sJ, pq_C_sR, pq_C_sA, pq_L_sI, pq_L_sJ, pq_L_sR, pq_L_sA, pq_I_sI, pq_I_sJ, pq_I_sR, pq_I_sA, pq_J_sI, pq_J_sJ, pq_J_sR, pq_J_sA, pq_R_sI, pq_R_sJ, pq_R_sR, pq_R_sA, pq_N_sI, pq_N_sJ, pq_N_sR, pq_N_sA, pq_S_sI, pq_S_sJ, pq_S_sR, pq_S_sA, pz_rf_s, pz_cut_i, pz_cut_r, pz_cut_n, pz_cut_f, pz_cut_u, pz_cut_o, true_and, and_true, true_or, or_true, Option.toList_some, Option.toList_none, List.cons_append, List.nil_append, Nat.add_left_cancel_iff, Nat.left_eq_add, Nat.add_eq_left, Nat.reduceEqDiff, if_true, if_false, ite_true, ite_false, false_and, and_false, false_or, or_false, reduceIte, reduceCtorEq, and_self, mh_C, mh_L, mh_R, mh_J, mh_I0, mh_I, mh_Ir, mh_sI0, mh_sI, mh_sA, gu_11, gu_22, gu_r, gu_21s, gu_21c, gu_22s, gu_11s, gu_11c, gu_22c, Nat.reduceLeDiff, Nat.reduceLT, ne_eq, not_false_eq_true, not_true_eq_false, Nat.reduceEqDiff, Nat.lt_irrefl, eq_self, z_4, z_5, z_7, z_8, z_10, z_16, z_20, z_64, h3]
    rw [if_pos (nI_le (Nat.le_refl _) (by omega))]
theorem g_hear (H : MO h mo) (R : RM g A []) (hw : HW A) {a : Int32} (K : ∀ g', RM g' (hearA A a).2 [] → Q (some (.int (hearA A a).1)) (mh h mo g')) : pz_M (d + 3) mX10_hear [.ref mo, .int a] (mh h mo g) Q := by
  have h3 := RM_fl R
  simp only [enX10_hear, uX10_hear_0, uX10_hear_0o, uX10_hear_0f, uX10_hear_1, uX10_hear_2, uX10_hear_3, uX10_hear_6, uX10_hear_9, uX10_hear_10, uX10_hear_11, uX10_hear_12, uX10_hear_13, uX10_hear_14, uX10_hear_15, uX10_hear_16, uX10_hear_17, uX10_hear_17o, uX10_hear_17f, uX10_hear_18, uX10_hear_18o, uX10_hear_18f, uX10_hear_19, uX10_hear_22, uX10_hear_23, uX10_hear_24, uX10_hear_27, uX10_hear_28, uX10_hear_30, uX10_hear_30o, uX10_hear_30f, uX10_hear_31, uX10_hear_34, uX10_hear_37, uX10_hear_37o, uX10_hear_37f, uX10_hear_38, uX10_hear_41, uX10_hear_42, uX10_hear_42o, uX10_hear_42f, uX10_hear_43, uX10_hear_46, uX10_hear_49, uX10_hear_50, uX10_hear_51, uX10_hear_52, uX10_hear_53, uX10_hear_54, uX10_hear_55, uX10_hear_58, uX10_hear_61, uX10_hear_61o, uX10_hear_61f, uX10_hear_62, uX10_hear_65, uX10_hear_66, uX10_hear_67, uX10_hear_68, uX10_hear_68o, uX10_hear_68f, uX10_hear_69, uX10_hear_72, mo_C H, mo_R_wired H, mo_C_wired H, mo_L_wired H, pq_C_sI, pq_C_sJ, pq_C_sR, pq_C_sA, pq_L_sI, pq_L_sJ, pq_L_sR, pq_L_sA, pq_I_sI, pq_I_sJ, pq_I_sR, pq_I_sA, pq_J_sI, pq_J_sJ, pq_J_sR, pq_J_sA, pq_R_sI, pq_R_sJ, pq_R_sR, pq_R_sA, pq_N_sI, pq_N_sJ, pq_N_sR, pq_N_sA, pq_S_sI, pq_S_sJ, pq_S_sR, pq_S_sA, pz_rf_s, pz_cut_i, pz_cut_r, pz_cut_n, pz_cut_f, pz_cut_u, pz_cut_o, true_and, and_true, true_or, or_true, Option.toList_some, Option.toList_none, List.cons_append, List.nil_append, Nat.add_left_cancel_iff, Nat.left_eq_add, Nat.add_eq_left, Nat.reduceEqDiff, if_true, if_false, ite_true, ite_false, false_and, and_false, false_or, or_false, reduceIte, reduceCtorEq, and_self, mh_C, mh_L, mh_R, mh_J, mh_I0, mh_I, mh_Ir, mh_sI0, mh_sI, mh_sA, gu_11, gu_22, gu_r, gu_21s, gu_21c, gu_22s, gu_11s, gu_11c, gu_22c, Nat.reduceLeDiff, Nat.reduceLT, ne_eq, not_false_eq_true, not_true_eq_false, Nat.reduceEqDiff, Nat.lt_irrefl, eq_self, z_4, z_5, z_7, z_8, z_10, z_16, z_20, z_64, g_areJoined H, FLE_aj h3]
  unfold hearA at K
  cases e : ajB (sB A) a 4 with
  | none =>
    rw [e] at K
    simp only [Option.isSome_none, Bool.false_eq_true, if_false, if_true, not_true_eq_false]
    exact K _ R
  | some xy =>
    obtain ⟨x, y⟩ := xy
    rw [e] at K
    obtain ⟨x1, y1, rfl, y2, x3⟩ := ajB_some e
    have hk : 5 * x + 4 < 25 := by omega
    have hk' := hw _ hk
    obtain ⟨w1, w2⟩ := RM_wr R _ hk
    simp (disch := omega) only [Option.isSome_some, if_true, show ¬ (1 : Int32) = 0 by decide, not_false_eq_true, show (5 : Int32) = nI 5 from rfl, show (4 : Int32) = nI 4 from rfl, pk_mul, nI_add, nI_clamp, pz_in_nI, true_and, w1]
    dsimp only at K
    generalize hG : pz_u2 g 0 3 (nI (sW A (5 * x + 4)).length) = G
    have e2 : mh h mo G = mh h mo (pz_u1 G 2 (G 2)) := by rw [gu_1e]
    have g33 : G 33 = g 33 := by subst hG; rfl
    have g34 : G 34 = g 34 := by subst hG; rfl
    rw [e2, g_hear1 H hk hk' (by subst hG; rfl) (fun i hi => by rw [g33, w2 i hi, vb8])]
    simp only [enX10_hear, uX10_hear_0, uX10_hear_0o, uX10_hear_0f, uX10_hear_1, uX10_hear_2, uX10_hear_3, uX10_hear_6, uX10_hear_9, uX10_hear_10, uX10_hear_11, uX10_hear_12, uX10_hear_13, uX10_hear_14, uX10_hear_15, uX10_hear_16, uX10_hear_17, uX10_hear_17o, uX10_hear_17f, uX10_hear_18, uX10_hear_18o, uX10_hear_18f, uX10_hear_19, uX10_hear_22, uX10_hear_23, uX10_hear_24, uX10_hear_27, uX10_hear_28, uX10_hear_30, uX10_hear_30o, uX10_hear_30f, uX10_hear_31, uX10_hear_34, uX10_hear_37, uX10_hear_37o, uX10_hear_37f, uX10_hear_38, uX10_hear_41, uX10_hear_42, uX10_hear_42o, uX10_hear_42f, uX10_hear_43, uX10_hear_46, uX10_hear_49, uX10_hear_50, uX10_hear_51, uX10_hear_52, uX10_hear_53, uX10_hear_54, uX10_hear_55, uX10_hear_58, uX10_hear_61, uX10_hear_61o, uX10_hear_61f, uX10_hear_62, uX10_hear_65, uX10_hear_66, uX10_hear_67, uX10_hear_68, uX10_hear_68o, uX10_hear_68f, uX10_hear_69, uX10_hear_72, mo_C H, mo_R_wired H, mo_C_wired H, mo_L_wired H, pq_C_sI, pq_C_sJ, pq_C_sR, pq_C_sA, pq_L_sI, pq_L_sJ, pq_L_sR, pq_L_sA, pq_I_sI, pq_I_sJ, pq_I_sR, pq_I_sA, pq_J_sI, pq_J_sJ, pq_J_sR, pq_J_sA, pq_R_sI, pq_R_sJ, pq_R_sR, pq_R_sA, pq_N_sI, pq_N_sJ, pq_N_sR, pq_N_sA, pq_S_sI, pq_S_sJ, pq_S_sR, pq_S_sA, pz_rf_s, pz_cut_i, pz_cut_r, pz_cut_n, pz_cut_f, pz_cut_u, pz_cut_o, true_and, and_true, true_or, or_true, Option.toList_some, Option.toList_none, List.cons_append, List.nil_append, Nat.add_left_cancel_iff, Nat.left_eq_add, Nat.add_eq_left, Nat.reduceEqDiff, if_true, if_false, ite_true, ite_false, false_and, and_false, false_or, or_false, reduceIte, reduceCtorEq, and_self, mh_C, mh_L, mh_R, mh_J, mh_I0, mh_I, mh_Ir, mh_sI0, mh_sI, mh_sA, gu_11, gu_22, gu_r, gu_21s, gu_21c, gu_22s, gu_11s, gu_11c, gu_22c, Nat.reduceLeDiff, Nat.reduceLT, ne_eq, not_false_eq_true, not_true_eq_false, Nat.reduceEqDiff, Nat.lt_irrefl, eq_self, z_4, z_5, z_7, z_8, z_10, z_16, z_20, z_64]
    have e3 : G 0 3 = nI (sW A (5 * x + 4)).length := by subst hG; rfl
    simp (disch := omega) only [nI_clamp, pz_in_nI, true_and, e3]
    refine K _ ?_
    have Ro := RM_out (t := put (G 2) 0 (sW A (5 * x + 4)).length (fun i => G 33 (4200 * (5 * x + 4) + i))) R (l := sW A (5 * x + 4)) (fun i hi => by
      rw [put_in hi, g33]
      exact w2 i hi)
    have W1 := WRS_nil (k := 5 * x + 4) (RM_wr Ro)
    have := RM_wire Ro W1
    rw [hG] at this
    refine cast (congrArg (fun z => RM z _ []) ?_) this
    rw [gu_2to1 (n := 34)]
    funext p q
    rw [show pz_u1 G 2 (put (G 2) 0 (sW A (5 * x + 4)).length (fun i => G 33 (4200 * (5 * x + 4) + i))) 34 = G 34 from rfl, show pz_u1 G 2 (put (G 2) 0 (sW A (5 * x + 4)).length (fun i => G 33 (4200 * (5 * x + 4) + i))) 33 = G 33 from rfl]
    simp only [gu_11]
    by_cases p33 : p = 33
    · subst p33; simp
    · by_cases p34 : p = 34
      · subst p34; simp
      · by_cases p2 : p = 2
        · subst p2; simp
        · simp [p33, p34, p2]
theorem g_meddle (H : MO h mo) (R : RM g A []) (hw : HW A) {a b i v : Int32} (K : ∀ g', RM g' (medA A a b i v).2 [] → Q (some (.int (medA A a b i v).1)) (mh h mo g')) : pz_M (d + 3) mX10_meddle [.ref mo, .int a, .int b, .int i, .int v] (mh h mo g) Q := by
  have h3 := RM_fl R
  simp only [enX10_meddle, uX10_meddle_0, uX10_meddle_0o, uX10_meddle_0f, uX10_meddle_1, uX10_meddle_2, uX10_meddle_3, uX10_meddle_6, uX10_meddle_9, uX10_meddle_10, uX10_meddle_13, uX10_meddle_14, uX10_meddle_14o, uX10_meddle_14f, uX10_meddle_15, uX10_meddle_18, uX10_meddle_19, uX10_meddle_20, uX10_meddle_21, uX10_meddle_22, uX10_meddle_23, uX10_meddle_24, uX10_meddle_27, uX10_meddle_28, uX10_meddle_29, uX10_meddle_29o, uX10_meddle_29f, uX10_meddle_30, uX10_meddle_33, uX10_meddle_36, uX10_meddle_37, uX10_meddle_38, uX10_meddle_39, uX10_meddle_40, uX10_meddle_41, uX10_meddle_42, uX10_meddle_43, uX10_meddle_44, uX10_meddle_46, uX10_meddle_47, uX10_meddle_48, uX10_meddle_49, mo_C H, mo_R_wired H, mo_C_wired H, mo_L_wired H, mo_R_wire H, mo_C_wire H, mo_L_wire H, pq_C_sI, pq_C_sJ, pq_C_sR, pq_C_sA, pq_L_sI, pq_L_sJ, pq_L_sR, pq_L_sA, pq_I_sI, pq_I_sJ, pq_I_sR, pq_I_sA, pq_J_sI, pq_J_sJ, pq_J_sR, pq_J_sA, pq_R_sI, pq_R_sJ, pq_R_sR, pq_R_sA, pq_N_sI, pq_N_sJ, pq_N_sR, pq_N_sA, pq_S_sI, pq_S_sJ, pq_S_sR, pq_S_sA, pz_rf_s, pz_cut_i, pz_cut_r, pz_cut_n, pz_cut_f, pz_cut_u, pz_cut_o, true_and, and_true, true_or, or_true, Option.toList_some, Option.toList_none, List.cons_append, List.nil_append, Nat.add_left_cancel_iff, Nat.left_eq_add, Nat.add_eq_left, Nat.reduceEqDiff, if_true, if_false, ite_true, ite_false, false_and, and_false, false_or, or_false, reduceIte, reduceCtorEq, and_self, mh_C, mh_L, mh_R, mh_J, mh_I0, mh_I, mh_Ir, mh_sI0, mh_sI, mh_sA, gu_11, gu_22, gu_r, gu_21s, gu_21c, gu_22s, gu_11s, gu_11c, gu_22c, Nat.reduceLeDiff, Nat.reduceLT, ne_eq, not_false_eq_true, not_true_eq_false, Nat.reduceEqDiff, Nat.lt_irrefl, eq_self, z_4, z_5, z_7, z_8, z_10, z_16, z_20, z_64, g_areJoined H, FLE_aj h3]
  unfold medA at K
  cases e : ajB (sB A) a b with
  | none =>
    rw [e] at K
    simp only [Option.isSome_none, Bool.false_eq_true, if_false, if_true]
    exact K _ R
  | some xy =>
    obtain ⟨x, y⟩ := xy
    rw [e] at K
    obtain ⟨x1, y1, rfl, rfl, x3⟩ := ajB_some e
    have hk : 5 * x + y < 25 := by omega
    have hk' := hw _ hk
    obtain ⟨w1, w2⟩ := RM_wr R _ hk
    simp (disch := omega) only [Option.isSome_some, if_true, show ¬ (1 : Int32) = 0 by decide, if_false, show (5 : Int32) = nI 5 from rfl, pk_mul, nI_add, nI_clamp, pz_in_nI, true_and, w1]
    dsimp only at K
    cases ei : vI i (sW A (5 * x + y)).length with
    | none =>
      rw [ei] at K
      unfold vI at ei
      by_cases h0 : i < 0
      · rw [if_pos h0]
        exact K _ R
      · rw [if_neg h0] at ei ⊢
        by_cases h1 : i < nI (sW A (5 * x + y)).length
        · rw [if_pos h1] at ei
          exact absurd ei (by simp)
        · rw [if_neg h1]
          exact K _ R
    | some j =>
      rw [ei] at K
      obtain ⟨j1, rfl⟩ := vI_some (by omega) ei
      rw [if_neg (nI_pos (by omega)), if_pos (nI_lt j1 (by omega))]
      simp (disch := omega) only [nI_4200, pk_mul, nI_add, nI_clamp, pz_in_nI, true_and, pk_vb]
      refine K _ ?_
      have W1 := WRS_set (b := v.toInt8) (RM_wr R) hk hw (show j < 4000 by omega)
      have := RM_wire R W1
      rw [gu_1e] at this
      rw [gu_2to1 (n := 33)]
      exact this
theorem g_close (H : MO h mo) (R : RM g A []) {a b : Int32} (K : ∀ g', RM g' (cloA A a b).2 [] → Q (some (.int (cloA A a b).1)) (mh h mo g')) : pz_M (d + 4) mX10_close [.ref mo, .int a, .int b] (mh h mo g) Q := by
  have h3 := RM_fl R
  simp only [enX10_close, uX10_close_0, uX10_close_0o, uX10_close_0f, uX10_close_1, uX10_close_2, uX10_close_3, uX10_close_6, uX10_close_9, uX10_close_10, uX10_close_11, uX10_close_11o, uX10_close_11f, uX10_close_12, uX10_close_13, uX10_close_14, uX10_close_15, uX10_close_18, uX10_close_19, mo_C H, mo_R_wired H, mo_C_wired H, mo_L_wired H, mo_R_wire H, mo_C_wire H, mo_L_wire H, pq_C_sI, pq_C_sJ, pq_C_sR, pq_C_sA, pq_L_sI, pq_L_sJ, pq_L_sR, pq_L_sA, pq_I_sI, pq_I_sJ, pq_I_sR, pq_I_sA, pq_J_sI, pq_J_sJ, pq_J_sR, pq_J_sA, pq_R_sI, pq_R_sJ, pq_R_sR, pq_R_sA, pq_N_sI, pq_N_sJ, pq_N_sR, pq_N_sA, pq_S_sI, pq_S_sJ, pq_S_sR, pq_S_sA, pz_rf_s, pz_cut_i, pz_cut_r, pz_cut_n, pz_cut_f, pz_cut_u, pz_cut_o, true_and, and_true, true_or, or_true, Option.toList_some, Option.toList_none, List.cons_append, List.nil_append, Nat.add_left_cancel_iff, Nat.left_eq_add, Nat.add_eq_left, Nat.reduceEqDiff, if_true, if_false, ite_true, ite_false, false_and, and_false, false_or, or_false, reduceIte, reduceCtorEq, and_self, mh_C, mh_L, mh_R, mh_J, mh_I0, mh_I, mh_Ir, mh_sI0, mh_sI, mh_sA, gu_11, gu_22, gu_r, gu_21s, gu_21c, gu_22s, gu_11s, gu_11c, gu_22c, Nat.reduceLeDiff, Nat.reduceLT, ne_eq, not_false_eq_true, not_true_eq_false, Nat.reduceEqDiff, Nat.lt_irrefl, eq_self, z_4, z_5, z_7, z_8, z_10, z_16, z_20, z_64, g_areJoined H, FLE_aj h3]
  unfold cloA at K
  cases e : ajB (sB A) a b with
  | none =>
    rw [e] at K
    simp only [Option.isSome_none, Bool.false_eq_true, if_false, if_true, not_true_eq_false]
    exact K _ R
  | some xy =>
    obtain ⟨x, y⟩ := xy
    rw [e] at K
    obtain ⟨x1, y1, rfl, rfl, x3⟩ := ajB_some e
    simp only [Option.isSome_some, if_true, show ¬ (1 : Int32) = 0 by decide, not_false_eq_true, g_closed H x1 y1]
    simp only [enX10_close, uX10_close_0, uX10_close_0o, uX10_close_0f, uX10_close_1, uX10_close_2, uX10_close_3, uX10_close_6, uX10_close_9, uX10_close_10, uX10_close_11, uX10_close_11o, uX10_close_11f, uX10_close_12, uX10_close_13, uX10_close_14, uX10_close_15, uX10_close_18, uX10_close_19, mo_C H, mo_R_wired H, mo_C_wired H, mo_L_wired H, mo_R_wire H, mo_C_wire H, mo_L_wire H, pq_C_sI, pq_C_sJ, pq_C_sR, pq_C_sA, pq_L_sI, pq_L_sJ, pq_L_sR, pq_L_sA, pq_I_sI, pq_I_sJ, pq_I_sR, pq_I_sA, pq_J_sI, pq_J_sJ, pq_J_sR, pq_J_sA, pq_R_sI, pq_R_sJ, pq_R_sR, pq_R_sA, pq_N_sI, pq_N_sJ, pq_N_sR, pq_N_sA, pq_S_sI, pq_S_sJ, pq_S_sR, pq_S_sA, pz_rf_s, pz_cut_i, pz_cut_r, pz_cut_n, pz_cut_f, pz_cut_u, pz_cut_o, true_and, and_true, true_or, or_true, Option.toList_some, Option.toList_none, List.cons_append, List.nil_append, Nat.add_left_cancel_iff, Nat.left_eq_add, Nat.add_eq_left, Nat.reduceEqDiff, if_true, if_false, ite_true, ite_false, false_and, and_false, false_or, or_false, reduceIte, reduceCtorEq, and_self, mh_C, mh_L, mh_R, mh_J, mh_I0, mh_I, mh_Ir, mh_sI0, mh_sI, mh_sA, gu_11, gu_22, gu_r, gu_21s, gu_21c, gu_22s, gu_11s, gu_11c, gu_22c, Nat.reduceLeDiff, Nat.reduceLT, ne_eq, not_false_eq_true, not_true_eq_false, Nat.reduceEqDiff, Nat.lt_irrefl, eq_self, z_4, z_5, z_7, z_8, z_10, z_16, z_20, z_64]
    exact K _ ⟨RG_cl R.1, R.2.1, R.2.2⟩
end
