/-! ===== junk aside; what is being made ===== -/
def RUr : List Nat := [1, 2, 9, 10, 11, 12, 13, 14, 15, 19, 32, 33, 34, 36, 37] ++ FLr
def RUs : List Nat := [2, 3] ++ FLs
theorem RG_fr {rs ss : List Nat} {g g' : Tb} {A : St} (h : RG g A) (F : FR rs ss g g') (hr : ∀ a, a ∈ RUr → a ∉ rs) (hs : ∀ a, a ∈ RUs → a ∉ ss) : RG g' A := by
  have r : ∀ a, a ∈ RUr → g' a = g a := fun a ha => F.1 a (by intro z; subst z; revert ha; decide) (hr a ha)
  have s : ∀ j, j ∈ RUs → g' 0 j = g 0 j := fun j hj => F.2 j (hs j hj)
  obtain ⟨⟨h1, h2, h3, h4, h5, h6, h7, h8, h9, ⟨h10, h10'⟩, h11, h11'⟩, h12⟩ := h
  refine ⟨⟨?_, ?_, ?_, ?_, ?_, ?_, ?_, ?_, ?_, ⟨?_, ?_⟩, ?_, ?_⟩, ?_⟩
  · rw [s 2 (by decide), r 1 (by decide)]; exact h1
  · rw [s 3 (by decide), r 2 (by decide)]; exact h2
  · intro a j q
    rw [← h3 a j q]
    rcases q with q | ⟨rfl, q⟩
    · rw [r a (List.mem_append_right _ q)]
    · exact s j (List.mem_append_right _ q)
  · rw [r 14 (by decide)]; exact h4
  · rw [r 13 (by decide)]; exact h5
  · rw [r 15 (by decide)]; exact h6
  · rw [r 19 (by decide)]; exact h7
  · rw [r 33 (by decide), r 34 (by decide)]; exact h8
  · rw [r 11 (by decide), r 12 (by decide)]; exact h9
  · rw [r 9 (by decide)]; exact h10
  · rw [r 10 (by decide)]; exact h10'
  · rw [r 36 (by decide)]; exact h11
  · rw [r 37 (by decide)]; exact h11'
  · rw [r 32 (by decide)]; exact h12
/-- the state, and the bytes that are made -/
def RM (g : Tb) (A : St) (l : List Int8) : Prop := RG g A ∧ g 0 50 = nI l.length ∧ SEG (g 35) 0 l
theorem RM_fr {rs ss : List Nat} {g g' : Tb} {A : St} {l : List Int8} (h : RM g A l) (F : FR rs ss g g') (hr : ∀ a, a ∈ 35 :: RUr → a ∉ rs) (hs : ∀ a, a ∈ 50 :: RUs → a ∉ ss) : RM g' A l := by
  refine ⟨RG_fr h.1 F (fun a ha => hr a (List.mem_cons_of_mem _ ha)) (fun a ha => hs a (List.mem_cons_of_mem _ ha)), ?_, ?_⟩
  · rw [F.2 50 (hs 50 (by decide))]
    exact h.2.1
  · rw [F.1 35 (by decide) (hr 35 (by decide))]
    exact h.2.2
theorem FR_2r {g : Tb} {rs ss : List Nat} {r k : Nat} {v : Int32} (hr : r ∈ rs) (h0 : r ≠ 0) : FR rs ss g (pz_u2 g r k v) := ⟨fun a _ ha => gu_r (fun q => ha (q ▸ hr)), fun j _ => by rw [gu_22, if_neg (fun q => h0 q.1.symm)]⟩
/-- four bytes of a number, the highest first -/
def be4 (v : Int32) : List Int8 := [(v >>> ((24 : Int32) &&& 31)).toInt8, (v >>> ((16 : Int32) &&& 31)).toInt8, (v >>> ((8 : Int32) &&& 31)).toInt8, (v >>> ((0 : Int32) &&& 31)).toInt8]
section
variable {d : Nat} {h : PzH} {Q : Option Value → PzH → Prop} {mo : Nat} {g : Tb} {A : St} {l : List Int8}
theorem g_one (H : MO h mo) (R : RM g A l) (hl : l.length < 80) {v : Int32} (K : ∀ g', RM g' A (l ++ [v.toInt8]) → Q none (mh h mo g')) : pz_M (d + 1) mX10_one [.ref mo, .int v] (mh h mo g) Q := by
  obtain ⟨R1, R2, R3⟩ := R
  simp only [enX10_one, uX10_one_0, uX10_one_0o, uX10_one_0f, uX10_one_1, uX10_one_4, uX10_one_4o, uX10_one_4f, uX10_one_5, uX10_one_8, uX10_one_9, uX10_one_10, uX10_one_11, uX10_one_11o, uX10_one_11f, uX10_one_12, uX10_one_13, uX10_one_16, uX10_one_17, uX10_one_18, uX10_one_21, mo_C H, mo_R_made H, mo_C_made H, mo_L_made H, pq_C_sI, pq_C_sJ, pq_C_sR, pq_C_sA, pq_L_sI, pq_L_sJ, pq_L_sR, pq_L_sA, pq_I_sI, pq_I_sJ, pq_I_sR, pq_I_sA, pq_J_sI, pq_J_sJ, pq_J_sR, pq_J_sA, pq_R_sI, pq_R_sJ, pq_R_sR, pq_R_sA, pq_N_sI, pq_N_sJ, pq_N_sR, pq_N_sA, pq_S_sI, pq_S_sJ, pq_S_sR, pq_S_sA, pz_rf_s, pz_cut_i, pz_cut_r, pz_cut_n, pz_cut_f, pz_cut_u, pz_cut_o, true_and, and_true, true_or, or_true, Option.toList_some, Option.toList_none, List.cons_append, List.nil_append, Nat.add_left_cancel_iff, Nat.left_eq_add, Nat.add_eq_left, Nat.reduceEqDiff, if_true, if_false, ite_true, ite_false, false_and, and_false, false_or, or_false, reduceIte, reduceCtorEq, and_self, mh_C, mh_L, mh_R, mh_J, mh_I0, mh_I, mh_Ir, mh_sI0, mh_sI, mh_sA, gu_11, gu_22, gu_r, gu_21s, gu_21c, gu_22s, gu_11s, gu_11c, gu_22c, Nat.reduceLeDiff, Nat.reduceLT, ne_eq, not_false_eq_true, not_true_eq_false, Nat.reduceEqDiff, Nat.lt_irrefl, eq_self, z_4, z_5, z_7, z_8, z_10, z_16, z_20, z_64, R2]
  simp (disch := omega) only [nI_clamp, pz_in_nI, true_and, nI_1, pk_vb]
  refine K _ ⟨RG_fr (rs := [35]) (ss := [50]) R1 ?_ (by decide) (by decide), ?_, ?_⟩
  · first
    | exact FR_trans (FR_2r (by decide) (by decide)) (FR_2 (by decide))
    | exact FR_trans (FR_2 (by decide)) (FR_2r (by decide) (by decide))
  · rw [List.length_append]
    rfl
  · refine SEG_app R3 (fun i hi => ?_) (fun i hi => ?_)
    · simp only [gu_22]
      rw [if_neg (by omega)]
      rfl
    · have : i = 0 := by simp at hi; omega
      subst this
      simp only [gu_22]
      simp
theorem g_four1 (H : MO h mo) (R : RM g A l) (hl : l.length < 80) {v k : Int32} (hk : ¬ k < 0) (K : ∀ g', RM g' A (l ++ [(v >>> (k &&& 31)).toInt8]) → wp (d + 1) mX10_four 3 [.ref mo, .int v, .int (k + (-8))] [] (mh h mo g') Q) : wp (d + 1) mX10_four 3 [.ref mo, .int v, .int k] [] (mh h mo g) Q := by
  rw [uX10_four_3]
  simp only [enX10_four, uX10_four_0, uX10_four_2, uX10_four_4, uX10_four_7, uX10_four_7o, uX10_four_7f, uX10_four_8, uX10_four_9, uX10_four_10, uX10_four_11, uX10_four_14, uX10_four_17, uX10_four_20, mo_C H, mo_R_made H, mo_C_made H, mo_L_made H, pq_C_sI, pq_C_sJ, pq_C_sR, pq_C_sA, pq_L_sI, pq_L_sJ, pq_L_sR, pq_L_sA, pq_I_sI, pq_I_sJ, pq_I_sR, pq_I_sA, pq_J_sI, pq_J_sJ, pq_J_sR, pq_J_sA, pq_R_sI, pq_R_sJ, pq_R_sR, pq_R_sA, pq_N_sI, pq_N_sJ, pq_N_sR, pq_N_sA, pq_S_sI, pq_S_sJ, pq_S_sR, pq_S_sA, pz_rf_s, pz_cut_i, pz_cut_r, pz_cut_n, pz_cut_f, pz_cut_u, pz_cut_o, true_and, and_true, true_or, or_true, Option.toList_some, Option.toList_none, List.cons_append, List.nil_append, Nat.add_left_cancel_iff, Nat.left_eq_add, Nat.add_eq_left, Nat.reduceEqDiff, if_true, if_false, ite_true, ite_false, false_and, and_false, false_or, or_false, reduceIte, reduceCtorEq, and_self, mh_C, mh_L, mh_R, mh_J, mh_I0, mh_I, mh_Ir, mh_sI0, mh_sI, mh_sA, gu_11, gu_22, gu_r, gu_21s, gu_21c, gu_22s, gu_11s, gu_11c, gu_22c, Nat.reduceLeDiff, Nat.reduceLT, ne_eq, not_false_eq_true, not_true_eq_false, Nat.reduceEqDiff, Nat.lt_irrefl, eq_self, z_4, z_5, z_7, z_8, z_10, z_16, z_20, z_64]
  rw [if_neg hk]
  refine g_one H R hl (fun g' R' => ?_)
  simp only [enX10_four, uX10_four_0, uX10_four_2, uX10_four_4, uX10_four_7, uX10_four_7o, uX10_four_7f, uX10_four_8, uX10_four_9, uX10_four_10, uX10_four_11, uX10_four_14, uX10_four_17, uX10_four_20, mo_C H, mo_R_made H, mo_C_made H, mo_L_made H, pq_C_sI, pq_C_sJ, pq_C_sR, pq_C_sA, pq_L_sI, pq_L_sJ, pq_L_sR, pq_L_sA, pq_I_sI, pq_I_sJ, pq_I_sR, pq_I_sA, pq_J_sI, pq_J_sJ, pq_J_sR, pq_J_sA, pq_R_sI, pq_R_sJ, pq_R_sR, pq_R_sA, pq_N_sI, pq_N_sJ, pq_N_sR, pq_N_sA, pq_S_sI, pq_S_sJ, pq_S_sR, pq_S_sA, pz_rf_s, pz_cut_i, pz_cut_r, pz_cut_n, pz_cut_f, pz_cut_u, pz_cut_o, true_and, and_true, true_or, or_true, Option.toList_some, Option.toList_none, List.cons_append, List.nil_append, Nat.add_left_cancel_iff, Nat.left_eq_add, Nat.add_eq_left, Nat.reduceEqDiff, if_true, if_false, ite_true, ite_false, false_and, and_false, false_or, or_false, reduceIte, reduceCtorEq, and_self, mh_C, mh_L, mh_R, mh_J, mh_I0, mh_I, mh_Ir, mh_sI0, mh_sI, mh_sA, gu_11, gu_22, gu_r, gu_21s, gu_21c, gu_22s, gu_11s, gu_11c, gu_22c, Nat.reduceLeDiff, Nat.reduceLT, ne_eq, not_false_eq_true, not_true_eq_false, Nat.reduceEqDiff, Nat.lt_irrefl, eq_self, z_4, z_5, z_7, z_8, z_10, z_16, z_20, z_64]
  exact K g' R'
theorem g_four (H : MO h mo) (R : RM g A l) (hl : l.length + 4 ≤ 80) {v : Int32} (K : ∀ g', RM g' A (l ++ be4 v) → Q none (mh h mo g')) : pz_M (d + 2) mX10_four [.ref mo, .int v] (mh h mo g) Q := by
  simp only [enX10_four, uX10_four_0, uX10_four_2, uX10_four_4, uX10_four_7, uX10_four_7o, uX10_four_7f, uX10_four_8, uX10_four_9, uX10_four_10, uX10_four_11, uX10_four_14, uX10_four_17, uX10_four_20, mo_C H, mo_R_made H, mo_C_made H, mo_L_made H, pq_C_sI, pq_C_sJ, pq_C_sR, pq_C_sA, pq_L_sI, pq_L_sJ, pq_L_sR, pq_L_sA, pq_I_sI, pq_I_sJ, pq_I_sR, pq_I_sA, pq_J_sI, pq_J_sJ, pq_J_sR, pq_J_sA, pq_R_sI, pq_R_sJ, pq_R_sR, pq_R_sA, pq_N_sI, pq_N_sJ, pq_N_sR, pq_N_sA, pq_S_sI, pq_S_sJ, pq_S_sR, pq_S_sA, pz_rf_s, pz_cut_i, pz_cut_r, pz_cut_n, pz_cut_f, pz_cut_u, pz_cut_o, true_and, and_true, true_or, or_true, Option.toList_some, Option.toList_none, List.cons_append, List.nil_append, Nat.add_left_cancel_iff, Nat.left_eq_add, Nat.add_eq_left, Nat.reduceEqDiff, if_true, if_false, ite_true, ite_false, false_and, and_false, false_or, or_false, reduceIte, reduceCtorEq, and_self, mh_C, mh_L, mh_R, mh_J, mh_I0, mh_I, mh_Ir, mh_sI0, mh_sI, mh_sA, gu_11, gu_22, gu_r, gu_21s, gu_21c, gu_22s, gu_11s, gu_11c, gu_22c, Nat.reduceLeDiff, Nat.reduceLT, ne_eq, not_false_eq_true, not_true_eq_false, Nat.reduceEqDiff, Nat.lt_irrefl, eq_self, z_4, z_5, z_7, z_8, z_10, z_16, z_20, z_64]
  refine g_four1 H R (by omega) (by decide) (fun g1 R1 => ?_)
  refine g_four1 H R1 (by rw [List.length_append]; simp; omega) (by decide) (fun g2 R2 => ?_)
  refine g_four1 H R2 (by simp only [List.length_append, List.length_cons, List.length_nil]; omega) (by decide) (fun g3 R3 => ?_)
  refine g_four1 H R3 (by simp only [List.length_append, List.length_cons, List.length_nil]; omega) (by decide) (fun g4 R4 => ?_)
  rw [uX10_four_3]
  simp only [enX10_four, uX10_four_0, uX10_four_2, uX10_four_4, uX10_four_7, uX10_four_7o, uX10_four_7f, uX10_four_8, uX10_four_9, uX10_four_10, uX10_four_11, uX10_four_14, uX10_four_17, uX10_four_20, mo_C H, mo_R_made H, mo_C_made H, mo_L_made H, pq_C_sI, pq_C_sJ, pq_C_sR, pq_C_sA, pq_L_sI, pq_L_sJ, pq_L_sR, pq_L_sA, pq_I_sI, pq_I_sJ, pq_I_sR, pq_I_sA, pq_J_sI, pq_J_sJ, pq_J_sR, pq_J_sA, pq_R_sI, pq_R_sJ, pq_R_sR, pq_R_sA, pq_N_sI, pq_N_sJ, pq_N_sR, pq_N_sA, pq_S_sI, pq_S_sJ, pq_S_sR, pq_S_sA, pz_rf_s, pz_cut_i, pz_cut_r, pz_cut_n, pz_cut_f, pz_cut_u, pz_cut_o, true_and, and_true, true_or, or_true, Option.toList_some, Option.toList_none, List.cons_append, List.nil_append, Nat.add_left_cancel_iff, Nat.left_eq_add, Nat.add_eq_left, Nat.reduceEqDiff, if_true, if_false, ite_true, ite_false, false_and, and_false, false_or, or_false, reduceIte, reduceCtorEq, and_self, mh_C, mh_L, mh_R, mh_J, mh_I0, mh_I, mh_Ir, mh_sI0, mh_sI, mh_sA, gu_11, gu_22, gu_r, gu_21s, gu_21c, gu_22s, gu_11s, gu_11c, gu_22c, Nat.reduceLeDiff, Nat.reduceLT, ne_eq, not_false_eq_true, not_true_eq_false, Nat.reduceEqDiff, Nat.lt_irrefl, eq_self, z_4, z_5, z_7, z_8, z_10, z_16, z_20, z_64]
  rw [if_pos (by decide)]
  refine K g4 ?_
  have e1 : (24 : Int32) + (-8) = 16 := by decide
  have e2 : (16 : Int32) + (-8) = 8 := by decide
  have e3 : (8 : Int32) + (-8) = 0 := by decide
  simp only [List.append_assoc, List.cons_append, List.nil_append, e1, e2, e3] at R4
  exact R4
end
