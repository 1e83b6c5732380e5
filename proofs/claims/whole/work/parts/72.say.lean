/-! ===== the reference: drops, isWhole, say, hear, meddle, close ===== -/
def drA (A : St) (k n : Nat) : St := (sB A, upf (sW A) k ((sW A k).drop n), A.2.2)
def stV (A : St) (i : Nat) (l : List Int8) : St := (sB A, sW A, upf (sV A) i l, A.2.2.2)
def stW (A : St) (k : Nat) (l : List Int8) : St := (sB A, upf (sW A) k l, A.2.2)
def HW (A : St) : Prop := ∀ j, j < 25 → (sW A j).length ≤ 4000
section
variable {d : Nat} {h : PzH} {Q : Option Value → PzH → Prop} {mo : Nat} {g : Tb} {A : St} {l : List Int8}
theorem g_drops1 (H : MO h mo) {k n m : Nat} (hk : k < 25) (hm : n + m ≤ 4000) (h34 : g 34 k = nI (n + m)) {t : Nat → Int32} (hf : ∀ i, i < n + m → vp_nar .byte (t (4200 * k + i)) = t (4200 * k + i)) : wp d mX10_drops 2 [.ref mo, .int (nI k), .int (nI n), .int (nI n)] [] (mh h mo (pz_u1 g 33 t)) Q ↔ wp d mX10_drops 44 [.ref mo, .int (nI k), .int (nI n), .int (nI (n + m))] [] (mh h mo (pz_u1 g 33 (put t (4200 * k) m (fun i => t (4200 * k + (n + i)))))) Q := by
  have key := wp_for (d := d) (m := mX10_drops) (pc := 2) (Q := Q) (fun i => mh h mo (pz_u1 g 33 (put t (4200 * k) i (fun i => t (4200 * k + (n + i)))))) (fun i => [.ref mo, .int (nI k), .int (nI n), .int (nI (n + i))]) m (fun i hi => by
    rw [uX10_drops_2]
    simp only [enX10_drops, uX10_drops_0, uX10_drops_1, uX10_drops_3, uX10_drops_3o, uX10_drops_3f, uX10_drops_4, uX10_drops_7, uX10_drops_8, uX10_drops_9, uX10_drops_12, uX10_drops_12o, uX10_drops_12f, uX10_drops_13, uX10_drops_16, uX10_drops_19, uX10_drops_20, uX10_drops_21, uX10_drops_22, uX10_drops_23, uX10_drops_24, uX10_drops_25, uX10_drops_25o, uX10_drops_25f, uX10_drops_26, uX10_drops_29, uX10_drops_32, uX10_drops_33, uX10_drops_34, uX10_drops_35, uX10_drops_36, uX10_drops_37, uX10_drops_38, uX10_drops_41, uX10_drops_45, uX10_drops_48, uX10_drops_49, uX10_drops_50, uX10_drops_51, uX10_drops_52, uX10_drops_53, uX10_drops_54, mo_C H, mo_R_wire H, mo_C_wire H, mo_L_wire H, mo_R_wired H, mo_C_wired H, mo_L_wired H, pq_C_sI, pq_C_sJ, pq_C_sR, pq_C_sA, pq_L_sI, pq_L_sJ, pq_L_sR, pq_L_sA, pq_I_sI, pq_I_sJ, pq_I_sR, pq_I_sA, pq_J_sI, pq_J_sJ, pq_J_sR, pq_J_sA, pq_R_sI, pq_R_sJ, pq_R_sR, pq_R_sA, pq_N_sI, pq_N_sJ, pq_N_sR, pq_N_sA, pq_S_sI, pq_S_sJ, pq_S_sR, pq_S_sA, pz_rf_s, pz_cut_i, pz_cut_r, pz_cut_n, pz_cut_f, pz_cut_u, pz_cut_o, true_and, and_true, true_or, or_true, Option.toList_some, Option.toList_none, List.cons_append, List.nil_append, Nat.add_left_cancel_iff, Nat.left_eq_add, Nat.add_eq_left, Nat.reduceEqDiff, if_true, if_false, ite_true, ite_false, false_and, and_false, false_or, or_false, reduceIte, reduceCtorEq, and_self, mh_C, mh_L, mh_R, mh_J, mh_I0, mh_I, mh_Ir, mh_sI0, mh_sI, mh_sA, gu_11, gu_22, gu_r, gu_21s, gu_21c, gu_22s, gu_11s, gu_11c, gu_22c, Nat.reduceLeDiff, Nat.reduceLT, ne_eq, not_false_eq_true, not_true_eq_false, Nat.reduceEqDiff, Nat.lt_irrefl, eq_self, z_4, z_5, z_7, z_8, z_10, z_16, z_20, z_64]
    simp (disch := omega) only [nI_4200, pk_mul, nI_clamp, h34, nI_add, pz_in_nI, true_and, nI_1]
    rw [if_neg (nI_ge (show n + i < n + m by omega) (by omega)), pk_sub (show n ≤ 4200 * k + (n + i) by omega), show 4200 * k + (n + i) - n = 4200 * k + i by omega, put_out (by omega), hf _ (by omega)]
    simp (disch := omega) only [nI_clamp, pz_in_nI, true_and]
    rw [show upd (put t (4200 * k) i (fun i => t (4200 * k + (n + i)))) (4200 * k + i) (t (4200 * k + (n + i))) = put t (4200 * k) (i + 1) (fun i => t (4200 * k + (n + i))) from put_s (u := fun i => t (4200 * k + (n + i)))]
    exact Iff.rfl)
  refine Iff.trans (show _ ↔ _ from ?_) (key.trans ?_)
  · rw [put_0, Nat.add_zero]
  · rw [uX10_drops_2]
    simp only [enX10_drops, uX10_drops_0, uX10_drops_1, uX10_drops_3, uX10_drops_3o, uX10_drops_3f, uX10_drops_4, uX10_drops_7, uX10_drops_8, uX10_drops_9, uX10_drops_12, uX10_drops_12o, uX10_drops_12f, uX10_drops_13, uX10_drops_16, uX10_drops_19, uX10_drops_20, uX10_drops_21, uX10_drops_22, uX10_drops_23, uX10_drops_24, uX10_drops_25, uX10_drops_25o, uX10_drops_25f, uX10_drops_26, uX10_drops_29, uX10_drops_32, uX10_drops_33, uX10_drops_34, uX10_drops_35, uX10_drops_36, uX10_drops_37, uX10_drops_38, uX10_drops_41, uX10_drops_45, uX10_drops_48, uX10_drops_49, uX10_drops_50, uX10_drops_51, uX10_drops_52, uX10_drops_53, uX10_drops_54, mo_C H, mo_R_wire H, mo_C_wire H, mo_L_wire H, mo_R_wired H, mo_C_wired H, mo_L_wired H, pq_C_sI, pq_C_sJ, pq_C_sR, pq_C_sA, pq_L_sI, pq_L_sJ, pq_L_sR, pq_L_sA, pq_I_sI, pq_I_sJ, pq_I_sR, pq_I_sA, pq_J_sI, pq_J_sJ, pq_J_sR, pq_J_sA, pq_R_sI, pq_R_sJ, pq_R_sR, pq_R_sA, pq_N_sI, pq_N_sJ, pq_N_sR, pq_N_sA, pq_S_sI, pq_S_sJ, pq_S_sR, pq_S_sA, pz_rf_s, pz_cut_i, pz_cut_r, pz_cut_n, pz_cut_f, pz_cut_u, pz_cut_o, true_and, and_true, true_or, or_true, Option.toList_some, Option.toList_none, List.cons_append, List.nil_append, Nat.add_left_cancel_iff, Nat.left_eq_add, Nat.add_eq_left, Nat.reduceEqDiff, if_true, if_false, ite_true, ite_false, false_and, and_false, false_or, or_false, reduceIte, reduceCtorEq, and_self, mh_C, mh_L, mh_R, mh_J, mh_I0, mh_I, mh_Ir, mh_sI0, mh_sI, mh_sA, gu_11, gu_22, gu_r, gu_21s, gu_21c, gu_22s, gu_11s, gu_11c, gu_22c, Nat.reduceLeDiff, Nat.reduceLT, ne_eq, not_false_eq_true, not_true_eq_false, Nat.reduceEqDiff, Nat.lt_irrefl, eq_self, z_4, z_5, z_7, z_8, z_10, z_16, z_20, z_64]
    simp (disch := omega) only [nI_clamp, h34, pz_in_nI, true_and]
    rw [if_pos (nI_le (Nat.le_refl _) (by omega))]
theorem g_drops (H : MO h mo) (R : RM g A l) {k n : Nat} (hk : k < 25) (hw : HW A) (hn : n ≤ (sW A k).length) (K : ∀ g', FR [33, 34] [] g g' → RM g' (drA A k n) l → Q none (mh h mo g')) : pz_M (d + 1) mX10_drops [.ref mo, .int (nI k), .int (nI n)] (mh h mo g) Q := by
  obtain ⟨⟨⟨h1, h2, h3, h4, h5, h6, h7, h8, h9, h10, h11⟩, h12⟩, R2, R3⟩ := R
  obtain ⟨w1, w2⟩ := h8 k hk
  obtain ⟨m, hm⟩ : ∃ m, (sW A k).length = n + m := ⟨(sW A k).length - n, by omega⟩
  have hk' := hw k hk
  rw [hm] at w1
  simp only [enX10_drops, uX10_drops_0, uX10_drops_1, uX10_drops_3, uX10_drops_3o, uX10_drops_3f, uX10_drops_4, uX10_drops_7, uX10_drops_8, uX10_drops_9, uX10_drops_12, uX10_drops_12o, uX10_drops_12f, uX10_drops_13, uX10_drops_16, uX10_drops_19, uX10_drops_20, uX10_drops_21, uX10_drops_22, uX10_drops_23, uX10_drops_24, uX10_drops_25, uX10_drops_25o, uX10_drops_25f, uX10_drops_26, uX10_drops_29, uX10_drops_32, uX10_drops_33, uX10_drops_34, uX10_drops_35, uX10_drops_36, uX10_drops_37, uX10_drops_38, uX10_drops_41, uX10_drops_44, uX10_drops_44o, uX10_drops_44f, uX10_drops_45, uX10_drops_48, uX10_drops_49, uX10_drops_50, uX10_drops_51, uX10_drops_52, uX10_drops_53, uX10_drops_54, mo_C H, mo_R_wire H, mo_C_wire H, mo_L_wire H, mo_R_wired H, mo_C_wired H, mo_L_wired H, pq_C_sI, pq_C_sJ, pq_C_sR, pq_C_sA, pq_L_sI, pq_L_sJ, pq_L_sR, pq_L_sA, pq_I_sI, pq_I_sJ, pq_I_sR, pq_I_sA, pq_J_sI, pq_J_sJ, pq_J_sR, pq_J_sA, pq_R_sI, pq_R_sJ, pq_R_sR, pq_R_sA, pq_N_sI, pq_N_sJ, pq_N_sR, pq_N_sA, pq_S_sI, pq_S_sJ, pq_S_sR, pq_S_sA, pz_rf_s, pz_cut_i, pz_cut_r, pz_cut_n, pz_cut_f, pz_cut_u, pz_cut_o, true_and, and_true, true_or, or_true, Option.toList_some, Option.toList_none, List.cons_append, List.nil_append, Nat.add_left_cancel_iff, Nat.left_eq_add, Nat.add_eq_left, Nat.reduceEqDiff, if_true, if_false, ite_true, ite_false, false_and, and_false, false_or, or_false, reduceIte, reduceCtorEq, and_self, mh_C, mh_L, mh_R, mh_J, mh_I0, mh_I, mh_Ir, mh_sI0, mh_sI, mh_sA, gu_11, gu_22, gu_r, gu_21s, gu_21c, gu_22s, gu_11s, gu_11c, gu_22c, Nat.reduceLeDiff, Nat.reduceLT, ne_eq, not_false_eq_true, not_true_eq_false, Nat.reduceEqDiff, Nat.lt_irrefl, eq_self, z_4, z_5, z_7, z_8, z_10, z_16, z_20, z_64]
  have e0 : mh h mo g = mh h mo (pz_u1 g 33 (g 33)) := by rw [gu_1e]
  rw [e0, g_drops1 H hk (by omega) w1 (fun i hi => by rw [w2 i (by omega), vb8])]
  simp only [enX10_drops, uX10_drops_0, uX10_drops_1, uX10_drops_3, uX10_drops_3o, uX10_drops_3f, uX10_drops_4, uX10_drops_7, uX10_drops_8, uX10_drops_9, uX10_drops_12, uX10_drops_12o, uX10_drops_12f, uX10_drops_13, uX10_drops_16, uX10_drops_19, uX10_drops_20, uX10_drops_21, uX10_drops_22, uX10_drops_23, uX10_drops_24, uX10_drops_25, uX10_drops_25o, uX10_drops_25f, uX10_drops_26, uX10_drops_29, uX10_drops_32, uX10_drops_33, uX10_drops_34, uX10_drops_35, uX10_drops_36, uX10_drops_37, uX10_drops_38, uX10_drops_41, uX10_drops_44, uX10_drops_44o, uX10_drops_44f, uX10_drops_45, uX10_drops_48, uX10_drops_49, uX10_drops_50, uX10_drops_51, uX10_drops_52, uX10_drops_53, uX10_drops_54, mo_C H, mo_R_wire H, mo_C_wire H, mo_L_wire H, mo_R_wired H, mo_C_wired H, mo_L_wired H, pq_C_sI, pq_C_sJ, pq_C_sR, pq_C_sA, pq_L_sI, pq_L_sJ, pq_L_sR, pq_L_sA, pq_I_sI, pq_I_sJ, pq_I_sR, pq_I_sA, pq_J_sI, pq_J_sJ, pq_J_sR, pq_J_sA, pq_R_sI, pq_R_sJ, pq_R_sR, pq_R_sA, pq_N_sI, pq_N_sJ, pq_N_sR, pq_N_sA, pq_S_sI, pq_S_sJ, pq_S_sR, pq_S_sA, pz_rf_s, pz_cut_i, pz_cut_r, pz_cut_n, pz_cut_f, pz_cut_u, pz_cut_o, true_and, and_true, true_or, or_true, Option.toList_some, Option.toList_none, List.cons_append, List.nil_append, Nat.add_left_cancel_iff, Nat.left_eq_add, Nat.add_eq_left, Nat.reduceEqDiff, if_true, if_false, ite_true, ite_false, false_and, and_false, false_or, or_false, reduceIte, reduceCtorEq, and_self, mh_C, mh_L, mh_R, mh_J, mh_I0, mh_I, mh_Ir, mh_sI0, mh_sI, mh_sA, gu_11, gu_22, gu_r, gu_21s, gu_21c, gu_22s, gu_11s, gu_11c, gu_22c, Nat.reduceLeDiff, Nat.reduceLT, ne_eq, not_false_eq_true, not_true_eq_false, Nat.reduceEqDiff, Nat.lt_irrefl, eq_self, z_4, z_5, z_7, z_8, z_10, z_16, z_20, z_64]
  simp (disch := omega) only [nI_clamp, pz_in_nI, true_and, w1]
  rw [pk_sub (by omega), Nat.add_sub_cancel_left]
  refine K _ (FR_trans (FR_2r (by decide) (by decide)) (FR_1 (by decide) (by decide))) ⟨⟨⟨h1, h2, FLE_o1 (FLE_or h3 (by decide) (by decide)) (by decide) (by decide), h4, h5, h6, h7, ?_, h9, h10, h11⟩, h12⟩, R2, R3⟩
  intro j hj
  have hj' := hw j hj
  rw [gu_11, if_neg (by decide), gu_2s, gu_11, if_pos rfl]
  by_cases q : j = k
  · subst q
    rw [pk_us]
    show _ = nI (upf (sW A) j _ j).length ∧ SEG _ _ (upf (sW A) j _ j)
    rw [upf_s, List.length_drop, hm, Nat.add_sub_cancel_left]
    refine ⟨rfl, fun i hi => ?_⟩
    rw [List.length_drop] at hi
    rw [put_in (by omega), w2 (n + i) (by omega), getD_drop]
  · rw [pk_un q]
    show _ = nI (upf (sW A) k _ j).length ∧ SEG _ _ (upf (sW A) k _ j)
    rw [upf_n q]
    exact ⟨(h8 j hj).1, SEG_c (h8 j hj).2 (fun i hi => put_out (by omega))⟩
/-- the first that came for a from b is whole -/
def whA (A : St) (a b : Nat) : Bool := decide (a ≠ 4 ∧ sB A 23 (5 * a + b) ≠ 0 ∧ (if sB A 24 (5 * a + b) = 0 then 68 ≤ (sW A (5 * b + a)).length else 4 ≤ (sW A (5 * b + a)).length ∧ (100 < be32 (sW A (5 * b + a)) 0 ∨ 4 + be32 (sW A (5 * b + a)) 0 ≤ (sW A (5 * b + a)).length)))
theorem FLE_aj {g B : Tb} (h : FLE g B) (a b : Int32) : ajB g a b = ajB B a b := by
  unfold ajB
  rw [FLE_row h (show 23 ∈ FLr by decide)]
theorem ajB_no {B : Tb} {a b : Nat} (ha : a < 5) (hb : b < 5) : ajB B (nI a) (nI b) = if B 23 (5 * a + b) = 0 then none else some (a, b) := by
  unfold ajB
  rw [vI_of (by decide) ha, vI_of (by decide) hb]
theorem g_isWhole (H : MO h mo) (R : RG g A) {a b : Nat} (ha : a < 5) (hb : b < 5) (hw : HW A) : pz_M (d + 3) mX10_isWhole [.ref mo, .int (nI a), .int (nI b)] (mh h mo g) Q ↔ Q (some (.int (if whA A a b = true then 1 else 0))) (mh h mo g) := by
  have h3 := R.1.2.2.1
  have hk : 5 * b + a < 25 := by omega
  have hk' := hw _ hk
  obtain ⟨w1, w2⟩ := R.1.2.2.2.2.2.2.2.1 _ hk
  have e24 : g 24 (5 * a + b) = sB A 24 (5 * a + b) := h3 _ _ (Or.inl (by decide))
  simp only [enX10_isWhole, uX10_isWhole_0, uX10_isWhole_1, uX10_isWhole_2, uX10_isWhole_5, uX10_isWhole_5o, uX10_isWhole_5f, uX10_isWhole_6, uX10_isWhole_7, uX10_isWhole_8, uX10_isWhole_11, uX10_isWhole_14, uX10_isWhole_15, uX10_isWhole_16, uX10_isWhole_17, uX10_isWhole_18, uX10_isWhole_19, uX10_isWhole_20, uX10_isWhole_21, uX10_isWhole_22, uX10_isWhole_22o, uX10_isWhole_22f, uX10_isWhole_23, uX10_isWhole_26, uX10_isWhole_27, uX10_isWhole_28, uX10_isWhole_29, uX10_isWhole_30, uX10_isWhole_31, uX10_isWhole_32, uX10_isWhole_35, uX10_isWhole_35o, uX10_isWhole_35f, uX10_isWhole_36, uX10_isWhole_39, uX10_isWhole_40, uX10_isWhole_41, uX10_isWhole_43, uX10_isWhole_46, uX10_isWhole_47, uX10_isWhole_50, uX10_isWhole_51, uX10_isWhole_52, uX10_isWhole_52o, uX10_isWhole_52f, uX10_isWhole_53, uX10_isWhole_56, uX10_isWhole_57, uX10_isWhole_58, uX10_isWhole_59, uX10_isWhole_62, uX10_isWhole_63, uX10_isWhole_64, uX10_isWhole_64o, uX10_isWhole_64f, uX10_isWhole_65, uX10_isWhole_66, uX10_isWhole_67, uX10_isWhole_70, uX10_isWhole_72, uX10_isWhole_74, uX10_isWhole_77, uX10_isWhole_78, uX10_isWhole_81, uX10_isWhole_81o, uX10_isWhole_81f, uX10_isWhole_82, uX10_isWhole_85, uX10_isWhole_86, uX10_isWhole_87, uX10_isWhole_88, uX10_isWhole_91, uX10_isWhole_93, uX10_isWhole_94, uX10_isWhole_95, uX10_isWhole_98, uX10_isWhole_99, uX10_isWhole_102, uX10_isWhole_103, mo_C H, mo_R_wired H, mo_C_wired H, mo_L_wired H, mo_R_hello H, mo_C_hello H, mo_L_hello H, pq_C_sI, pq_C_sJ, pq_C_sR, pq_C_sA, pq_L_sI, pq_L_sJ, pq_L_sR, pq_L_sA, pq_I_sI, pq_I_sJ, pq_I_sR, pq_I_sA, pq_J_sI, pq_J_sJ, pq_J_sR, pq_J_sA, pq_R_sI, pq_R_sJ, pq_R_sR, pq_R_sA, pq_N_sI, pq_N_sJ, pq_N_sR, pq_N_sA, pq_S_sI, pq_S_sJ, pq_S_sR, pq_S_sA, pz_rf_s, pz_cut_i, pz_cut_r, pz_cut_n, pz_cut_f, pz_cut_u, pz_cut_o, true_and, and_true, true_or, or_true, Option.toList_some, Option.toList_none, List.cons_append, List.nil_append, Nat.add_left_cancel_iff, Nat.left_eq_add, Nat.add_eq_left, Nat.reduceEqDiff, if_true, if_false, ite_true, ite_false, false_and, and_false, false_or, or_false, reduceIte, reduceCtorEq, and_self, mh_C, mh_L, mh_R, mh_J, mh_I0, mh_I, mh_Ir, mh_sI0, mh_sI, mh_sA, gu_11, gu_22, gu_r, gu_21s, gu_21c, gu_22s, gu_11s, gu_11c, gu_22c, Nat.reduceLeDiff, Nat.reduceLT, ne_eq, not_false_eq_true, not_true_eq_false, Nat.reduceEqDiff, Nat.lt_irrefl, eq_self, z_4, z_5, z_7, z_8, z_10, z_16, z_20, z_64, g_areJoined H, FLE_aj h3, ajB_no ha hb]
  unfold whA
  by_cases q4 : a = 4
  · subst q4
    rw [if_pos (show nI 4 = 4 from rfl)]
    simp
  · rw [if_neg (show ¬ nI a = 4 from fun z => q4 ((nI_eq (b := 4) (by omega) (by decide)).mp z))]
    by_cases q23 : sB A 23 (5 * a + b) = 0
    · rw [if_pos q23]
      simp [q23]
    · rw [if_neg q23]
      simp (disch := omega) only [Option.isSome_some, if_true, show ¬ (1 : Int32) = 0 by decide, not_false_eq_true, show (5 : Int32) = nI 5 from rfl, pk_mul, nI_add, nI_clamp, pz_in_nI, true_and, w1, e24]
      by_cases q24 : sB A 24 (5 * a + b) = 0
      · rw [if_neg (fun z => z q24)]
        by_cases q68 : 68 ≤ (sW A (5 * b + a)).length
        · rw [if_neg (show ¬ nI (sW A (5 * b + a)).length < 68 from nI_nlt (b := 68) q68 (by omega))]
          simp [q4, q23, q24, q68]
        · rw [if_pos (show nI (sW A (5 * b + a)).length < 68 from nI_lt (b := 68) (by omega) (by decide))]
          simp [q4, q23, q24, q68]
      · rw [if_pos q24]
        by_cases q5 : 4 ≤ (sW A (5 * b + a)).length
        · rw [if_pos (show (4 : Int32) ≤ nI (sW A (5 * b + a)).length from nI_le (a := 4) q5 (by omega))]
          refine Iff.trans (show _ ↔ _ from g_wireFour (i := 0) H R hk (by omega) (by decide)) ?_
          have hb4 := be32_lt (l := sW A (5 * b + a)) (i := 0)
          simp only [enX10_isWhole, uX10_isWhole_0, uX10_isWhole_1, uX10_isWhole_2, uX10_isWhole_5, uX10_isWhole_5o, uX10_isWhole_5f, uX10_isWhole_6, uX10_isWhole_7, uX10_isWhole_8, uX10_isWhole_11, uX10_isWhole_14, uX10_isWhole_15, uX10_isWhole_16, uX10_isWhole_17, uX10_isWhole_18, uX10_isWhole_19, uX10_isWhole_20, uX10_isWhole_21, uX10_isWhole_22, uX10_isWhole_22o, uX10_isWhole_22f, uX10_isWhole_23, uX10_isWhole_26, uX10_isWhole_27, uX10_isWhole_28, uX10_isWhole_29, uX10_isWhole_30, uX10_isWhole_31, uX10_isWhole_32, uX10_isWhole_35, uX10_isWhole_35o, uX10_isWhole_35f, uX10_isWhole_36, uX10_isWhole_39, uX10_isWhole_40, uX10_isWhole_41, uX10_isWhole_43, uX10_isWhole_46, uX10_isWhole_47, uX10_isWhole_50, uX10_isWhole_51, uX10_isWhole_52, uX10_isWhole_52o, uX10_isWhole_52f, uX10_isWhole_53, uX10_isWhole_56, uX10_isWhole_57, uX10_isWhole_58, uX10_isWhole_59, uX10_isWhole_62, uX10_isWhole_63, uX10_isWhole_64, uX10_isWhole_64o, uX10_isWhole_64f, uX10_isWhole_65, uX10_isWhole_66, uX10_isWhole_67, uX10_isWhole_70, uX10_isWhole_72, uX10_isWhole_74, uX10_isWhole_77, uX10_isWhole_78, uX10_isWhole_81, uX10_isWhole_81o, uX10_isWhole_81f, uX10_isWhole_82, uX10_isWhole_85, uX10_isWhole_86, uX10_isWhole_87, uX10_isWhole_88, uX10_isWhole_91, uX10_isWhole_93, uX10_isWhole_94, uX10_isWhole_95, uX10_isWhole_98, uX10_isWhole_99, uX10_isWhole_102, uX10_isWhole_103, mo_C H, mo_R_wired H, mo_C_wired H, mo_L_wired H, mo_R_hello H, mo_C_hello H, mo_L_hello H, pq_C_sI, pq_C_sJ, pq_C_sR, pq_C_sA, pq_L_sI, pq_L_sJ, pq_L_sR, pq_L_sA, pq_I_sI, pq_I_sJ, pq_I_sR, pq_I_sA, pq_J_sI, pq_J_sJ, pq_J_sR, pq_J_sA, pq_R_sI, pq_R_sJ, pq_R_sR, pq_R_sA, pq_N_sI, pq_N_sJ, pq_N_sR, pq_N_sA, pq_S_sI, pq_S_sJ, pq_S_sR, pq_S_sA, pz_rf_s, pz_cut_i, pz_cut_r, pz_cut_n, pz_cut_f, pz_cut_u, pz_cut_o, true_and, and_true, true_or, or_true, Option.toList_some, Option.toList_none, List.cons_append, List.nil_append, Nat.add_left_cancel_iff, Nat.left_eq_add, Nat.add_eq_left, Nat.reduceEqDiff, if_true, if_false, ite_true, ite_false, false_and, and_false, false_or, or_false, reduceIte, reduceCtorEq, and_self, mh_C, mh_L, mh_R, mh_J, mh_I0, mh_I, mh_Ir, mh_sI0, mh_sI, mh_sA, gu_11, gu_22, gu_r, gu_21s, gu_21c, gu_22s, gu_11s, gu_11c, gu_22c, Nat.reduceLeDiff, Nat.reduceLT, ne_eq, not_false_eq_true, not_true_eq_false, Nat.reduceEqDiff, Nat.lt_irrefl, eq_self, z_4, z_5, z_7, z_8, z_10, z_16, z_20, z_64, lg_cmp_gt, lg_cmp_lt]
          simp (disch := omega) only [nI_clamp, pz_in_nI, true_and, w1, nI_l]
          simp only [show (100 : Int64) = lN 100 from rfl, show (4 : Int64) = lN 4 from rfl, lN_add]
          by_cases q6 : 100 < be32 (sW A (5 * b + a)) 0
          · rw [if_pos ((pk_lLT (by decide) (by omega)).mpr q6)]
            simp [q4, q23, q24, q5, q6]
          · rw [if_neg (fun z => q6 ((pk_lLT (by decide) (by omega)).mp z))]
            by_cases q7 : 4 + be32 (sW A (5 * b + a)) 0 ≤ (sW A (5 * b + a)).length
            · rw [if_neg (fun z => absurd ((pk_lLT (by omega) (by omega)).mp z) (by omega))]
              simp [q4, q23, q24, q5, q7]
            · rw [if_pos ((pk_lLT (by omega) (by omega)).mpr (by omega))]
              simp [q4, q23, q24, q5, q6, q7]
        · rw [if_neg (show ¬ (4 : Int32) ≤ nI (sW A (5 * b + a)).length from nI_ge (b := 4) (by omega) (by decide))]
          simp [q4, q23, q24, q5]
end
