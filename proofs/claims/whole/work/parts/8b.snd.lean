/-! ===== the class: one link changes; send ===== -/
section
variable {d : Nat} {h h' : PzH} {Q : Option Value → PzH → Prop} {A A' : St}
theorem RC_lk {x y : Nat} (R : RC h A) (hx : x < 5) (hy : y < 5) (hxy : x ≠ y) (f : HF (lkC (5 * x + y)) h h') (L : LR h' A' x y) (e0 : ∀ j, sB A' 0 j = sB A 0 j) (eV : sV A' = sV A) (eF : sF A' = sF A) (eD : sD A' = sD A) (er : ∀ r, r ∈ [18, 20, 21, 22] → sB A' r = sB A r) (eB : ∀ r, r ∈ [23, 24, 25, 26, 27, 28, 29, 31] → ∀ j, j ≠ 5 * x + y → sB A' r j = sB A r j) (e30 : ∀ j, j ≠ 5 * x + y → ∀ q, q < 64 → sB A' 30 (64 * j + q) = sB A 30 (64 * j + q)) (eL : ∀ j, j ≠ 5 * x + y → sL A' j = sL A j) (eW : ∀ j, j ≠ 5 * y + x → sW A' j = sW A j) : RC h' A' := by
  obtain ⟨C, T, B, CL, LL, J⟩ := R
  have l1 := lkA_in (k := 5 * x + y) (by omega) (by omega)
  have out : ∀ z, (z < 52 ∨ 131 < z) → z ∉ lkC (5 * x + y) := by
    intro z hz q
    rw [lkC_m] at q
    omega
  refine ⟨CO_fr C f, TRS_fr T f (fun z h1 h2 => out z (by omega)) e0 eV eF, BYS_fr B f (fun z hz => out z (by omega)) e0 eV, fun k hk => CR_fr (CL k hk) f (fun z h1 h2 => out z (by omega)) er eD, fun a b ha hb hab => ?_, JNK_fr J f (fun z hz => out z (by omega))⟩
  by_cases e1 : a = x ∧ b = y
  · obtain ⟨rfl, rfl⟩ := e1
    exact L
  · have n1 : 5 * a + b ≠ 5 * x + y := fun z => e1 (k_inj hb hy z)
    have n2 : 5 * b + a ≠ 5 * y + x := fun z => by have := k_inj ha hx z; exact e1 ⟨this.2, this.1⟩
    exact LR_A (LR_fr (LL a b ha hb hab) f (lk_ne hx hy hxy ha hb hab e1)) (fun r hr => eB r hr _ n1) (e30 _ n1) (eL _ n1) (eW _ n2)
/-- the heap while a note is written: only links and the actor's rows differ -/
def HN (h h' : PzH) : Prop := ∃ cs, HF cs h h' ∧ ∀ x, x ∈ cs → 36 ≤ x ∧ x ≤ 137 ∨ x = 8 ∨ x = 9
theorem c_send (R : RC h A) {a b : Nat} {l : List Int8} (ha : a < 5) (hb : b < 5) (hab : a ≠ b) (hj : sB A 23 (5 * b + a) ≠ 0) (hw : (sW A (5 * a + b)).length ≤ 4000) (N : ROW h 135 136 104 l) (K : ∀ h', HL h h' → RC h' (sndA A a b l) → Q none h') : pz_M (d + 4) mX5_send [.ref 23, .ref (lkA (5 * a + b)), .ref 135] h Q := by
  have C := R.1
  have n1 := C.2.2.2.2.2.1.1
  have k1 := (C.2.2.2.2.2.2.2.1 (5 * a + b) (by omega) (by omega)).2.1
  obtain ⟨k2, k2r, _⟩ := (C.2.2.2.2.2.2.2.1 (5 * b + a) (by omega) (by omega)).2
  have L1 := R.2.2.2.2.1 a b ha hb hab
  have L2 := R.2.2.2.2.1 b a hb ha hab.symm
  have L2' := L2
  obtain ⟨q0, q1, q3, q4, q5, q6, q7, q8, q9, q10, q12, q11, q13, qw⟩ := L2
  have N1 := N.1
  have l2 := lkA_in (k := 5 * b + a) (by omega) (by omega)
  simp only [enX5_send, uX5_send_0, uX5_send_0o, uX5_send_0f, uX5_send_1, uX5_send_1o, uX5_send_1f, uX5_send_2, uX5_send_5, uX5_send_5o, uX5_send_5f, uX5_send_6, uX5_send_9, uX5_send_12, uX5_send_12o, uX5_send_13, uX5_send_13o, uX5_send_13f, uX5_send_14, uX5_send_14a, uX5_send_17, uX5_send_17o, uX5_send_17f, uX5_send_18, uX5_send_21, uX5_send_24, uX5_send_25, uX5_send_25o, uX5_send_25f, uX5_send_26, uX5_send_29, uX5_send_29o, uX5_send_29f, uX5_send_30, uX5_send_33, uX5_send_36, uX5_send_39, uX5_send_39o, uX5_send_39f, uX5_send_40, uX5_send_43, uX5_send_43o, uX5_send_43f, uX5_send_44, uX5_send_45, uX5_send_45o, uX5_send_45f, uX5_send_46, uX5_send_49, uX5_send_52, uX5_send_55, uX5_send_55o, uX5_send_55f, uX5_send_56, uX5_send_56o, uX5_send_56f, uX5_send_57, uX5_send_60, uX5_send_60o, uX5_send_60f, uX5_send_61, uX5_send_64, uX5_send_66, uX5_send_69, pq_C_sI, pq_C_sJ, pq_C_sR, pq_C_sA, pq_L_sI, pq_L_sJ, pq_L_sR, pq_L_sA, pq_I_sI, pq_I_sJ, pq_I_sR, pq_I_sA, pq_J_sI, pq_J_sJ, pq_J_sR, pq_J_sA, pq_R_sI, pq_R_sJ, pq_R_sR, pq_R_sA, pq_N_sI, pq_N_sJ, pq_N_sR, pq_N_sA, pq_S_sI, pq_S_sJ, pq_S_sR, pq_S_sA, pz_rf_s, pz_cut_i, pz_cut_r, pz_cut_n, pz_cut_f, pz_cut_u, pz_cut_o, true_and, and_true, true_or, or_true, Option.toList_some, Option.toList_none, List.cons_append, List.nil_append, Nat.add_left_cancel_iff, Nat.left_eq_add, Nat.add_eq_left, Nat.reduceEqDiff, if_true, if_false, ite_true, ite_false, false_and, and_false, false_or, or_false, reduceIte, reduceCtorEq, and_self, z_4, z_5, z_7, z_8, z_10, z_16, z_20, z_64, not_false_eq_true, n1, k1, k2, L1.1, L1.2.1, c_linkOf C, lkO_of hb ha hab.symm, k2r, q3, N1, c_size N, qw.1, c_fits qw]
  rw [if_pos hj, if_neg (nI_pos (by have := N.2.2.2.2.2.2.2.1; omega))]
  have Nl := N.2.2.2.2.2.2.2.1
  unfold sndA at K
  by_cases q : (sW A (5 * a + b)).length + l.length ≤ 4000
  · rw [if_pos q] at K
    rw [if_neg (show ¬ nI (4000 - (sW A (5 * a + b)).length) < nI l.length from nI_nlt (by omega) (by omega))]
    simp only [show ¬ (1 : Int32) = 0 by decide, if_false]
    refine (show _ from c_addPart (b := 0) (n := l.length) qw N ⟨by omega, by omega⟩ (by omega) q (fun h2 F2 W2 => ?_) : pz_M (d + 3) mX6_addPart [.ref (lkA (5 * b + a) + 1), .ref 135, .int 0, .int (nI l.length)] h _)
    have eo : ofF (fun i => l.getD (0 + i) 0) l.length = l := by
      simp only [Nat.zero_add]
      exact ofF_getD
    rw [eo] at W2
    simp only [enX5_send, uX5_send_0, uX5_send_0o, uX5_send_0f, uX5_send_1, uX5_send_1o, uX5_send_1f, uX5_send_2, uX5_send_5, uX5_send_5o, uX5_send_5f, uX5_send_6, uX5_send_9, uX5_send_12, uX5_send_12o, uX5_send_13, uX5_send_13o, uX5_send_13f, uX5_send_14, uX5_send_14a, uX5_send_17, uX5_send_17o, uX5_send_17f, uX5_send_18, uX5_send_21, uX5_send_24, uX5_send_25, uX5_send_25o, uX5_send_25f, uX5_send_26, uX5_send_29, uX5_send_29o, uX5_send_29f, uX5_send_30, uX5_send_33, uX5_send_36, uX5_send_39, uX5_send_39o, uX5_send_39f, uX5_send_40, uX5_send_43, uX5_send_43o, uX5_send_43f, uX5_send_44, uX5_send_45, uX5_send_45o, uX5_send_45f, uX5_send_46, uX5_send_49, uX5_send_52, uX5_send_55, uX5_send_55o, uX5_send_55f, uX5_send_56, uX5_send_56o, uX5_send_56f, uX5_send_57, uX5_send_60, uX5_send_60o, uX5_send_60f, uX5_send_61, uX5_send_64, uX5_send_66, uX5_send_69, pq_C_sI, pq_C_sJ, pq_C_sR, pq_C_sA, pq_L_sI, pq_L_sJ, pq_L_sR, pq_L_sA, pq_I_sI, pq_I_sJ, pq_I_sR, pq_I_sA, pq_J_sI, pq_J_sJ, pq_J_sR, pq_J_sA, pq_R_sI, pq_R_sJ, pq_R_sR, pq_R_sA, pq_N_sI, pq_N_sJ, pq_N_sR, pq_N_sA, pq_S_sI, pq_S_sJ, pq_S_sR, pq_S_sA, pz_rf_s, pz_cut_i, pz_cut_r, pz_cut_n, pz_cut_f, pz_cut_u, pz_cut_o, true_and, and_true, true_or, or_true, Option.toList_some, Option.toList_none, List.cons_append, List.nil_append, Nat.add_left_cancel_iff, Nat.left_eq_add, Nat.add_eq_left, Nat.reduceEqDiff, if_true, if_false, ite_true, ite_false, false_and, and_false, false_or, or_false, reduceIte, reduceCtorEq, and_self, z_4, z_5, z_7, z_8, z_10, z_16, z_20, z_64, not_false_eq_true]
    have F3 : HF (lkC (5 * b + a)) h h2 := HF_up F2 (fun x hx => by
      rw [lkC_m]
      have : x = lkA (5 * b + a) + 1 ∨ x = lkA (5 * b + a) + 2 := by simpa using hx
      omega)
    refine K h2 ⟨_, F3, fun x hx => by rw [lkC_m] at hx; unfold lkR; omega⟩ ?_
    refine RC_lk R hb ha hab.symm F3 ?_ (fun _ => rfl) rfl rfl rfl (fun _ _ => rfl) (fun _ _ _ _ => rfl) (fun _ _ _ _ => rfl) (fun _ _ => rfl) (fun j hj' => upf_n hj')
    have f8 := F2.2.2.2.2.2.2.2.1
    have f9 := F2.2.2.2.2.2.2.2.2
    unfold LR
    rw [f8 (lkA (5 * b + a)) (by simp), f9 (lkA (5 * b + a)) (by simp), f8 (lkA (5 * b + a) + 3) (by simp)]
    refine ⟨q0, q1, q3, q4, q5, q6, q7, q8, q9, q10, q12, q11, q13, ?_⟩
    show ROW h2 _ _ 4000 (upf (sW A) (5 * a + b) _ (5 * a + b))
    rw [upf_s]
    exact W2
  · rw [if_neg q] at K
    rw [if_pos (show nI (4000 - (sW A (5 * a + b)).length) < nI l.length from nI_lt (by omega) (by omega))]
    simp only [if_true]
    refine c_part (d := d) R ha hb hab (fun h2 F2 R2 => ?_)
    simp only [enX5_send, uX5_send_0, uX5_send_0o, uX5_send_0f, uX5_send_1, uX5_send_1o, uX5_send_1f, uX5_send_2, uX5_send_5, uX5_send_5o, uX5_send_5f, uX5_send_6, uX5_send_9, uX5_send_12, uX5_send_12o, uX5_send_13, uX5_send_13o, uX5_send_13f, uX5_send_14, uX5_send_14a, uX5_send_17, uX5_send_17o, uX5_send_17f, uX5_send_18, uX5_send_21, uX5_send_24, uX5_send_25, uX5_send_25o, uX5_send_25f, uX5_send_26, uX5_send_29, uX5_send_29o, uX5_send_29f, uX5_send_30, uX5_send_33, uX5_send_36, uX5_send_39, uX5_send_39o, uX5_send_39f, uX5_send_40, uX5_send_43, uX5_send_43o, uX5_send_43f, uX5_send_44, uX5_send_45, uX5_send_45o, uX5_send_45f, uX5_send_46, uX5_send_49, uX5_send_52, uX5_send_55, uX5_send_55o, uX5_send_55f, uX5_send_56, uX5_send_56o, uX5_send_56f, uX5_send_57, uX5_send_60, uX5_send_60o, uX5_send_60f, uX5_send_61, uX5_send_64, uX5_send_66, uX5_send_69, pq_C_sI, pq_C_sJ, pq_C_sR, pq_C_sA, pq_L_sI, pq_L_sJ, pq_L_sR, pq_L_sA, pq_I_sI, pq_I_sJ, pq_I_sR, pq_I_sA, pq_J_sI, pq_J_sJ, pq_J_sR, pq_J_sA, pq_R_sI, pq_R_sJ, pq_R_sR, pq_R_sA, pq_N_sI, pq_N_sJ, pq_N_sR, pq_N_sA, pq_S_sI, pq_S_sJ, pq_S_sR, pq_S_sA, pz_rf_s, pz_cut_i, pz_cut_r, pz_cut_n, pz_cut_f, pz_cut_u, pz_cut_o, true_and, and_true, true_or, or_true, Option.toList_some, Option.toList_none, List.cons_append, List.nil_append, Nat.add_left_cancel_iff, Nat.left_eq_add, Nat.add_eq_left, Nat.reduceEqDiff, if_true, if_false, ite_true, ite_false, false_and, and_false, false_or, or_false, reduceIte, reduceCtorEq, and_self, z_4, z_5, z_7, z_8, z_10, z_16, z_20, z_64, not_false_eq_true]
    exact K h2 (HL_lk ha hb hab F2) R2
end
