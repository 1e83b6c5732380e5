/-! ===== the law: its loop ===== -/
section
variable {e : Nat} {h : PzH} {Q : Option Value → PzH → Prop} {A : St} {g : Tb} {L : Nat} {xs : Nat → Int32}
theorem sw_at0 : pz_sw 33 856 0 24 #[115, 178, 201, 214, 247, 270, 283, 306, 319, 332, 355, 388, 401, 450, 483, 516, 539, 562, 615, 648, 671, 714, 747, 790, 823] (nI 0) = 148 := by decide +kernel
theorem sw_at1 : pz_sw 33 856 0 24 #[115, 178, 201, 214, 247, 270, 283, 306, 319, 332, 355, 388, 401, 450, 483, 516, 539, 562, 615, 648, 671, 714, 747, 790, 823] (nI 1) = 211 := by decide +kernel
theorem sw_at2 : pz_sw 33 856 0 24 #[115, 178, 201, 214, 247, 270, 283, 306, 319, 332, 355, 388, 401, 450, 483, 516, 539, 562, 615, 648, 671, 714, 747, 790, 823] (nI 2) = 234 := by decide +kernel
theorem sw_at3 : pz_sw 33 856 0 24 #[115, 178, 201, 214, 247, 270, 283, 306, 319, 332, 355, 388, 401, 450, 483, 516, 539, 562, 615, 648, 671, 714, 747, 790, 823] (nI 3) = 247 := by decide +kernel
theorem sw_at4 : pz_sw 33 856 0 24 #[115, 178, 201, 214, 247, 270, 283, 306, 319, 332, 355, 388, 401, 450, 483, 516, 539, 562, 615, 648, 671, 714, 747, 790, 823] (nI 4) = 280 := by decide +kernel
theorem sw_at5 : pz_sw 33 856 0 24 #[115, 178, 201, 214, 247, 270, 283, 306, 319, 332, 355, 388, 401, 450, 483, 516, 539, 562, 615, 648, 671, 714, 747, 790, 823] (nI 5) = 303 := by decide +kernel
theorem sw_at6 : pz_sw 33 856 0 24 #[115, 178, 201, 214, 247, 270, 283, 306, 319, 332, 355, 388, 401, 450, 483, 516, 539, 562, 615, 648, 671, 714, 747, 790, 823] (nI 6) = 316 := by decide +kernel
theorem sw_at7 : pz_sw 33 856 0 24 #[115, 178, 201, 214, 247, 270, 283, 306, 319, 332, 355, 388, 401, 450, 483, 516, 539, 562, 615, 648, 671, 714, 747, 790, 823] (nI 7) = 339 := by decide +kernel
theorem sw_at8 : pz_sw 33 856 0 24 #[115, 178, 201, 214, 247, 270, 283, 306, 319, 332, 355, 388, 401, 450, 483, 516, 539, 562, 615, 648, 671, 714, 747, 790, 823] (nI 8) = 352 := by decide +kernel
theorem sw_at9 : pz_sw 33 856 0 24 #[115, 178, 201, 214, 247, 270, 283, 306, 319, 332, 355, 388, 401, 450, 483, 516, 539, 562, 615, 648, 671, 714, 747, 790, 823] (nI 9) = 365 := by decide +kernel
theorem sw_at10 : pz_sw 33 856 0 24 #[115, 178, 201, 214, 247, 270, 283, 306, 319, 332, 355, 388, 401, 450, 483, 516, 539, 562, 615, 648, 671, 714, 747, 790, 823] (nI 10) = 388 := by decide +kernel
theorem sw_at11 : pz_sw 33 856 0 24 #[115, 178, 201, 214, 247, 270, 283, 306, 319, 332, 355, 388, 401, 450, 483, 516, 539, 562, 615, 648, 671, 714, 747, 790, 823] (nI 11) = 421 := by decide +kernel
theorem sw_at12 : pz_sw 33 856 0 24 #[115, 178, 201, 214, 247, 270, 283, 306, 319, 332, 355, 388, 401, 450, 483, 516, 539, 562, 615, 648, 671, 714, 747, 790, 823] (nI 12) = 434 := by decide +kernel
theorem sw_at13 : pz_sw 33 856 0 24 #[115, 178, 201, 214, 247, 270, 283, 306, 319, 332, 355, 388, 401, 450, 483, 516, 539, 562, 615, 648, 671, 714, 747, 790, 823] (nI 13) = 483 := by decide +kernel
theorem sw_at14 : pz_sw 33 856 0 24 #[115, 178, 201, 214, 247, 270, 283, 306, 319, 332, 355, 388, 401, 450, 483, 516, 539, 562, 615, 648, 671, 714, 747, 790, 823] (nI 14) = 516 := by decide +kernel
theorem sw_at15 : pz_sw 33 856 0 24 #[115, 178, 201, 214, 247, 270, 283, 306, 319, 332, 355, 388, 401, 450, 483, 516, 539, 562, 615, 648, 671, 714, 747, 790, 823] (nI 15) = 549 := by decide +kernel
theorem sw_at16 : pz_sw 33 856 0 24 #[115, 178, 201, 214, 247, 270, 283, 306, 319, 332, 355, 388, 401, 450, 483, 516, 539, 562, 615, 648, 671, 714, 747, 790, 823] (nI 16) = 572 := by decide +kernel
theorem sw_at17 : pz_sw 33 856 0 24 #[115, 178, 201, 214, 247, 270, 283, 306, 319, 332, 355, 388, 401, 450, 483, 516, 539, 562, 615, 648, 671, 714, 747, 790, 823] (nI 17) = 595 := by decide +kernel
theorem sw_at18 : pz_sw 33 856 0 24 #[115, 178, 201, 214, 247, 270, 283, 306, 319, 332, 355, 388, 401, 450, 483, 516, 539, 562, 615, 648, 671, 714, 747, 790, 823] (nI 18) = 648 := by decide +kernel
theorem sw_at19 : pz_sw 33 856 0 24 #[115, 178, 201, 214, 247, 270, 283, 306, 319, 332, 355, 388, 401, 450, 483, 516, 539, 562, 615, 648, 671, 714, 747, 790, 823] (nI 19) = 681 := by decide +kernel
theorem sw_at20 : pz_sw 33 856 0 24 #[115, 178, 201, 214, 247, 270, 283, 306, 319, 332, 355, 388, 401, 450, 483, 516, 539, 562, 615, 648, 671, 714, 747, 790, 823] (nI 20) = 704 := by decide +kernel
theorem sw_at21 : pz_sw 33 856 0 24 #[115, 178, 201, 214, 247, 270, 283, 306, 319, 332, 355, 388, 401, 450, 483, 516, 539, 562, 615, 648, 671, 714, 747, 790, 823] (nI 21) = 747 := by decide +kernel
theorem sw_at22 : pz_sw 33 856 0 24 #[115, 178, 201, 214, 247, 270, 283, 306, 319, 332, 355, 388, 401, 450, 483, 516, 539, 562, 615, 648, 671, 714, 747, 790, 823] (nI 22) = 780 := by decide +kernel
theorem sw_at23 : pz_sw 33 856 0 24 #[115, 178, 201, 214, 247, 270, 283, 306, 319, 332, 355, 388, 401, 450, 483, 516, 539, 562, 615, 648, 671, 714, 747, 790, 823] (nI 23) = 823 := by decide +kernel
theorem sw_at24 : pz_sw 33 856 0 24 #[115, 178, 201, 214, 247, 270, 283, 306, 319, 332, 355, 388, 401, 450, 483, 516, 539, 562, 615, 648, 671, 714, 747, 790, 823] (nI 24) = 856 := by decide +kernel
theorem sw_df : ∀ v, v < 32 → 25 ≤ v → pz_sw 33 856 0 24 #[115, 178, 201, 214, 247, 270, 283, 306, 319, 332, 355, 388, 401, 450, 483, 516, 539, 562, 615, 648, 671, 714, 747, 790, 823] (nI v) = 889 := by decide +kernel
theorem lw_end {k : Nat} (hL : L ≤ 3072) (hk : 6 * k ≤ L) : (nI L - 6 < nI (6 * k)) ↔ L < 6 * k + 6 := by
  by_cases h6 : 6 ≤ L
  · rw [show (6 : Int32) = nI 6 from rfl, pk_sub h6]
    constructor
    · intro z
      refine Nat.not_le.mp (fun y => ?_)
      exact nI_nlt (show 6 * k ≤ L - 6 by omega) (by omega) z
    · intro z
      exact nI_lt (by omega) (by omega)
  · have k0 : k = 0 := by omega
    subst k0
    refine ⟨fun _ => by omega, fun _ => ?_⟩
    have : L = 0 ∨ L = 1 ∨ L = 2 ∨ L = 3 ∨ L = 4 ∨ L = 5 := by omega
    rcases this with rfl | rfl | rfl | rfl | rfl | rfl <;> decide
theorem lw_loop (hL : L ≤ 3072) (KQ : ∀ h' A' g', TWO L xs h' A' g' → Q (some (.int 1)) h') : ∀ n k h A g, L ≤ 6 * k + n → 6 * k ≤ L → TWO L xs h A g → (∃ l c p, GV A l c p) → wp (e + 30) mL_law 18 [.float 1000, .ref 0, .ref 138, .int (nI (6 * k))] [] h Q := by
  intro n
  induction n with
  | zero =>
    intro k h A g h1 h2 T _
    have eL := T.2.2.2.2.1
    rw [uL_law_18]
    simp only [uL_law_19, uL_law_19o, uL_law_19f, uL_law_20, uL_law_20s, uL_law_21, uL_law_23, uL_law_24, uL_law_27, uL_law_27o, uL_law_27f, uL_law_28, uL_law_29, uL_law_29s, uL_law_30, uL_law_32, uL_law_33, uL_law_895, uL_law_896, pq_C_sI, pq_C_sJ, pq_C_sR, pq_C_sA, pq_L_sI, pq_L_sJ, pq_L_sR, pq_L_sA, pq_I_sI, pq_I_sJ, pq_I_sR, pq_I_sA, pq_J_sI, pq_J_sJ, pq_J_sR, pq_J_sA, pq_R_sI, pq_R_sJ, pq_R_sR, pq_R_sA, pq_N_sI, pq_N_sJ, pq_N_sR, pq_N_sA, pq_S_sI, pq_S_sJ, pq_S_sR, pq_S_sA, pz_rf_s, pz_cut_i, pz_cut_r, pz_cut_n, pz_cut_f, pz_cut_u, pz_cut_o, true_and, and_true, true_or, or_true, Option.toList_some, Option.toList_none, List.cons_append, List.nil_append, Nat.add_left_cancel_iff, Nat.left_eq_add, Nat.add_eq_left, Nat.reduceEqDiff, if_true, if_false, ite_true, ite_false, false_and, and_false, false_or, or_false, reduceIte, reduceCtorEq, and_self, eL]
    rw [show Int32.ofNat L = nI L from rfl, if_pos ((lw_end hL h2).mpr (by omega))]
    exact KQ h A g T
  | succ n ih =>
    intro k h A g h1 h2 T ⟨l, c, p, I⟩
    have eL := T.2.2.2.2.1
    have eX := T.2.2.2.2.2.1
    by_cases q : L < 6 * k + 6
    · rw [uL_law_18]
      simp only [uL_law_19, uL_law_19o, uL_law_19f, uL_law_20, uL_law_20s, uL_law_21, uL_law_23, uL_law_24, uL_law_27, uL_law_27o, uL_law_27f, uL_law_28, uL_law_29, uL_law_29s, uL_law_30, uL_law_32, uL_law_33, uL_law_895, uL_law_896, pq_C_sI, pq_C_sJ, pq_C_sR, pq_C_sA, pq_L_sI, pq_L_sJ, pq_L_sR, pq_L_sA, pq_I_sI, pq_I_sJ, pq_I_sR, pq_I_sA, pq_J_sI, pq_J_sJ, pq_J_sR, pq_J_sA, pq_R_sI, pq_R_sJ, pq_R_sR, pq_R_sA, pq_N_sI, pq_N_sJ, pq_N_sR, pq_N_sA, pq_S_sI, pq_S_sJ, pq_S_sR, pq_S_sA, pz_rf_s, pz_cut_i, pz_cut_r, pz_cut_n, pz_cut_f, pz_cut_u, pz_cut_o, true_and, and_true, true_or, or_true, Option.toList_some, Option.toList_none, List.cons_append, List.nil_append, Nat.add_left_cancel_iff, Nat.left_eq_add, Nat.add_eq_left, Nat.reduceEqDiff, if_true, if_false, ite_true, ite_false, false_and, and_false, false_or, or_false, reduceIte, reduceCtorEq, and_self, eL]
      rw [show Int32.ofNat L = nI L from rfl, if_pos ((lw_end hL h2).mpr q)]
      exact KQ h A g T
    · have K : lwK e L xs Q (nI (6 * k)) := fun h' A' g' T' I' => by
        rw [show nI (6 * k) + 6 = nI (6 * (k + 1)) from nI_add _ 6]
        exact ih (k + 1) h' A' g' (by omega) (by omega) T' I'
      have i0 : pz_in (nI (6 * k)) L = true := pz_in_nI (by omega) (by omega)
      have i1 : pz_in (nI (6 * k) + 1) L = true := by rw [show nI (6 * k) + 1 = nI (6 * k + 1) from nI_add _ 1]; exact pz_in_nI (by omega) (by omega)
      have i2 : pz_in (nI (6 * k) + 2) L = true := by rw [show nI (6 * k) + 2 = nI (6 * k + 2) from nI_add _ 2]; exact pz_in_nI (by omega) (by omega)
      have i3 : pz_in (nI (6 * k) + 3) L = true := by rw [show nI (6 * k) + 3 = nI (6 * k + 3) from nI_add _ 3]; exact pz_in_nI (by omega) (by omega)
      have i4 : pz_in (nI (6 * k) + 4) L = true := by rw [show nI (6 * k) + 4 = nI (6 * k + 4) from nI_add _ 4]; exact pz_in_nI (by omega) (by omega)
      have i5 : pz_in (nI (6 * k) + 5) L = true := by rw [show nI (6 * k) + 5 = nI (6 * k + 5) from nI_add _ 5]; exact pz_in_nI (by omega) (by omega)
      rw [uL_law_18]
      simp only [uL_law_19, uL_law_19o, uL_law_19f, uL_law_20, uL_law_20s, uL_law_21, uL_law_23, uL_law_24, uL_law_27, uL_law_27o, uL_law_27f, uL_law_28, uL_law_29, uL_law_29s, uL_law_30, uL_law_32, uL_law_33, uL_law_895, uL_law_896, pq_C_sI, pq_C_sJ, pq_C_sR, pq_C_sA, pq_L_sI, pq_L_sJ, pq_L_sR, pq_L_sA, pq_I_sI, pq_I_sJ, pq_I_sR, pq_I_sA, pq_J_sI, pq_J_sJ, pq_J_sR, pq_J_sA, pq_R_sI, pq_R_sJ, pq_R_sR, pq_R_sA, pq_N_sI, pq_N_sJ, pq_N_sR, pq_N_sA, pq_S_sI, pq_S_sJ, pq_S_sR, pq_S_sA, pz_rf_s, pz_cut_i, pz_cut_r, pz_cut_n, pz_cut_f, pz_cut_u, pz_cut_o, true_and, and_true, true_or, or_true, Option.toList_some, Option.toList_none, List.cons_append, List.nil_append, Nat.add_left_cancel_iff, Nat.left_eq_add, Nat.add_eq_left, Nat.reduceEqDiff, if_true, if_false, ite_true, ite_false, false_and, and_false, false_or, or_false, reduceIte, reduceCtorEq, and_self, eL, eX, i0]
      rw [show Int32.ofNat L = nI L from rfl, if_neg (fun z => q ((lw_end hL h2).mp z))]
      rw [show xs (nI (6 * k)).toNatClampNeg &&& 31 = nI ((xs (nI (6 * k)).toNatClampNeg).toBitVec.toNat % 2 ^ 5) from pk_and _ 5 (by decide)]
      have hv : (xs (nI (6 * k)).toNatClampNeg).toBitVec.toNat % 2 ^ 5 < 32 := Nat.mod_lt _ (by decide)
      generalize (xs (nI (6 * k)).toNatClampNeg).toBitVec.toNat % 2 ^ 5 = v at hv
      by_cases hd : 25 ≤ v
      · rw [sw_df v hv hd]
        simp only [uL_law_889, uL_law_892, pq_C_sI, pq_C_sJ, pq_C_sR, pq_C_sA, pq_L_sI, pq_L_sJ, pq_L_sR, pq_L_sA, pq_I_sI, pq_I_sJ, pq_I_sR, pq_I_sA, pq_J_sI, pq_J_sJ, pq_J_sR, pq_J_sA, pq_R_sI, pq_R_sJ, pq_R_sR, pq_R_sA, pq_N_sI, pq_N_sJ, pq_N_sR, pq_N_sA, pq_S_sI, pq_S_sJ, pq_S_sR, pq_S_sA, pz_rf_s, pz_cut_i, pz_cut_r, pz_cut_n, pz_cut_f, pz_cut_u, pz_cut_o, true_and, and_true, true_or, or_true, Option.toList_some, Option.toList_none, List.cons_append, List.nil_append, Nat.add_left_cancel_iff, Nat.left_eq_add, Nat.add_eq_left, Nat.reduceEqDiff, if_true, if_false, ite_true, ite_false, false_and, and_false, false_or, or_false, reduceIte, reduceCtorEq, and_self]
        exact K h A g T ⟨l, c, p, I⟩
      · have hc : v = 0 ∨ v = 1 ∨ v = 2 ∨ v = 3 ∨ v = 4 ∨ v = 5 ∨ v = 6 ∨ v = 7 ∨ v = 8 ∨ v = 9 ∨ v = 10 ∨ v = 11 ∨ v = 12 ∨ v = 13 ∨ v = 14 ∨ v = 15 ∨ v = 16 ∨ v = 17 ∨ v = 18 ∨ v = 19 ∨ v = 20 ∨ v = 21 ∨ v = 22 ∨ v = 23 ∨ v = 24 := by omega
        rcases hc with rfl | rfl | rfl | rfl | rfl | rfl | rfl | rfl | rfl | rfl | rfl | rfl | rfl | rfl | rfl | rfl | rfl | rfl | rfl | rfl | rfl | rfl | rfl | rfl | rfl
        · rw [sw_at0]
          exact lw_0 T I i1 i2 i3 i4 i5 K
        · rw [sw_at1]
          exact lw_1 T I i1 i2 i3 i4 i5 K
        · rw [sw_at2]
          exact lw_2 T I i1 i2 i3 i4 i5 K
        · rw [sw_at3]
          exact lw_3 T I i1 i2 i3 i4 i5 K
        · rw [sw_at4]
          exact lw_4 T I i1 i2 i3 i4 i5 K
        · rw [sw_at5]
          exact lw_5 T I i1 i2 i3 i4 i5 K
        · rw [sw_at6]
          exact lw_6 T I i1 i2 i3 i4 i5 K
        · rw [sw_at7]
          exact lw_7 T I i1 i2 i3 i4 i5 K
        · rw [sw_at8]
          exact lw_8 T I i1 i2 i3 i4 i5 K
        · rw [sw_at9]
          exact lw_9 T I i1 i2 i3 i4 i5 K
        · rw [sw_at10]
          exact lw_10 T I i1 i2 i3 i4 i5 K
        · rw [sw_at11]
          exact lw_11 T I i1 i2 i3 i4 i5 K
        · rw [sw_at12]
          exact lw_12 T I i1 i2 i3 i4 i5 K
        · rw [sw_at13]
          exact lw_13 T I i1 i2 i3 i4 i5 K
        · rw [sw_at14]
          exact lw_14 T I i1 i2 i3 i4 i5 K
        · rw [sw_at15]
          exact lw_15 T I i1 i2 i3 i4 i5 K
        · rw [sw_at16]
          exact lw_16 T I i1 i2 i3 i4 i5 K
        · rw [sw_at17]
          exact lw_17 T I i1 i2 i3 i4 i5 K
        · rw [sw_at18]
          exact lw_18 T I i1 i2 i3 i4 i5 K
        · rw [sw_at19]
          exact lw_19 T I i1 i2 i3 i4 i5 K
        · rw [sw_at20]
          exact lw_20 T I i1 i2 i3 i4 i5 K
        · rw [sw_at21]
          exact lw_21 T I i1 i2 i3 i4 i5 K
        · rw [sw_at22]
          exact lw_22 T I i1 i2 i3 i4 i5 K
        · rw [sw_at23]
          exact lw_23 T I i1 i2 i3 i4 i5 K
        · rw [sw_at24]
          exact lw_24 T I i1 i2 i3 i4 i5 K
end
