/-! ===== the reference: natural, isName ===== -/
def natO (x : Nat → Nat) : Option Nat → Option Nat
  | none => none
  | some p => if x p = 105 ∧ x (p + 1) ≠ 45 then some (vlk x (p + 1) (nuEnd x p - 1 - (p + 1))) else none
def isNm (x : Nat → Nat) : Option Nat → Bool
  | none => false
  | some p => decide (dg (x p)) && (decide (1 ≤ stN x p) && decide (stN x p ≤ 60))
section
variable {d : Nat} {h : PzH} {Q : Option Value → PzH → Prop} {mo : Nat} {g : Nat → Nat → Int32} {x : Nat → Nat} {n : Nat} {p : Nat}
theorem natO_s : natO x (some p) = if x p = 105 ∧ x (p + 1) ≠ 45 then some (vlk x (p + 1) (nuEnd x p - 1 - (p + 1))) else none := rfl
theorem isNm_s : isNm x (some p) = (decide (dg (x p)) && (decide (1 ≤ stN x p) && decide (stN x p ≤ 60))) := rfl
theorem VL_kind {e : Nat} (hV : VL x n none p e) : (dg (x p) ∧ stF x n p = none ∧ e = stEnd x p) ∨ (x p = 105 ∧ nuF x p = none ∧ e = nuEnd x p) ∨ (x p = 108 ∨ x p = 100) := by
  obtain ⟨f, dp, h1, h2⟩ := hV
  cases f with
  | zero => exact absurd h2 (by simp [pv])
  | succ f =>
    rw [pv] at h2
    by_cases a1 : dg (x p)
    · rw [if_pos a1] at h2
      cases hs : stF x n p with
      | none =>
        rw [hs] at h2
        exact Or.inl ⟨a1, rfl, (Except.ok.inj h2).symm⟩
      | some w' =>
        rw [hs] at h2
        exact absurd h2 (by simp)
    · rw [if_neg a1] at h2
      by_cases a2 : x p = 105
      · rw [if_pos a2] at h2
        cases hs : nuF x p with
        | none =>
          rw [hs] at h2
          exact Or.inr (Or.inl ⟨a2, rfl, (Except.ok.inj h2).symm⟩)
        | some w' =>
          rw [hs] at h2
          exact absurd h2 (by simp)
      · rw [if_neg a2] at h2
        by_cases a3 : (x p = 108 ∨ x p = 100) ∧ dp < 8
        · exact Or.inr (Or.inr a3.1)
        · rw [if_neg a3] at h2
          exact absurd h2 (by simp)
theorem VL_128 {e : Nat} (hV : VL x n none p e) : x p < 128 := by
  rcases VL_kind hV with ⟨a, _⟩ | ⟨a, _⟩ | a
  · exact dg_lt a
  · omega
  · omega
theorem VL_p {e : Nat} (T : TX (g 1) n x) (hV : VL x n none p e) : p < n := TX_lt T (by have := VL_128 hV; omega)
theorem fnd_VL {k : Nat} : ∀ f F dp ky q e v, f ≤ F → f ≤ 2 * n + 1 → pv x n f (some (true, ky)) dp q = .ok e → fnd x n k F q = some v → ∃ u, VL x n none v u := by
  intro f
  induction f with
  | zero =>
    intro F dp ky q e v _ _ h1
    exact absurd h1 (by simp [pv])
  | succ f ih =>
    intro F dp ky q e v hF hf h1 K
    obtain ⟨F, rfl⟩ : ∃ F', F = F' + 1 := ⟨F - 1, by omega⟩
    rw [pv_i] at h1
    rw [fnd] at K
    by_cases a1 : x q = 101
    · rw [if_pos a1] at K
      exact absurd K (by simp)
    · rw [if_neg a1, if_pos rfl] at h1
      rw [if_neg a1] at K
      cases hs : stF x n q with
      | some w' =>
        rw [hs] at h1
        exact absurd h1 (by simp)
      | none =>
        rw [hs] at h1
        simp only at h1
        by_cases a3 : rsk x ky q = true
        · rw [if_pos a3] at h1
          cases q1 : pv x n f none dp (stEnd x q) with
          | error w' =>
            rw [q1] at h1
            exact absurd h1 (by simp)
          | ok u1 =>
            rw [q1] at h1
            have hV : VL x n none (stEnd x q) u1 := ⟨f, dp, by omega, q1⟩
            by_cases a4 : isK x q k = true
            · rw [if_pos a4] at K
              have := Option.some.inj K
              subst this
              exact ⟨u1, hV⟩
            · rw [if_neg a4, VL_bhd hV] at K
              exact ih F dp _ u1 e v (by omega) (by omega) h1 K
        · rw [if_neg a3] at h1
          exact absurd h1 (by simp)
theorem inK_VL {k e v : Nat} (hx : x p = 100) (hV : VL x n none p e) (h : inK x n p k = some v) : ∃ u, VL x n none v u := by
  obtain ⟨f, dp, h1, h2⟩ := VL_dict hx hV
  exact fnd_VL f (2 * n + 1) dp _ (p + 1) e v (by omega) (by omega) h2 h
theorem nu_dr (hx : x (p + 1) ≠ 45) (h : nuF x p = none) : p + 2 < nuEnd x p ∧ nuEnd x p ≤ p + 11 ∧ DR x (p + 1) (nuEnd x p - 1 - (p + 1)) := by
  unfold nuF at h
  rw [if_neg (fun r => hx r.1)] at h
  have e1 : nuQ x p = p + 1 := if_neg hx
  by_cases h1 : dgo x (nuQ x p) 9 101 = true
  · obtain ⟨a1, a2, a3, a4⟩ := dgo_SK (by omega) h1
    unfold nuEnd
    rw [e1] at a1 a2 a3 ⊢
    refine ⟨by omega, by omega, ?_⟩
    rw [Nat.add_sub_cancel]
    exact a3
  · rw [if_neg h1] at h
    exact absurd h (by simp)
theorem natO_lt {r : Option Nat} {v : Nat} (hr : ∀ q, r = some q → ∃ u, VL x n none q u) (h : natO x r = some v) : v < 1000000000 := by
  cases r with
  | none => exact absurd h (by simp [natO])
  | some p =>
    obtain ⟨u, hV⟩ := hr p rfl
    rw [natO_s] at h
    by_cases h1 : x p = 105 ∧ x (p + 1) ≠ 45
    · rw [if_pos h1] at h
      rcases VL_kind hV with ⟨a, _⟩ | ⟨_, a, _⟩ | a
      · unfold dg at a
        omega
      · obtain ⟨b1, b2, b3⟩ := nu_dr h1.2 a
        have := vlk_lt b3
        have := @pow_9 (nuEnd x p - 1 - (p + 1)) (by omega)
        have := Option.some.inj h
        omega
      · omega
    · rw [if_neg h1] at h
      exact absurd h (by simp)
theorem g_natural (H : MO h mo) (T : TX (g 1) n x) {r : Option Nat} (hr : ∀ q, r = some q → ∃ u, VL x n none q u) (K : Q (some (.int (kyOf (natO x r)))) (mh h mo g)) : pz_M (d + 4) mX10_natural [.ref mo, .int (kyOf r)] (mh h mo g) Q := by
  have hn := T.1
  cases r with
  | none =>
    rw [show kyOf none = -1 from rfl]
    simp only [enX10_natural, uX10_natural_0, uX10_natural_1, uX10_natural_4, uX10_natural_4o, uX10_natural_4f, uX10_natural_5, uX10_natural_8, uX10_natural_9, uX10_natural_10, uX10_natural_12, uX10_natural_15, uX10_natural_15o, uX10_natural_15f, uX10_natural_16, uX10_natural_19, uX10_natural_20, uX10_natural_21, uX10_natural_22, uX10_natural_23, uX10_natural_25, uX10_natural_28, uX10_natural_29, uX10_natural_32, uX10_natural_32o, uX10_natural_32f, uX10_natural_33, uX10_natural_34, uX10_natural_35, uX10_natural_36, uX10_natural_36o, uX10_natural_36f, uX10_natural_37, uX10_natural_38, uX10_natural_41, uX10_natural_42, uX10_natural_43, uX10_natural_46, mo_C H, mo_R_tape H, mo_C_tape H, mo_L_tape H, pq_C_sI, pq_C_sJ, pq_C_sR, pq_C_sA, pq_L_sI, pq_L_sJ, pq_L_sR, pq_L_sA, pq_I_sI, pq_I_sJ, pq_I_sR, pq_I_sA, pq_J_sI, pq_J_sJ, pq_J_sR, pq_J_sA, pq_R_sI, pq_R_sJ, pq_R_sR, pq_R_sA, pq_N_sI, pq_N_sJ, pq_N_sR, pq_N_sA, pq_S_sI, pq_S_sJ, pq_S_sR, pq_S_sA, pz_rf_s, pz_cut_i, pz_cut_r, pz_cut_n, pz_cut_f, pz_cut_u, pz_cut_o, true_and, and_true, true_or, or_true, Option.toList_some, Option.toList_none, List.cons_append, List.nil_append, Nat.add_left_cancel_iff, Nat.left_eq_add, Nat.add_eq_left, Nat.reduceEqDiff, if_true, if_false, ite_true, ite_false, false_and, and_false, false_or, or_false, reduceIte, reduceCtorEq, and_self, mh_C, mh_L, mh_R, mh_J, mh_I0, mh_I, mh_Ir, mh_sI0, mh_sI, mh_sA, gu_11, gu_22, gu_r, gu_21s, gu_21c, gu_22s, gu_11s, gu_11c, gu_22c, Nat.reduceLeDiff, Nat.reduceLT, ne_eq, not_false_eq_true, not_true_eq_false, Nat.reduceEqDiff, Nat.lt_irrefl, eq_self, z_4, z_5, z_7, z_8, z_10, z_16, z_20, z_64]
    rw [if_pos (by decide)]
    exact K
  | some p =>
    obtain ⟨u, hV⟩ := hr p rfl
    have hp := VL_p T hV
    obtain ⟨t1, t2⟩ := (T.2 p).1 hp
    rw [show kyOf (some p) = nI p from rfl]
    simp only [enX10_natural, uX10_natural_0, uX10_natural_1, uX10_natural_4, uX10_natural_4o, uX10_natural_4f, uX10_natural_5, uX10_natural_8, uX10_natural_9, uX10_natural_10, uX10_natural_12, uX10_natural_15, uX10_natural_15o, uX10_natural_15f, uX10_natural_16, uX10_natural_19, uX10_natural_20, uX10_natural_21, uX10_natural_22, uX10_natural_23, uX10_natural_25, uX10_natural_28, uX10_natural_29, uX10_natural_32, uX10_natural_32o, uX10_natural_32f, uX10_natural_33, uX10_natural_34, uX10_natural_35, uX10_natural_36, uX10_natural_36o, uX10_natural_36f, uX10_natural_37, uX10_natural_38, uX10_natural_41, uX10_natural_42, uX10_natural_43, uX10_natural_46, mo_C H, mo_R_tape H, mo_C_tape H, mo_L_tape H, pq_C_sI, pq_C_sJ, pq_C_sR, pq_C_sA, pq_L_sI, pq_L_sJ, pq_L_sR, pq_L_sA, pq_I_sI, pq_I_sJ, pq_I_sR, pq_I_sA, pq_J_sI, pq_J_sJ, pq_J_sR, pq_J_sA, pq_R_sI, pq_R_sJ, pq_R_sR, pq_R_sA, pq_N_sI, pq_N_sJ, pq_N_sR, pq_N_sA, pq_S_sI, pq_S_sJ, pq_S_sR, pq_S_sA, pz_rf_s, pz_cut_i, pz_cut_r, pz_cut_n, pz_cut_f, pz_cut_u, pz_cut_o, true_and, and_true, true_or, or_true, Option.toList_some, Option.toList_none, List.cons_append, List.nil_append, Nat.add_left_cancel_iff, Nat.left_eq_add, Nat.add_eq_left, Nat.reduceEqDiff, if_true, if_false, ite_true, ite_false, false_and, and_false, false_or, or_false, reduceIte, reduceCtorEq, and_self, mh_C, mh_L, mh_R, mh_J, mh_I0, mh_I, mh_Ir, mh_sI0, mh_sI, mh_sA, gu_11, gu_22, gu_r, gu_21s, gu_21c, gu_22s, gu_11s, gu_11c, gu_22c, Nat.reduceLeDiff, Nat.reduceLT, ne_eq, not_false_eq_true, not_true_eq_false, Nat.reduceEqDiff, Nat.lt_irrefl, eq_self, z_4, z_5, z_7, z_8, z_10, z_16, z_20, z_64]
    rw [if_neg (nI_pos (by omega))]
    simp (disch := omega) only [nI_1, nI_clamp, pz_in_nI, true_and]
    rw [natO_s] at K
    rw [t1]
    by_cases h1 : x p = 105
    · rw [if_neg (show ¬ ¬ b8 (x p) = 105 from fun r => r ((b8_nI _ t2 105 (by omega)).mpr h1))]
      rcases VL_kind hV with ⟨a, _⟩ | ⟨_, a, a5⟩ | a
      · unfold dg at a
        omega
      · obtain ⟨n1, n2⟩ := nuF_ok T a
        have n3 := (nuF_e h1 a).2.2
        obtain ⟨t3, t4⟩ := (T.2 (p + 1)).1 (by omega)
        simp (disch := omega) only [nI_1, nI_clamp, pz_in_nI, true_and]
        rw [t3]
        by_cases h2 : x (p + 1) = 45
        · rw [if_neg (show ¬ ¬ b8 (x (p + 1)) = 45 from fun r => r ((b8_nI _ t4 45 (by omega)).mpr h2))]
          rw [if_neg (show ¬ (x p = 105 ∧ x (p + 1) ≠ 45) from fun r => r.2 h2)] at K
          exact K
        · rw [if_pos (show ¬ b8 (x (p + 1)) = 45 from fun r => h2 ((b8_nI _ t4 45 (by omega)).mp r))]
          rw [if_pos ⟨h1, h2⟩] at K
          obtain ⟨b1, b2, b3⟩ := nu_dr h2 a
          refine g_behind H T hV ?_
          simp only [enX10_natural, uX10_natural_0, uX10_natural_1, uX10_natural_4, uX10_natural_4o, uX10_natural_4f, uX10_natural_5, uX10_natural_8, uX10_natural_9, uX10_natural_10, uX10_natural_12, uX10_natural_15, uX10_natural_15o, uX10_natural_15f, uX10_natural_16, uX10_natural_19, uX10_natural_20, uX10_natural_21, uX10_natural_22, uX10_natural_23, uX10_natural_25, uX10_natural_28, uX10_natural_29, uX10_natural_32, uX10_natural_32o, uX10_natural_32f, uX10_natural_33, uX10_natural_34, uX10_natural_35, uX10_natural_36, uX10_natural_36o, uX10_natural_36f, uX10_natural_37, uX10_natural_38, uX10_natural_41, uX10_natural_42, uX10_natural_43, uX10_natural_46, mo_C H, mo_R_tape H, mo_C_tape H, mo_L_tape H, pq_C_sI, pq_C_sJ, pq_C_sR, pq_C_sA, pq_L_sI, pq_L_sJ, pq_L_sR, pq_L_sA, pq_I_sI, pq_I_sJ, pq_I_sR, pq_I_sA, pq_J_sI, pq_J_sJ, pq_J_sR, pq_J_sA, pq_R_sI, pq_R_sJ, pq_R_sR, pq_R_sA, pq_N_sI, pq_N_sJ, pq_N_sR, pq_N_sA, pq_S_sI, pq_S_sJ, pq_S_sR, pq_S_sA, pz_rf_s, pz_cut_i, pz_cut_r, pz_cut_n, pz_cut_f, pz_cut_u, pz_cut_o, true_and, and_true, true_or, or_true, Option.toList_some, Option.toList_none, List.cons_append, List.nil_append, Nat.add_left_cancel_iff, Nat.left_eq_add, Nat.add_eq_left, Nat.reduceEqDiff, if_true, if_false, ite_true, ite_false, false_and, and_false, false_or, or_false, reduceIte, reduceCtorEq, and_self, mh_C, mh_L, mh_R, mh_J, mh_I0, mh_I, mh_Ir, mh_sI0, mh_sI, mh_sA, gu_11, gu_22, gu_r, gu_21s, gu_21c, gu_22s, gu_11s, gu_11c, gu_22c, Nat.reduceLeDiff, Nat.reduceLT, ne_eq, not_false_eq_true, not_true_eq_false, Nat.reduceEqDiff, Nat.lt_irrefl, eq_self, z_4, z_5, z_7, z_8, z_10, z_16, z_20, z_64]
          rw [a5, show (1 : Int32) = nI 1 from rfl, pk_sub (by omega), g_valueOf H T (k := nuEnd x p - 1 - (p + 1)) (by omega) (by omega) b3 (by omega)]
          simp only [enX10_natural, uX10_natural_0, uX10_natural_1, uX10_natural_4, uX10_natural_4o, uX10_natural_4f, uX10_natural_5, uX10_natural_8, uX10_natural_9, uX10_natural_10, uX10_natural_12, uX10_natural_15, uX10_natural_15o, uX10_natural_15f, uX10_natural_16, uX10_natural_19, uX10_natural_20, uX10_natural_21, uX10_natural_22, uX10_natural_23, uX10_natural_25, uX10_natural_28, uX10_natural_29, uX10_natural_32, uX10_natural_32o, uX10_natural_32f, uX10_natural_33, uX10_natural_34, uX10_natural_35, uX10_natural_36, uX10_natural_36o, uX10_natural_36f, uX10_natural_37, uX10_natural_38, uX10_natural_41, uX10_natural_42, uX10_natural_43, uX10_natural_46, mo_C H, mo_R_tape H, mo_C_tape H, mo_L_tape H, pq_C_sI, pq_C_sJ, pq_C_sR, pq_C_sA, pq_L_sI, pq_L_sJ, pq_L_sR, pq_L_sA, pq_I_sI, pq_I_sJ, pq_I_sR, pq_I_sA, pq_J_sI, pq_J_sJ, pq_J_sR, pq_J_sA, pq_R_sI, pq_R_sJ, pq_R_sR, pq_R_sA, pq_N_sI, pq_N_sJ, pq_N_sR, pq_N_sA, pq_S_sI, pq_S_sJ, pq_S_sR, pq_S_sA, pz_rf_s, pz_cut_i, pz_cut_r, pz_cut_n, pz_cut_f, pz_cut_u, pz_cut_o, true_and, and_true, true_or, or_true, Option.toList_some, Option.toList_none, List.cons_append, List.nil_append, Nat.add_left_cancel_iff, Nat.left_eq_add, Nat.add_eq_left, Nat.reduceEqDiff, if_true, if_false, ite_true, ite_false, false_and, and_false, false_or, or_false, reduceIte, reduceCtorEq, and_self, mh_C, mh_L, mh_R, mh_J, mh_I0, mh_I, mh_Ir, mh_sI0, mh_sI, mh_sA, gu_11, gu_22, gu_r, gu_21s, gu_21c, gu_22s, gu_11s, gu_11c, gu_22c, Nat.reduceLeDiff, Nat.reduceLT, ne_eq, not_false_eq_true, not_true_eq_false, Nat.reduceEqDiff, Nat.lt_irrefl, eq_self, z_4, z_5, z_7, z_8, z_10, z_16, z_20, z_64]
          exact K
      · omega
    · rw [if_pos (show ¬ b8 (x p) = 105 from fun r => h1 ((b8_nI _ t2 105 (by omega)).mp r))]
      rw [if_neg (show ¬ (x p = 105 ∧ x (p + 1) ≠ 45) from fun r => h1 r.1)] at K
      exact K
theorem g_isName (H : MO h mo) (T : TX (g 1) n x) {r : Option Nat} (hr : ∀ q, r = some q → ∃ u, VL x n none q u) : pz_M (d + 3) mX10_isName [.ref mo, .int (kyOf r)] (mh h mo g) Q ↔ Q (some (.int (if isNm x r = true then 1 else 0))) (mh h mo g) := by
  have hn := T.1
  cases r with
  | none =>
    rw [show kyOf none = -1 from rfl]
    simp only [enX10_isName, uX10_isName_0, uX10_isName_1, uX10_isName_4, uX10_isName_4o, uX10_isName_4f, uX10_isName_5, uX10_isName_8, uX10_isName_9, uX10_isName_10, uX10_isName_13, uX10_isName_16, uX10_isName_16o, uX10_isName_16f, uX10_isName_17, uX10_isName_18, uX10_isName_21, uX10_isName_22, uX10_isName_25, uX10_isName_25o, uX10_isName_25f, uX10_isName_26, uX10_isName_27, uX10_isName_30, uX10_isName_32, uX10_isName_35, uX10_isName_36, uX10_isName_39, uX10_isName_40, mo_C H, mo_R_tape H, mo_C_tape H, mo_L_tape H, pq_C_sI, pq_C_sJ, pq_C_sR, pq_C_sA, pq_L_sI, pq_L_sJ, pq_L_sR, pq_L_sA, pq_I_sI, pq_I_sJ, pq_I_sR, pq_I_sA, pq_J_sI, pq_J_sJ, pq_J_sR, pq_J_sA, pq_R_sI, pq_R_sJ, pq_R_sR, pq_R_sA, pq_N_sI, pq_N_sJ, pq_N_sR, pq_N_sA, pq_S_sI, pq_S_sJ, pq_S_sR, pq_S_sA, pz_rf_s, pz_cut_i, pz_cut_r, pz_cut_n, pz_cut_f, pz_cut_u, pz_cut_o, true_and, and_true, true_or, or_true, Option.toList_some, Option.toList_none, List.cons_append, List.nil_append, Nat.add_left_cancel_iff, Nat.left_eq_add, Nat.add_eq_left, Nat.reduceEqDiff, if_true, if_false, ite_true, ite_false, false_and, and_false, false_or, or_false, reduceIte, reduceCtorEq, and_self, mh_C, mh_L, mh_R, mh_J, mh_I0, mh_I, mh_Ir, mh_sI0, mh_sI, mh_sA, gu_11, gu_22, gu_r, gu_21s, gu_21c, gu_22s, gu_11s, gu_11c, gu_22c, Nat.reduceLeDiff, Nat.reduceLT, ne_eq, not_false_eq_true, not_true_eq_false, Nat.reduceEqDiff, Nat.lt_irrefl, eq_self, z_4, z_5, z_7, z_8, z_10, z_16, z_20, z_64]
    rw [if_pos (by decide)]
    rfl
  | some p =>
    obtain ⟨u, hV⟩ := hr p rfl
    have hp := VL_p T hV
    obtain ⟨t1, t2⟩ := (T.2 p).1 hp
    have t3 := VL_128 hV
    have e1 : b8 (x p) = bI (x p) := by rw [b8_lo _ t3, bI, if_pos t2]
    rw [show kyOf (some p) = nI p from rfl]
    simp only [enX10_isName, uX10_isName_0, uX10_isName_1, uX10_isName_4, uX10_isName_4o, uX10_isName_4f, uX10_isName_5, uX10_isName_8, uX10_isName_9, uX10_isName_10, uX10_isName_13, uX10_isName_16, uX10_isName_16o, uX10_isName_16f, uX10_isName_17, uX10_isName_18, uX10_isName_21, uX10_isName_22, uX10_isName_25, uX10_isName_25o, uX10_isName_25f, uX10_isName_26, uX10_isName_27, uX10_isName_30, uX10_isName_32, uX10_isName_35, uX10_isName_36, uX10_isName_39, uX10_isName_40, mo_C H, mo_R_tape H, mo_C_tape H, mo_L_tape H, pq_C_sI, pq_C_sJ, pq_C_sR, pq_C_sA, pq_L_sI, pq_L_sJ, pq_L_sR, pq_L_sA, pq_I_sI, pq_I_sJ, pq_I_sR, pq_I_sA, pq_J_sI, pq_J_sJ, pq_J_sR, pq_J_sA, pq_R_sI, pq_R_sJ, pq_R_sR, pq_R_sA, pq_N_sI, pq_N_sJ, pq_N_sR, pq_N_sA, pq_S_sI, pq_S_sJ, pq_S_sR, pq_S_sA, pz_rf_s, pz_cut_i, pz_cut_r, pz_cut_n, pz_cut_f, pz_cut_u, pz_cut_o, true_and, and_true, true_or, or_true, Option.toList_some, Option.toList_none, List.cons_append, List.nil_append, Nat.add_left_cancel_iff, Nat.left_eq_add, Nat.add_eq_left, Nat.reduceEqDiff, if_true, if_false, ite_true, ite_false, false_and, and_false, false_or, or_false, reduceIte, reduceCtorEq, and_self, mh_C, mh_L, mh_R, mh_J, mh_I0, mh_I, mh_Ir, mh_sI0, mh_sI, mh_sA, gu_11, gu_22, gu_r, gu_21s, gu_21c, gu_22s, gu_11s, gu_11c, gu_22c, Nat.reduceLeDiff, Nat.reduceLT, ne_eq, not_false_eq_true, not_true_eq_false, Nat.reduceEqDiff, Nat.lt_irrefl, eq_self, z_4, z_5, z_7, z_8, z_10, z_16, z_20, z_64]
    rw [if_neg (nI_pos (by omega))]
    simp (disch := omega) only [nI_1, nI_clamp, pz_in_nI, true_and]
    rw [t1, e1, g_isDigit (TX_le T p)]
    rw [isNm_s]
    simp only [enX10_isName, uX10_isName_0, uX10_isName_1, uX10_isName_4, uX10_isName_4o, uX10_isName_4f, uX10_isName_5, uX10_isName_8, uX10_isName_9, uX10_isName_10, uX10_isName_13, uX10_isName_16, uX10_isName_16o, uX10_isName_16f, uX10_isName_17, uX10_isName_18, uX10_isName_21, uX10_isName_22, uX10_isName_25, uX10_isName_25o, uX10_isName_25f, uX10_isName_26, uX10_isName_27, uX10_isName_30, uX10_isName_32, uX10_isName_35, uX10_isName_36, uX10_isName_39, uX10_isName_40, mo_C H, mo_R_tape H, mo_C_tape H, mo_L_tape H, pq_C_sI, pq_C_sJ, pq_C_sR, pq_C_sA, pq_L_sI, pq_L_sJ, pq_L_sR, pq_L_sA, pq_I_sI, pq_I_sJ, pq_I_sR, pq_I_sA, pq_J_sI, pq_J_sJ, pq_J_sR, pq_J_sA, pq_R_sI, pq_R_sJ, pq_R_sR, pq_R_sA, pq_N_sI, pq_N_sJ, pq_N_sR, pq_N_sA, pq_S_sI, pq_S_sJ, pq_S_sR, pq_S_sA, pz_rf_s, pz_cut_i, pz_cut_r, pz_cut_n, pz_cut_f, pz_cut_u, pz_cut_o, true_and, and_true, true_or, or_true, Option.toList_some, Option.toList_none, List.cons_append, List.nil_append, Nat.add_left_cancel_iff, Nat.left_eq_add, Nat.add_eq_left, Nat.reduceEqDiff, if_true, if_false, ite_true, ite_false, false_and, and_false, false_or, or_false, reduceIte, reduceCtorEq, and_self, mh_C, mh_L, mh_R, mh_J, mh_I0, mh_I, mh_Ir, mh_sI0, mh_sI, mh_sA, gu_11, gu_22, gu_r, gu_21s, gu_21c, gu_22s, gu_11s, gu_11c, gu_22c, Nat.reduceLeDiff, Nat.reduceLT, ne_eq, not_false_eq_true, not_true_eq_false, Nat.reduceEqDiff, Nat.lt_irrefl, eq_self, z_4, z_5, z_7, z_8, z_10, z_16, z_20, z_64]
    by_cases h1 : dg (x p)
    · rw [if_pos h1, if_neg (by decide), decide_eq_true h1, Bool.true_and]
      rcases VL_kind hV with ⟨_, a, _⟩ | ⟨a, _⟩ | a
      · obtain ⟨s1, s2, s3⟩ := stF_SK a
        rw [g_textSize H T s1, show vlk x p (stE x p - p) = stN x p from rfl]
        simp only [enX10_isName, uX10_isName_0, uX10_isName_1, uX10_isName_4, uX10_isName_4o, uX10_isName_4f, uX10_isName_5, uX10_isName_8, uX10_isName_9, uX10_isName_10, uX10_isName_13, uX10_isName_16, uX10_isName_16o, uX10_isName_16f, uX10_isName_17, uX10_isName_18, uX10_isName_21, uX10_isName_22, uX10_isName_25, uX10_isName_25o, uX10_isName_25f, uX10_isName_26, uX10_isName_27, uX10_isName_30, uX10_isName_32, uX10_isName_35, uX10_isName_36, uX10_isName_39, uX10_isName_40, mo_C H, mo_R_tape H, mo_C_tape H, mo_L_tape H, pq_C_sI, pq_C_sJ, pq_C_sR, pq_C_sA, pq_L_sI, pq_L_sJ, pq_L_sR, pq_L_sA, pq_I_sI, pq_I_sJ, pq_I_sR, pq_I_sA, pq_J_sI, pq_J_sJ, pq_J_sR, pq_J_sA, pq_R_sI, pq_R_sJ, pq_R_sR, pq_R_sA, pq_N_sI, pq_N_sJ, pq_N_sR, pq_N_sA, pq_S_sI, pq_S_sJ, pq_S_sR, pq_S_sA, pz_rf_s, pz_cut_i, pz_cut_r, pz_cut_n, pz_cut_f, pz_cut_u, pz_cut_o, true_and, and_true, true_or, or_true, Option.toList_some, Option.toList_none, List.cons_append, List.nil_append, Nat.add_left_cancel_iff, Nat.left_eq_add, Nat.add_eq_left, Nat.reduceEqDiff, if_true, if_false, ite_true, ite_false, false_and, and_false, false_or, or_false, reduceIte, reduceCtorEq, and_self, mh_C, mh_L, mh_R, mh_J, mh_I0, mh_I, mh_Ir, mh_sI0, mh_sI, mh_sA, gu_11, gu_22, gu_r, gu_21s, gu_21c, gu_22s, gu_11s, gu_11c, gu_22c, Nat.reduceLeDiff, Nat.reduceLT, ne_eq, not_false_eq_true, not_true_eq_false, Nat.reduceEqDiff, Nat.lt_irrefl, eq_self, z_4, z_5, z_7, z_8, z_10, z_16, z_20, z_64]
        by_cases h2 : stN x p < 1
        · rw [if_pos (show nI (stN x p) < 1 from nI_lt (b := 1) h2 (by omega)), decide_eq_false (by omega), Bool.false_and]
          rfl
        · rw [if_neg (show ¬ nI (stN x p) < 1 from nI_nlt (b := 1) (by omega) (by omega)), decide_eq_true (show 1 ≤ stN x p by omega), Bool.true_and, g_textSize H T s1, show vlk x p (stE x p - p) = stN x p from rfl]
          simp only [enX10_isName, uX10_isName_0, uX10_isName_1, uX10_isName_4, uX10_isName_4o, uX10_isName_4f, uX10_isName_5, uX10_isName_8, uX10_isName_9, uX10_isName_10, uX10_isName_13, uX10_isName_16, uX10_isName_16o, uX10_isName_16f, uX10_isName_17, uX10_isName_18, uX10_isName_21, uX10_isName_22, uX10_isName_25, uX10_isName_25o, uX10_isName_25f, uX10_isName_26, uX10_isName_27, uX10_isName_30, uX10_isName_32, uX10_isName_35, uX10_isName_36, uX10_isName_39, uX10_isName_40, mo_C H, mo_R_tape H, mo_C_tape H, mo_L_tape H, pq_C_sI, pq_C_sJ, pq_C_sR, pq_C_sA, pq_L_sI, pq_L_sJ, pq_L_sR, pq_L_sA, pq_I_sI, pq_I_sJ, pq_I_sR, pq_I_sA, pq_J_sI, pq_J_sJ, pq_J_sR, pq_J_sA, pq_R_sI, pq_R_sJ, pq_R_sR, pq_R_sA, pq_N_sI, pq_N_sJ, pq_N_sR, pq_N_sA, pq_S_sI, pq_S_sJ, pq_S_sR, pq_S_sA, pz_rf_s, pz_cut_i, pz_cut_r, pz_cut_n, pz_cut_f, pz_cut_u, pz_cut_o, true_and, and_true, true_or, or_true, Option.toList_some, Option.toList_none, List.cons_append, List.nil_append, Nat.add_left_cancel_iff, Nat.left_eq_add, Nat.add_eq_left, Nat.reduceEqDiff, if_true, if_false, ite_true, ite_false, false_and, and_false, false_or, or_false, reduceIte, reduceCtorEq, and_self, mh_C, mh_L, mh_R, mh_J, mh_I0, mh_I, mh_Ir, mh_sI0, mh_sI, mh_sA, gu_11, gu_22, gu_r, gu_21s, gu_21c, gu_22s, gu_11s, gu_11c, gu_22c, Nat.reduceLeDiff, Nat.reduceLT, ne_eq, not_false_eq_true, not_true_eq_false, Nat.reduceEqDiff, Nat.lt_irrefl, eq_self, z_4, z_5, z_7, z_8, z_10, z_16, z_20, z_64]
          by_cases h3 : 60 < stN x p
          · rw [if_pos (show (60 : Int32) < nI (stN x p) from nI_lt (a := 60) h3 (by omega)), decide_eq_false (by omega)]
            rfl
          · rw [if_neg (show ¬ (60 : Int32) < nI (stN x p) from nI_nlt (a := 60) (by omega) (by omega)), decide_eq_true (by omega)]
            rfl
      · unfold dg at h1
        omega
      · unfold dg at h1
        omega
    · rw [if_neg h1, if_pos rfl, decide_eq_false h1, Bool.false_and]
      rfl
end
