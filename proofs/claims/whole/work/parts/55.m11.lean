/-! ===== the reference: keys, in ===== -/
def keyB (i : Nat) : Nat := [105, 110, 102, 111, 110, 97, 109, 101, 112, 105, 101, 99, 101, 32, 108, 101, 110, 103, 116, 104, 108, 101, 110, 103, 116, 104, 102, 105, 108, 101, 115, 112, 97, 116, 104, 112, 105, 101, 99, 101, 115].getD i 0
def keyA (i : Nat) : Nat := [0, 4, 8, 20, 26, 31, 35, 41].getD i 0
def kl (k : Nat) : Nat := keyA (k + 1) - keyA k
def CST (g : Nat → Nat → Int32) : Prop := (∀ i, i < 41 → g 9 i = nI (keyB i)) ∧ (∀ i, i < 8 → g 10 i = nI (keyA i))
def mk (x : Nat → Nat) : Nat → Nat → Nat → Bool
  | _, _, 0 => true
  | t, a, m + 1 => decide (x t = keyB a) && mk x (t + 1) (a + 1) m
def isK (x : Nat → Nat) (p k : Nat) : Bool := decide (stN x p = kl k) && mk x (stE x p + 1) (keyA k) (kl k)
def bhd (x : Nat → Nat) (n v : Nat) : Nat := match pv x n (2 * n + 1) none 0 v with | .ok e => e | .error _ => 0
def fnd (x : Nat → Nat) (n k : Nat) : Nat → Nat → Option Nat
  | 0, _ => none
  | f + 1, q => if x q = 101 then none else if isK x q k = true then some (stEnd x q) else fnd x n k f (bhd x n (stEnd x q))
def inK (x : Nat → Nat) (n p k : Nat) : Option Nat := fnd x n k (2 * n + 1) (p + 1)
theorem keyB_lt : ∀ i, i < 41 → keyB i < 128 := by decide
theorem keyA_le : ∀ k, k < 7 → keyA k < keyA (k + 1) ∧ keyA (k + 1) ≤ 41 := by decide
section
variable {d : Nat} {h : PzH} {Q : Option Value → PzH → Prop} {mo : Nat} {g : Nat → Nat → Int32} {x : Nat → Nat} {n : Nat} {p : Nat}
theorem pv_up : ∀ f F md d1 d2 p e, f ≤ F → d2 ≤ d1 → pv x n f md d1 p = .ok e → pv x n F md d2 p = .ok e := by
  intro f
  induction f with
  | zero =>
    intro F md d1 d2 p e _ _ h1
    exact absurd h1 (by cases md <;> simp [pv])
  | succ f ih =>
    intro F md d1 d2 p e hF hd h1
    obtain ⟨F, rfl⟩ : ∃ F', F = F' + 1 := ⟨F - 1, by omega⟩
    cases md with
    | none =>
      rw [pv] at h1 ⊢
      by_cases a1 : dg (x p)
      · rw [if_pos a1] at h1 ⊢
        exact h1
      · rw [if_neg a1] at h1 ⊢
        by_cases a2 : x p = 105
        · rw [if_pos a2] at h1 ⊢
          exact h1
        · rw [if_neg a2] at h1 ⊢
          by_cases a3 : (x p = 108 ∨ x p = 100) ∧ d1 < 8
          · rw [if_pos a3] at h1
            rw [if_pos ⟨a3.1, by omega⟩]
            exact ih _ _ _ _ _ _ (by omega) (by omega) h1
          · rw [if_neg a3] at h1
            exact absurd h1 (by simp)
    | some m =>
      obtain ⟨b, ky⟩ := m
      rw [pv_i] at h1 ⊢
      by_cases a1 : x p = 101
      · rw [if_pos a1] at h1 ⊢
        exact h1
      · rw [if_neg a1] at h1 ⊢
        by_cases a2 : b = true
        · rw [if_pos a2] at h1 ⊢
          cases hs : stF x n p with
          | some w' =>
            rw [hs] at h1
            exact absurd h1 (by simp)
          | none =>
            rw [hs] at h1
            simp only at h1 ⊢
            by_cases a3 : rsk x ky p = true
            · rw [if_pos a3] at h1 ⊢
              cases q1 : pv x n f none d1 (stEnd x p) with
              | error w' =>
                rw [q1] at h1
                exact absurd h1 (by simp)
              | ok u1 =>
                rw [q1] at h1
                rw [ih F _ _ d2 _ _ (by omega) hd q1]
                exact ih _ _ _ _ _ _ (by omega) hd h1
            · rw [if_neg a3] at h1
              exact absurd h1 (by simp)
        · rw [if_neg a2] at h1 ⊢
          cases q1 : pv x n f none d1 p with
          | error w' =>
            rw [q1] at h1
            exact absurd h1 (by simp)
          | ok u1 =>
            rw [q1] at h1
            rw [ih F _ _ d2 _ _ (by omega) hd q1]
            exact ih _ _ _ _ _ _ (by omega) hd h1
theorem VL_bhd {v e : Nat} (hV : VL x n none v e) : bhd x n v = e := by
  obtain ⟨f, dp, h1, h2⟩ := hV
  unfold bhd
  rw [pv_up f (2 * n + 1) none dp 0 v e h1 (by omega) h2]
theorem VL_str {q : Nat} (hs : stF x n q = none) : VL x n none q (stEnd x q) := by
  obtain ⟨a1, a2, a3⟩ := stF_SK hs
  refine ⟨1, 0, by omega, ?_⟩
  rw [pv, if_pos (show dg (x q) from a1.2.2.1 0 (by have := a1.1; omega)), hs]
theorem VL_dict {e : Nat} (hx : x p = 100) (hV : VL x n none p e) : VL x n (some (true, none)) (p + 1) e := by
  obtain ⟨f, dp, h1, h2⟩ := hV
  cases f with
  | zero => exact absurd h2 (by simp [pv])
  | succ f =>
    rw [pv, if_neg (by unfold dg; omega), if_neg (by omega)] at h2
    by_cases a3 : (x p = 108 ∨ x p = 100) ∧ dp < 8
    · rw [if_pos a3, decide_eq_true hx] at h2
      exact ⟨f, dp + 1, by omega, h2⟩
    · rw [if_neg a3] at h2
      exact absurd h2 (by simp)
theorem VL_list {e : Nat} (hx : x p = 108) (hV : VL x n none p e) : VL x n (some (false, none)) (p + 1) e := by
  obtain ⟨f, dp, h1, h2⟩ := hV
  cases f with
  | zero => exact absurd h2 (by simp [pv])
  | succ f =>
    rw [pv, if_neg (by unfold dg; omega), if_neg (by omega)] at h2
    by_cases a3 : (x p = 108 ∨ x p = 100) ∧ dp < 8
    · rw [if_pos a3, show decide (x p = 100) = false from decide_eq_false (by omega)] at h2
      exact ⟨f, dp + 1, by omega, h2⟩
    · rw [if_neg a3] at h2
      exact absurd h2 (by simp)
theorem g_mk (H : MO h mo) (T : TX (g 1) n x) (C : CST g) {k : Nat} (hk : k < 7) {t : Nat} (ht : t + kl k ≤ n) {v1 : Int32} : ∀ m i, i + m = kl k → (wp (d + 3) mX10_isKey 37 [.ref mo, .int v1, .int (nI k), .int (nI (kl k)), .int (nI t), .int (nI i)] [] (mh h mo g) Q ↔ Q (some (.int (if mk x (t + i) (keyA k + i) m = true then 1 else 0))) (mh h mo g)) := by
  have hn := T.1
  obtain ⟨k1, k2⟩ := keyA_le k hk
  intro m
  induction m with
  | zero =>
    intro i hi
    rw [uX10_isKey_37]
    simp only [enX10_isKey, uX10_isKey_0, uX10_isKey_0o, uX10_isKey_0f, uX10_isKey_1, uX10_isKey_4, uX10_isKey_5, uX10_isKey_6, uX10_isKey_7, uX10_isKey_8, uX10_isKey_8o, uX10_isKey_8f, uX10_isKey_9, uX10_isKey_12, uX10_isKey_13, uX10_isKey_14, uX10_isKey_15, uX10_isKey_16, uX10_isKey_16o, uX10_isKey_16f, uX10_isKey_17, uX10_isKey_18, uX10_isKey_21, uX10_isKey_22, uX10_isKey_25, uX10_isKey_26, uX10_isKey_27, uX10_isKey_27o, uX10_isKey_27f, uX10_isKey_28, uX10_isKey_29, uX10_isKey_32, uX10_isKey_34, uX10_isKey_35, uX10_isKey_39, uX10_isKey_40, uX10_isKey_43, uX10_isKey_43o, uX10_isKey_43f, uX10_isKey_44, uX10_isKey_47, uX10_isKey_49, uX10_isKey_51, uX10_isKey_52, uX10_isKey_53, uX10_isKey_53o, uX10_isKey_53f, uX10_isKey_54, uX10_isKey_57, uX10_isKey_57o, uX10_isKey_57f, uX10_isKey_58, uX10_isKey_61, uX10_isKey_62, uX10_isKey_63, uX10_isKey_65, uX10_isKey_66, uX10_isKey_67, uX10_isKey_70, uX10_isKey_71, uX10_isKey_72, uX10_isKey_75, uX10_isKey_78, uX10_isKey_79, mo_C H, mo_R_tape H, mo_C_tape H, mo_L_tape H, mo_R_keys H, mo_C_keys H, mo_L_keys H, mo_R_keyAt H, mo_C_keyAt H, mo_L_keyAt H, pq_C_sI, pq_C_sJ, pq_C_sR, pq_C_sA, pq_L_sI, pq_L_sJ, pq_L_sR, pq_L_sA, pq_I_sI, pq_I_sJ, pq_I_sR, pq_I_sA, pq_J_sI, pq_J_sJ, pq_J_sR, pq_J_sA, pq_R_sI, pq_R_sJ, pq_R_sR, pq_R_sA, pq_N_sI, pq_N_sJ, pq_N_sR, pq_N_sA, pq_S_sI, pq_S_sJ, pq_S_sR, pq_S_sA, pz_rf_s, pz_cut_i, pz_cut_r, pz_cut_n, pz_cut_f, pz_cut_u, pz_cut_o, true_and, and_true, true_or, or_true, Option.toList_some, Option.toList_none, List.cons_append, List.nil_append, Nat.add_left_cancel_iff, Nat.left_eq_add, Nat.add_eq_left, Nat.reduceEqDiff, if_true, if_false, ite_true, ite_false, false_and, and_false, false_or, or_false, reduceIte, reduceCtorEq, and_self, mh_C, mh_L, mh_R, mh_J, mh_I0, mh_I, mh_Ir, mh_sI0, mh_sI, mh_sA, gu_11, gu_22, gu_r, gu_21s, gu_21c, gu_22s, gu_11s, gu_11c, gu_22c, Nat.reduceLeDiff, Nat.reduceLT, ne_eq, not_false_eq_true, not_true_eq_false, Nat.reduceEqDiff, Nat.lt_irrefl, eq_self, z_4, z_5, z_7, z_8, z_10, z_16, z_20, z_64]
    have hkl : kl k = keyA (k + 1) - keyA k := rfl
    rw [if_pos (nI_le (by omega) (by omega))]
    rfl
  | succ m ih =>
    intro i hi
    have hkl : kl k = keyA (k + 1) - keyA k := rfl
    obtain ⟨t1, t2⟩ := (T.2 (t + i)).1 (by omega)
    have hb := keyB_lt (keyA k + i) (by omega)
    rw [uX10_isKey_37]
    simp only [enX10_isKey, uX10_isKey_0, uX10_isKey_0o, uX10_isKey_0f, uX10_isKey_1, uX10_isKey_4, uX10_isKey_5, uX10_isKey_6, uX10_isKey_7, uX10_isKey_8, uX10_isKey_8o, uX10_isKey_8f, uX10_isKey_9, uX10_isKey_12, uX10_isKey_13, uX10_isKey_14, uX10_isKey_15, uX10_isKey_16, uX10_isKey_16o, uX10_isKey_16f, uX10_isKey_17, uX10_isKey_18, uX10_isKey_21, uX10_isKey_22, uX10_isKey_25, uX10_isKey_26, uX10_isKey_27, uX10_isKey_27o, uX10_isKey_27f, uX10_isKey_28, uX10_isKey_29, uX10_isKey_32, uX10_isKey_34, uX10_isKey_35, uX10_isKey_39, uX10_isKey_40, uX10_isKey_43, uX10_isKey_43o, uX10_isKey_43f, uX10_isKey_44, uX10_isKey_47, uX10_isKey_49, uX10_isKey_51, uX10_isKey_52, uX10_isKey_53, uX10_isKey_53o, uX10_isKey_53f, uX10_isKey_54, uX10_isKey_57, uX10_isKey_57o, uX10_isKey_57f, uX10_isKey_58, uX10_isKey_61, uX10_isKey_62, uX10_isKey_63, uX10_isKey_65, uX10_isKey_66, uX10_isKey_67, uX10_isKey_70, uX10_isKey_71, uX10_isKey_72, uX10_isKey_75, uX10_isKey_78, uX10_isKey_79, mo_C H, mo_R_tape H, mo_C_tape H, mo_L_tape H, mo_R_keys H, mo_C_keys H, mo_L_keys H, mo_R_keyAt H, mo_C_keyAt H, mo_L_keyAt H, pq_C_sI, pq_C_sJ, pq_C_sR, pq_C_sA, pq_L_sI, pq_L_sJ, pq_L_sR, pq_L_sA, pq_I_sI, pq_I_sJ, pq_I_sR, pq_I_sA, pq_J_sI, pq_J_sJ, pq_J_sR, pq_J_sA, pq_R_sI, pq_R_sJ, pq_R_sR, pq_R_sA, pq_N_sI, pq_N_sJ, pq_N_sR, pq_N_sA, pq_S_sI, pq_S_sJ, pq_S_sR, pq_S_sA, pz_rf_s, pz_cut_i, pz_cut_r, pz_cut_n, pz_cut_f, pz_cut_u, pz_cut_o, true_and, and_true, true_or, or_true, Option.toList_some, Option.toList_none, List.cons_append, List.nil_append, Nat.add_left_cancel_iff, Nat.left_eq_add, Nat.add_eq_left, Nat.reduceEqDiff, if_true, if_false, ite_true, ite_false, false_and, and_false, false_or, or_false, reduceIte, reduceCtorEq, and_self, mh_C, mh_L, mh_R, mh_J, mh_I0, mh_I, mh_Ir, mh_sI0, mh_sI, mh_sA, gu_11, gu_22, gu_r, gu_21s, gu_21c, gu_22s, gu_11s, gu_11c, gu_22c, Nat.reduceLeDiff, Nat.reduceLT, ne_eq, not_false_eq_true, not_true_eq_false, Nat.reduceEqDiff, Nat.lt_irrefl, eq_self, z_4, z_5, z_7, z_8, z_10, z_16, z_20, z_64]
    rw [if_neg (nI_ge (show i < kl k by omega) (by omega))]
    simp (disch := omega) only [nI_add, nI_clamp, pz_in_nI, true_and, C.2 k (show k < 8 by omega)]
    simp (disch := omega) only [nI_add, nI_clamp, pz_in_nI, true_and, t1, C.1 (keyA k + i) (show keyA k + i < 41 by omega)]
    rw [mk]
    by_cases h1 : x (t + i) = keyB (keyA k + i)
    · rw [if_pos ((b8_nI _ t2 _ hb).mpr h1), nI_1, ih (i + 1) (by omega), decide_eq_true h1, Bool.true_and, Nat.add_assoc, Nat.add_assoc]
    · rw [if_neg (fun r => h1 ((b8_nI _ t2 _ hb).mp r)), decide_eq_false h1, Bool.false_and]
      rfl
theorem g_isKey (H : MO h mo) (T : TX (g 1) n x) (C : CST g) {k : Nat} (hk : k < 7) (hs : stF x n p = none) : pz_M (d + 4) mX10_isKey [.ref mo, .int (nI p), .int (nI k)] (mh h mo g) Q ↔ Q (some (.int (if isK x p k = true then 1 else 0))) (mh h mo g) := by
  have hn := T.1
  obtain ⟨k1, k2⟩ := keyA_le k hk
  obtain ⟨a1, a2, a3⟩ := stF_SK hs
  have hkl : kl k = keyA (k + 1) - keyA k := rfl
  simp only [enX10_isKey, uX10_isKey_0, uX10_isKey_0o, uX10_isKey_0f, uX10_isKey_1, uX10_isKey_4, uX10_isKey_5, uX10_isKey_6, uX10_isKey_7, uX10_isKey_8, uX10_isKey_8o, uX10_isKey_8f, uX10_isKey_9, uX10_isKey_12, uX10_isKey_13, uX10_isKey_14, uX10_isKey_15, uX10_isKey_16, uX10_isKey_16o, uX10_isKey_16f, uX10_isKey_17, uX10_isKey_18, uX10_isKey_21, uX10_isKey_22, uX10_isKey_25, uX10_isKey_26, uX10_isKey_27, uX10_isKey_27o, uX10_isKey_27f, uX10_isKey_28, uX10_isKey_29, uX10_isKey_32, uX10_isKey_34, uX10_isKey_35, uX10_isKey_39, uX10_isKey_40, uX10_isKey_43, uX10_isKey_43o, uX10_isKey_43f, uX10_isKey_44, uX10_isKey_47, uX10_isKey_49, uX10_isKey_51, uX10_isKey_52, uX10_isKey_53, uX10_isKey_53o, uX10_isKey_53f, uX10_isKey_54, uX10_isKey_57, uX10_isKey_57o, uX10_isKey_57f, uX10_isKey_58, uX10_isKey_61, uX10_isKey_62, uX10_isKey_63, uX10_isKey_65, uX10_isKey_66, uX10_isKey_67, uX10_isKey_70, uX10_isKey_71, uX10_isKey_72, uX10_isKey_75, uX10_isKey_78, uX10_isKey_79, mo_C H, mo_R_tape H, mo_C_tape H, mo_L_tape H, mo_R_keys H, mo_C_keys H, mo_L_keys H, mo_R_keyAt H, mo_C_keyAt H, mo_L_keyAt H, pq_C_sI, pq_C_sJ, pq_C_sR, pq_C_sA, pq_L_sI, pq_L_sJ, pq_L_sR, pq_L_sA, pq_I_sI, pq_I_sJ, pq_I_sR, pq_I_sA, pq_J_sI, pq_J_sJ, pq_J_sR, pq_J_sA, pq_R_sI, pq_R_sJ, pq_R_sR, pq_R_sA, pq_N_sI, pq_N_sJ, pq_N_sR, pq_N_sA, pq_S_sI, pq_S_sJ, pq_S_sR, pq_S_sA, pz_rf_s, pz_cut_i, pz_cut_r, pz_cut_n, pz_cut_f, pz_cut_u, pz_cut_o, true_and, and_true, true_or, or_true, Option.toList_some, Option.toList_none, List.cons_append, List.nil_append, Nat.add_left_cancel_iff, Nat.left_eq_add, Nat.add_eq_left, Nat.reduceEqDiff, if_true, if_false, ite_true, ite_false, false_and, and_false, false_or, or_false, reduceIte, reduceCtorEq, and_self, mh_C, mh_L, mh_R, mh_J, mh_I0, mh_I, mh_Ir, mh_sI0, mh_sI, mh_sA, gu_11, gu_22, gu_r, gu_21s, gu_21c, gu_22s, gu_11s, gu_11c, gu_22c, Nat.reduceLeDiff, Nat.reduceLT, ne_eq, not_false_eq_true, not_true_eq_false, Nat.reduceEqDiff, Nat.lt_irrefl, eq_self, z_4, z_5, z_7, z_8, z_10, z_16, z_20, z_64, g_textSize H T a1]
  simp (disch := omega) only [nI_1, nI_add, nI_clamp, pz_in_nI, true_and, C.2 k (show k < 8 by omega), C.2 (k + 1) (show k + 1 < 8 by omega)]
  rw [pk_sub (by omega), ← hkl, show vlk x p (stE x p - p) = stN x p from rfl]
  unfold isK
  by_cases h1 : stN x p = kl k
  · rw [if_pos (by rw [h1]), decide_eq_true h1, Bool.true_and, g_textAt H T a1]
    simp only [enX10_isKey, uX10_isKey_0, uX10_isKey_0o, uX10_isKey_0f, uX10_isKey_1, uX10_isKey_4, uX10_isKey_5, uX10_isKey_6, uX10_isKey_7, uX10_isKey_8, uX10_isKey_8o, uX10_isKey_8f, uX10_isKey_9, uX10_isKey_12, uX10_isKey_13, uX10_isKey_14, uX10_isKey_15, uX10_isKey_16, uX10_isKey_16o, uX10_isKey_16f, uX10_isKey_17, uX10_isKey_18, uX10_isKey_21, uX10_isKey_22, uX10_isKey_25, uX10_isKey_26, uX10_isKey_27, uX10_isKey_27o, uX10_isKey_27f, uX10_isKey_28, uX10_isKey_29, uX10_isKey_32, uX10_isKey_34, uX10_isKey_35, uX10_isKey_39, uX10_isKey_40, uX10_isKey_43, uX10_isKey_43o, uX10_isKey_43f, uX10_isKey_44, uX10_isKey_47, uX10_isKey_49, uX10_isKey_51, uX10_isKey_52, uX10_isKey_53, uX10_isKey_53o, uX10_isKey_53f, uX10_isKey_54, uX10_isKey_57, uX10_isKey_57o, uX10_isKey_57f, uX10_isKey_58, uX10_isKey_61, uX10_isKey_62, uX10_isKey_63, uX10_isKey_65, uX10_isKey_66, uX10_isKey_67, uX10_isKey_70, uX10_isKey_71, uX10_isKey_72, uX10_isKey_75, uX10_isKey_78, uX10_isKey_79, mo_C H, mo_R_tape H, mo_C_tape H, mo_L_tape H, mo_R_keys H, mo_C_keys H, mo_L_keys H, mo_R_keyAt H, mo_C_keyAt H, mo_L_keyAt H, pq_C_sI, pq_C_sJ, pq_C_sR, pq_C_sA, pq_L_sI, pq_L_sJ, pq_L_sR, pq_L_sA, pq_I_sI, pq_I_sJ, pq_I_sR, pq_I_sA, pq_J_sI, pq_J_sJ, pq_J_sR, pq_J_sA, pq_R_sI, pq_R_sJ, pq_R_sR, pq_R_sA, pq_N_sI, pq_N_sJ, pq_N_sR, pq_N_sA, pq_S_sI, pq_S_sJ, pq_S_sR, pq_S_sA, pz_rf_s, pz_cut_i, pz_cut_r, pz_cut_n, pz_cut_f, pz_cut_u, pz_cut_o, true_and, and_true, true_or, or_true, Option.toList_some, Option.toList_none, List.cons_append, List.nil_append, Nat.add_left_cancel_iff, Nat.left_eq_add, Nat.add_eq_left, Nat.reduceEqDiff, if_true, if_false, ite_true, ite_false, false_and, and_false, false_or, or_false, reduceIte, reduceCtorEq, and_self, mh_C, mh_L, mh_R, mh_J, mh_I0, mh_I, mh_Ir, mh_sI0, mh_sI, mh_sA, gu_11, gu_22, gu_r, gu_21s, gu_21c, gu_22s, gu_11s, gu_11c, gu_22c, Nat.reduceLeDiff, Nat.reduceLT, ne_eq, not_false_eq_true, not_true_eq_false, Nat.reduceEqDiff, Nat.lt_irrefl, eq_self, z_4, z_5, z_7, z_8, z_10, z_16, z_20, z_64]
    exact g_mk H T C hk (t := stE x p + 1) (by unfold stEnd at a2; omega) (kl k) 0 (by omega)
  · rw [if_neg (fun r => h1 ((nI_eq (by omega) (by omega)).mp r)), decide_eq_false h1, Bool.false_and]
    rfl
theorem in_main (H : MO h mo) (T : TX (g 1) n x) (C : CST g) {k : Nat} (hk : k < 7) {v1 : Int32} : ∀ f F dp ky q e v4, f ≤ F → f ≤ 2 * n + 1 → pz_cut v4 = v4 → pv x n f (some (true, ky)) dp q = .ok e → Q (some (.int (kyOf (fnd x n k F q)))) (mh h mo g) → wp (d + 4) mX10_in 4 [.ref mo, .int v1, .int (nI k), .int (nI q), v4] [] (mh h mo g) Q := by
  have hn := T.1
  intro f
  induction f with
  | zero =>
    intro F dp ky q e v4 _ _ _ h1
    exact absurd h1 (by simp [pv])
  | succ f ih =>
    intro F dp ky q e v4 hF hf c4 h1 K
    obtain ⟨F, rfl⟩ : ∃ F', F = F' + 1 := ⟨F - 1, by omega⟩
    rw [pv_i] at h1
    rw [fnd] at K
    rw [uX10_in_4]
    simp only [enX10_in, uX10_in_0, uX10_in_1, uX10_in_2, uX10_in_3, uX10_in_5, uX10_in_8, uX10_in_9, uX10_in_10, uX10_in_12, uX10_in_15, uX10_in_15o, uX10_in_15f, uX10_in_16, uX10_in_17, uX10_in_20, uX10_in_22, uX10_in_22o, uX10_in_22f, uX10_in_23, uX10_in_24, uX10_in_25, uX10_in_28, uX10_in_31, uX10_in_33, uX10_in_34, uX10_in_34o, uX10_in_34f, uX10_in_35, uX10_in_37, uX10_in_40, uX10_in_41, uX10_in_44, uX10_in_45, mo_C H, mo_R_tape H, mo_C_tape H, mo_L_tape H, pq_C_sI, pq_C_sJ, pq_C_sR, pq_C_sA, pq_L_sI, pq_L_sJ, pq_L_sR, pq_L_sA, pq_I_sI, pq_I_sJ, pq_I_sR, pq_I_sA, pq_J_sI, pq_J_sJ, pq_J_sR, pq_J_sA, pq_R_sI, pq_R_sJ, pq_R_sR, pq_R_sA, pq_N_sI, pq_N_sJ, pq_N_sR, pq_N_sA, pq_S_sI, pq_S_sJ, pq_S_sR, pq_S_sA, pz_rf_s, pz_cut_i, pz_cut_r, pz_cut_n, pz_cut_f, pz_cut_u, pz_cut_o, true_and, and_true, true_or, or_true, Option.toList_some, Option.toList_none, List.cons_append, List.nil_append, Nat.add_left_cancel_iff, Nat.left_eq_add, Nat.add_eq_left, Nat.reduceEqDiff, if_true, if_false, ite_true, ite_false, false_and, and_false, false_or, or_false, reduceIte, reduceCtorEq, and_self, mh_C, mh_L, mh_R, mh_J, mh_I0, mh_I, mh_Ir, mh_sI0, mh_sI, mh_sA, gu_11, gu_22, gu_r, gu_21s, gu_21c, gu_22s, gu_11s, gu_11c, gu_22c, Nat.reduceLeDiff, Nat.reduceLT, ne_eq, not_false_eq_true, not_true_eq_false, Nat.reduceEqDiff, Nat.lt_irrefl, eq_self, z_4, z_5, z_7, z_8, z_10, z_16, z_20, z_64, c4]
    by_cases a1 : x q = 101
    · obtain ⟨t1, t2⟩ := (T.2 q).1 (TX_lt T (by omega))
      have hq := TX_lt T (show x q < 256 by omega)
      simp (disch := omega) only [nI_clamp, pz_in_nI, true_and]
      rw [t1, if_pos (show b8 (x q) = 101 from (b8_nI _ t2 101 (by omega)).mpr a1)]
      rw [if_pos a1] at K
      exact K
    · rw [if_neg a1, if_pos rfl] at h1
      rw [if_neg a1] at K
      cases hs : stF x n q with
      | some w' =>
        rw [hs] at h1
        exact absurd h1 (by simp)
      | none =>
        rw [hs] at h1
        simp only at h1
        obtain ⟨b1, b2, b3⟩ := stF_SK hs
        have hq : q < n := by
          have := b1.1
          unfold stEnd at b2
          omega
        obtain ⟨t1, t2⟩ := (T.2 q).1 hq
        simp (disch := omega) only [nI_clamp, pz_in_nI, true_and]
        rw [t1, if_neg (show ¬ b8 (x q) = 101 from fun r => a1 ((b8_nI _ t2 101 (by omega)).mp r))]
        refine g_behind H T (VL_str hs) ?_
        simp only [enX10_in, uX10_in_0, uX10_in_1, uX10_in_2, uX10_in_3, uX10_in_5, uX10_in_8, uX10_in_9, uX10_in_10, uX10_in_12, uX10_in_15, uX10_in_15o, uX10_in_15f, uX10_in_16, uX10_in_17, uX10_in_20, uX10_in_22, uX10_in_22o, uX10_in_22f, uX10_in_23, uX10_in_24, uX10_in_25, uX10_in_28, uX10_in_31, uX10_in_33, uX10_in_34, uX10_in_34o, uX10_in_34f, uX10_in_35, uX10_in_37, uX10_in_40, uX10_in_41, uX10_in_44, uX10_in_45, mo_C H, mo_R_tape H, mo_C_tape H, mo_L_tape H, pq_C_sI, pq_C_sJ, pq_C_sR, pq_C_sA, pq_L_sI, pq_L_sJ, pq_L_sR, pq_L_sA, pq_I_sI, pq_I_sJ, pq_I_sR, pq_I_sA, pq_J_sI, pq_J_sJ, pq_J_sR, pq_J_sA, pq_R_sI, pq_R_sJ, pq_R_sR, pq_R_sA, pq_N_sI, pq_N_sJ, pq_N_sR, pq_N_sA, pq_S_sI, pq_S_sJ, pq_S_sR, pq_S_sA, pz_rf_s, pz_cut_i, pz_cut_r, pz_cut_n, pz_cut_f, pz_cut_u, pz_cut_o, true_and, and_true, true_or, or_true, Option.toList_some, Option.toList_none, List.cons_append, List.nil_append, Nat.add_left_cancel_iff, Nat.left_eq_add, Nat.add_eq_left, Nat.reduceEqDiff, if_true, if_false, ite_true, ite_false, false_and, and_false, false_or, or_false, reduceIte, reduceCtorEq, and_self, mh_C, mh_L, mh_R, mh_J, mh_I0, mh_I, mh_Ir, mh_sI0, mh_sI, mh_sA, gu_11, gu_22, gu_r, gu_21s, gu_21c, gu_22s, gu_11s, gu_11c, gu_22c, Nat.reduceLeDiff, Nat.reduceLT, ne_eq, not_false_eq_true, not_true_eq_false, Nat.reduceEqDiff, Nat.lt_irrefl, eq_self, z_4, z_5, z_7, z_8, z_10, z_16, z_20, z_64, g_isKey H T C hk hs, c4]
        by_cases a3 : rsk x ky q = true
        · rw [if_pos a3] at h1
          cases q1 : pv x n f none dp (stEnd x q) with
          | error w' =>
            rw [q1] at h1
            exact absurd h1 (by simp)
          | ok u1 =>
            rw [q1] at h1
            have hV : VL x n none (stEnd x q) u1 := ⟨f, dp, by omega, q1⟩
            by_cases a4 : isK x q k = true
            · rw [if_pos a4] at K ⊢
              rw [if_neg (by decide)]
              exact K
            · rw [if_neg a4] at K ⊢
              rw [if_pos rfl]
              rw [VL_bhd hV] at K
              refine g_behind H T hV ?_
              simp only [enX10_in, uX10_in_0, uX10_in_1, uX10_in_2, uX10_in_3, uX10_in_5, uX10_in_8, uX10_in_9, uX10_in_10, uX10_in_12, uX10_in_15, uX10_in_15o, uX10_in_15f, uX10_in_16, uX10_in_17, uX10_in_20, uX10_in_22, uX10_in_22o, uX10_in_22f, uX10_in_23, uX10_in_24, uX10_in_25, uX10_in_28, uX10_in_31, uX10_in_33, uX10_in_34, uX10_in_34o, uX10_in_34f, uX10_in_35, uX10_in_37, uX10_in_40, uX10_in_41, uX10_in_44, uX10_in_45, mo_C H, mo_R_tape H, mo_C_tape H, mo_L_tape H, pq_C_sI, pq_C_sJ, pq_C_sR, pq_C_sA, pq_L_sI, pq_L_sJ, pq_L_sR, pq_L_sA, pq_I_sI, pq_I_sJ, pq_I_sR, pq_I_sA, pq_J_sI, pq_J_sJ, pq_J_sR, pq_J_sA, pq_R_sI, pq_R_sJ, pq_R_sR, pq_R_sA, pq_N_sI, pq_N_sJ, pq_N_sR, pq_N_sA, pq_S_sI, pq_S_sJ, pq_S_sR, pq_S_sA, pz_rf_s, pz_cut_i, pz_cut_r, pz_cut_n, pz_cut_f, pz_cut_u, pz_cut_o, true_and, and_true, true_or, or_true, Option.toList_some, Option.toList_none, List.cons_append, List.nil_append, Nat.add_left_cancel_iff, Nat.left_eq_add, Nat.add_eq_left, Nat.reduceEqDiff, if_true, if_false, ite_true, ite_false, false_and, and_false, false_or, or_false, reduceIte, reduceCtorEq, and_self, mh_C, mh_L, mh_R, mh_J, mh_I0, mh_I, mh_Ir, mh_sI0, mh_sI, mh_sA, gu_11, gu_22, gu_r, gu_21s, gu_21c, gu_22s, gu_11s, gu_11c, gu_22c, Nat.reduceLeDiff, Nat.reduceLT, ne_eq, not_false_eq_true, not_true_eq_false, Nat.reduceEqDiff, Nat.lt_irrefl, eq_self, z_4, z_5, z_7, z_8, z_10, z_16, z_20, z_64]
              exact ih F dp _ u1 e _ (by omega) (by omega) rfl h1 K
        · rw [if_neg a3] at h1
          exact absurd h1 (by simp)
theorem g_in (H : MO h mo) (T : TX (g 1) n x) (C : CST g) {k : Nat} (hk : k < 7) {e : Nat} (hx : x p = 100) (hV : VL x n none p e) (K : Q (some (.int (kyOf (inK x n p k)))) (mh h mo g)) : pz_M (d + 5) mX10_in [.ref mo, .int (nI p), .int (nI k)] (mh h mo g) Q := by
  obtain ⟨f, dp, h1, h2⟩ := VL_dict hx hV
  simp only [enX10_in, uX10_in_0, uX10_in_1, uX10_in_2, uX10_in_3, uX10_in_5, uX10_in_8, uX10_in_9, uX10_in_10, uX10_in_12, uX10_in_15, uX10_in_15o, uX10_in_15f, uX10_in_16, uX10_in_17, uX10_in_20, uX10_in_22, uX10_in_22o, uX10_in_22f, uX10_in_23, uX10_in_24, uX10_in_25, uX10_in_28, uX10_in_31, uX10_in_33, uX10_in_34, uX10_in_34o, uX10_in_34f, uX10_in_35, uX10_in_37, uX10_in_40, uX10_in_41, uX10_in_44, uX10_in_45, mo_C H, mo_R_tape H, mo_C_tape H, mo_L_tape H, pq_C_sI, pq_C_sJ, pq_C_sR, pq_C_sA, pq_L_sI, pq_L_sJ, pq_L_sR, pq_L_sA, pq_I_sI, pq_I_sJ, pq_I_sR, pq_I_sA, pq_J_sI, pq_J_sJ, pq_J_sR, pq_J_sA, pq_R_sI, pq_R_sJ, pq_R_sR, pq_R_sA, pq_N_sI, pq_N_sJ, pq_N_sR, pq_N_sA, pq_S_sI, pq_S_sJ, pq_S_sR, pq_S_sA, pz_rf_s, pz_cut_i, pz_cut_r, pz_cut_n, pz_cut_f, pz_cut_u, pz_cut_o, true_and, and_true, true_or, or_true, Option.toList_some, Option.toList_none, List.cons_append, List.nil_append, Nat.add_left_cancel_iff, Nat.left_eq_add, Nat.add_eq_left, Nat.reduceEqDiff, if_true, if_false, ite_true, ite_false, false_and, and_false, false_or, or_false, reduceIte, reduceCtorEq, and_self, mh_C, mh_L, mh_R, mh_J, mh_I0, mh_I, mh_Ir, mh_sI0, mh_sI, mh_sA, gu_11, gu_22, gu_r, gu_21s, gu_21c, gu_22s, gu_11s, gu_11c, gu_22c, Nat.reduceLeDiff, Nat.reduceLT, ne_eq, not_false_eq_true, not_true_eq_false, Nat.reduceEqDiff, Nat.lt_irrefl, eq_self, z_4, z_5, z_7, z_8, z_10, z_16, z_20, z_64, nI_1]
  exact in_main H T C hk f (2 * n + 1) dp _ (p + 1) e _ (by omega) (by omega) rfl h2 K
end
