/-! ===== a text of bytes, 256 behind its end; digits ===== -/
abbrev dg (c : Nat) : Prop := 48 ≤ c ∧ c ≤ 57
/-- a byte as an array holds it; as at() tells it -/
def b8 (c : Nat) : Int32 := (nI c).toInt8.toInt32
def bI (c : Nat) : Int32 := if c < 256 then nI c else -1
def rn (x : Nat → Nat) : Nat → Nat → Nat
  | q, 0 => q
  | q, k + 1 => if dg (x q) then rn x (q + 1) k else q
/-- where the digits end, or where their fault is -/
def dgq (x : Nat → Nat) (p most : Nat) : Nat := if dg (x p) then (if x p = 48 then p + 1 else rn x p most) else p
def dgo (x : Nat → Nat) (p most c : Nat) : Bool := decide (dg (x p)) && decide (x (dgq x p most) = c)
def vlk (x : Nat → Nat) (p : Nat) : Nat → Nat
  | 0 => 0
  | k + 1 => 10 * vlk x p k + (x (p + k) - 48)
def TX (t : Nat → Int32) (n : Nat) (x : Nat → Nat) : Prop := n ≤ 6000 ∧ ∀ p, (p < n → t p = b8 (x p) ∧ x p < 256) ∧ (n ≤ p → x p = 256)
theorem b8_and : ∀ c, c < 256 → b8 c &&& 255 = nI c := by
  intro c hc
  exact sc_k8 c hc
theorem b8_nI : ∀ c, c < 256 → ∀ k, k < 128 → (b8 c = nI k ↔ c = k) := by decide +kernel
theorem bI_dg {c : Nat} (hc : c ≤ 256) : (bI c < 48 → ¬ dg c) ∧ (57 < bI c → ¬ dg c) ∧ (¬ bI c < 48 → ¬ 57 < bI c → dg c) := by
  unfold bI
  by_cases h : c < 256
  · rw [if_pos h, show (48 : Int32) = nI 48 from rfl, show (57 : Int32) = nI 57 from rfl, nI_ltI (by omega) (by omega), nI_ltI (by omega) (by omega)]
    omega
  · rw [if_neg h]
    have e : c = 256 := by omega
    subst e
    decide
theorem bI_eq {c k : Nat} (hc : c ≤ 256) (hk : k < 256) : bI c = nI k ↔ c = k := by
  unfold bI
  by_cases h : c < 256
  · rw [if_pos h, nI_eq (by omega) (by omega)]
  · rw [if_neg h]
    constructor
    · intro q
      exfalso
      have q2 := congrArg Int32.toInt q
      rw [nI_toInt (by omega)] at q2
      have : (-1 : Int32).toInt = -1 := by decide
      omega
    · intro q
      omega
section
variable {d : Nat} {h : PzH} {Q : Option Value → PzH → Prop} {mo : Nat} {g : Nat → Nat → Int32} {x : Nat → Nat} {n : Nat}
theorem TX_le (T : TX (g 1) n x) (p : Nat) : x p ≤ 256 := by
  by_cases hp : p < n
  · exact Nat.le_of_lt ((T.2 p).1 hp).2
  · rw [(T.2 p).2 (by omega)]
    omega
theorem TX_lt (T : TX (g 1) n x) {p : Nat} (h : x p < 256) : p < n := by
  apply Decidable.byContradiction
  intro q
  rw [(T.2 p).2 (by omega)] at h
  omega
theorem g_byteAt (H : MO h mo) (T : TX (g 1) n x) (hz : g 0 9 = nI n) {p : Nat} (hp : p < 2 ^ 31) : pz_M (d + 1) mX10_byteAt [.ref mo, .int (nI p)] (mh h mo g) Q ↔ Q (some (.int (bI (x p)))) (mh h mo g) := by
  have hn := T.1
  simp only [enX10_byteAt, uX10_byteAt_0, uX10_byteAt_1, uX10_byteAt_1o, uX10_byteAt_1f, uX10_byteAt_2, uX10_byteAt_5, uX10_byteAt_8, uX10_byteAt_8o, uX10_byteAt_8f, uX10_byteAt_9, uX10_byteAt_12, uX10_byteAt_13, uX10_byteAt_14, uX10_byteAt_17, uX10_byteAt_18, uX10_byteAt_21, uX10_byteAt_22, mo_C H, mo_R_tape H, mo_C_tape H, mo_L_tape H, pq_C_sI, pq_C_sJ, pq_C_sR, pq_C_sA, pq_L_sI, pq_L_sJ, pq_L_sR, pq_L_sA, pq_I_sI, pq_I_sJ, pq_I_sR, pq_I_sA, pq_J_sI, pq_J_sJ, pq_J_sR, pq_J_sA, pq_R_sI, pq_R_sJ, pq_R_sR, pq_R_sA, pq_N_sI, pq_N_sJ, pq_N_sR, pq_N_sA, pq_S_sI, pq_S_sJ, pq_S_sR, pq_S_sA, pz_rf_s, pz_cut_i, pz_cut_r, pz_cut_n, pz_cut_f, pz_cut_u, pz_cut_o, true_and, and_true, true_or, or_true, Option.toList_some, Option.toList_none, List.cons_append, List.nil_append, Nat.add_left_cancel_iff, Nat.left_eq_add, Nat.add_eq_left, Nat.reduceEqDiff, if_true, if_false, ite_true, ite_false, false_and, and_false, false_or, or_false, reduceIte, reduceCtorEq, and_self, mh_C, mh_L, mh_R, mh_J, mh_I0, mh_I, mh_Ir, mh_sI0, mh_sI, mh_sA, gu_11, gu_22, gu_r, gu_21s, gu_21c, gu_22s, gu_11s, gu_11c, gu_22c, Nat.reduceLeDiff, Nat.reduceLT, ne_eq, not_false_eq_true, not_true_eq_false, Nat.reduceEqDiff, Nat.lt_irrefl, eq_self, z_4, z_5, z_7, z_8, z_10, z_16, z_20, z_64, hz]
  by_cases q : p < n
  · rw [if_neg (nI_ge q (by omega))]
    simp (disch := omega) only [pz_in_nI, nI_clamp, true_and]
    rw [((T.2 p).1 q).1, b8_and _ ((T.2 p).1 q).2, bI, if_pos ((T.2 p).1 q).2]
  · rw [if_pos (nI_le (by omega) hp), (T.2 p).2 (by omega)]
    rfl
theorem g_isDigit {c : Nat} (hc : c ≤ 256) : pz_M (d + 1) mX10_isDigit [.int (bI c)] h Q ↔ Q (some (.int (if dg c then 1 else 0))) h := by
  simp only [enX10_isDigit, uX10_isDigit_0, uX10_isDigit_1, uX10_isDigit_3, uX10_isDigit_6, uX10_isDigit_7, uX10_isDigit_9, uX10_isDigit_12, uX10_isDigit_13, uX10_isDigit_16, uX10_isDigit_17, pq_C_sI, pq_C_sJ, pq_C_sR, pq_C_sA, pq_L_sI, pq_L_sJ, pq_L_sR, pq_L_sA, pq_I_sI, pq_I_sJ, pq_I_sR, pq_I_sA, pq_J_sI, pq_J_sJ, pq_J_sR, pq_J_sA, pq_R_sI, pq_R_sJ, pq_R_sR, pq_R_sA, pq_N_sI, pq_N_sJ, pq_N_sR, pq_N_sA, pq_S_sI, pq_S_sJ, pq_S_sR, pq_S_sA, pz_rf_s, pz_cut_i, pz_cut_r, pz_cut_n, pz_cut_f, pz_cut_u, pz_cut_o, true_and, and_true, true_or, or_true, Option.toList_some, Option.toList_none, List.cons_append, List.nil_append, Nat.add_left_cancel_iff, Nat.left_eq_add, Nat.add_eq_left, Nat.reduceEqDiff, if_true, if_false, ite_true, ite_false, false_and, and_false, false_or, or_false, reduceIte, reduceCtorEq, and_self]
  obtain ⟨a1, a2, a3⟩ := bI_dg hc
  by_cases h1 : bI c < 48
  · rw [if_pos h1, if_neg (a1 h1)]
  · rw [if_neg h1]
    by_cases h2 : 57 < bI c
    · rw [if_pos h2, if_neg (a2 h2)]
    · rw [if_neg h2, if_pos (a3 h1 h2)]
theorem rn_le {q k : Nat} : q ≤ rn x q k ∧ rn x q k ≤ q + k := by
  induction k generalizing q with
  | zero => exact ⟨Nat.le_refl _, Nat.le_refl _⟩
  | succ k ih =>
    unfold rn
    split
    · have := @ih (q + 1)
      omega
    · omega
theorem g_dgl (H : MO h mo) (T : TX (g 1) n x) (hz : g 0 9 = nI n) {p most : Nat} {c : Int32} (hm : most ≤ 9) (hp : p < 2 ^ 30) : ∀ k q, q + k = p + most → p ≤ q → (wp (d + 1) mX10_digits 40 [.ref mo, .int (nI p), .int (nI most), .int c, .int (nI q)] [] (mh h mo g) Q ↔ wp (d + 1) mX10_digits 66 [.ref mo, .int (nI p), .int (nI most), .int c, .int (nI (rn x q k))] [] (mh h mo g) Q) := by
  intro k
  induction k with
  | zero =>
    intro q hq h1
    rw [uX10_digits_40]
    simp only [enX10_digits, uX10_digits_0, uX10_digits_1, uX10_digits_3, uX10_digits_3o, uX10_digits_3f, uX10_digits_4, uX10_digits_6, uX10_digits_9, uX10_digits_12, uX10_digits_15, uX10_digits_15o, uX10_digits_15f, uX10_digits_16, uX10_digits_18, uX10_digits_21, uX10_digits_22, uX10_digits_23, uX10_digits_23o, uX10_digits_23f, uX10_digits_24, uX10_digits_26, uX10_digits_29, uX10_digits_31, uX10_digits_34, uX10_digits_37, uX10_digits_41, uX10_digits_43, uX10_digits_46, uX10_digits_49, uX10_digits_52, uX10_digits_54, uX10_digits_55, uX10_digits_56, uX10_digits_57, uX10_digits_60, uX10_digits_63, uX10_digits_67, uX10_digits_69, uX10_digits_72, uX10_digits_73, uX10_digits_76, uX10_digits_76o, uX10_digits_76f, uX10_digits_77, uX10_digits_79, uX10_digits_82, uX10_digits_83, uX10_digits_84, uX10_digits_86, g_byteAt H T hz (show q < 2 ^ 31 by omega), g_isDigit (TX_le T q), mo_C H, mo_R_tape H, mo_C_tape H, mo_L_tape H, pq_C_sI, pq_C_sJ, pq_C_sR, pq_C_sA, pq_L_sI, pq_L_sJ, pq_L_sR, pq_L_sA, pq_I_sI, pq_I_sJ, pq_I_sR, pq_I_sA, pq_J_sI, pq_J_sJ, pq_J_sR, pq_J_sA, pq_R_sI, pq_R_sJ, pq_R_sR, pq_R_sA, pq_N_sI, pq_N_sJ, pq_N_sR, pq_N_sA, pq_S_sI, pq_S_sJ, pq_S_sR, pq_S_sA, pz_rf_s, pz_cut_i, pz_cut_r, pz_cut_n, pz_cut_f, pz_cut_u, pz_cut_o, true_and, and_true, true_or, or_true, Option.toList_some, Option.toList_none, List.cons_append, List.nil_append, Nat.add_left_cancel_iff, Nat.left_eq_add, Nat.add_eq_left, Nat.reduceEqDiff, if_true, if_false, ite_true, ite_false, false_and, and_false, false_or, or_false, reduceIte, reduceCtorEq, and_self, mh_C, mh_L, mh_R, mh_J, mh_I0, mh_I, mh_Ir, mh_sI0, mh_sI, mh_sA, gu_11, gu_22, gu_r, gu_21s, gu_21c, gu_22s, gu_11s, gu_11c, gu_22c, Nat.reduceLeDiff, Nat.reduceLT, ne_eq, not_false_eq_true, not_true_eq_false, Nat.reduceEqDiff, Nat.lt_irrefl, eq_self, z_4, z_5, z_7, z_8, z_10, z_16, z_20, z_64]
    rw [show rn x q 0 = q from rfl]
    by_cases h2 : dg (x q)
    · rw [if_pos h2, if_neg (by decide), pk_sub h1, show q - p = most by omega, if_pos (nI_le (Nat.le_refl _) (by omega))]
    · rw [if_neg h2, if_pos rfl]
  | succ k ih =>
    intro q hq h1
    rw [uX10_digits_40]
    simp only [enX10_digits, uX10_digits_0, uX10_digits_1, uX10_digits_3, uX10_digits_3o, uX10_digits_3f, uX10_digits_4, uX10_digits_6, uX10_digits_9, uX10_digits_12, uX10_digits_15, uX10_digits_15o, uX10_digits_15f, uX10_digits_16, uX10_digits_18, uX10_digits_21, uX10_digits_22, uX10_digits_23, uX10_digits_23o, uX10_digits_23f, uX10_digits_24, uX10_digits_26, uX10_digits_29, uX10_digits_31, uX10_digits_34, uX10_digits_37, uX10_digits_41, uX10_digits_43, uX10_digits_46, uX10_digits_49, uX10_digits_52, uX10_digits_54, uX10_digits_55, uX10_digits_56, uX10_digits_57, uX10_digits_60, uX10_digits_63, uX10_digits_67, uX10_digits_69, uX10_digits_72, uX10_digits_73, uX10_digits_76, uX10_digits_76o, uX10_digits_76f, uX10_digits_77, uX10_digits_79, uX10_digits_82, uX10_digits_83, uX10_digits_84, uX10_digits_86, g_byteAt H T hz (show q < 2 ^ 31 by omega), g_isDigit (TX_le T q), mo_C H, mo_R_tape H, mo_C_tape H, mo_L_tape H, pq_C_sI, pq_C_sJ, pq_C_sR, pq_C_sA, pq_L_sI, pq_L_sJ, pq_L_sR, pq_L_sA, pq_I_sI, pq_I_sJ, pq_I_sR, pq_I_sA, pq_J_sI, pq_J_sJ, pq_J_sR, pq_J_sA, pq_R_sI, pq_R_sJ, pq_R_sR, pq_R_sA, pq_N_sI, pq_N_sJ, pq_N_sR, pq_N_sA, pq_S_sI, pq_S_sJ, pq_S_sR, pq_S_sA, pz_rf_s, pz_cut_i, pz_cut_r, pz_cut_n, pz_cut_f, pz_cut_u, pz_cut_o, true_and, and_true, true_or, or_true, Option.toList_some, Option.toList_none, List.cons_append, List.nil_append, Nat.add_left_cancel_iff, Nat.left_eq_add, Nat.add_eq_left, Nat.reduceEqDiff, if_true, if_false, ite_true, ite_false, false_and, and_false, false_or, or_false, reduceIte, reduceCtorEq, and_self, mh_C, mh_L, mh_R, mh_J, mh_I0, mh_I, mh_Ir, mh_sI0, mh_sI, mh_sA, gu_11, gu_22, gu_r, gu_21s, gu_21c, gu_22s, gu_11s, gu_11c, gu_22c, Nat.reduceLeDiff, Nat.reduceLT, ne_eq, not_false_eq_true, not_true_eq_false, Nat.reduceEqDiff, Nat.lt_irrefl, eq_self, z_4, z_5, z_7, z_8, z_10, z_16, z_20, z_64]
    unfold rn
    by_cases h2 : dg (x q)
    · rw [if_pos h2, if_neg (by decide), pk_sub h1, if_neg (nI_ge (show q - p < most by omega) (by omega)), if_pos h2, nI_1]
      exact ih (q + 1) (by omega) (by omega)
    · rw [if_neg h2, if_pos rfl, if_neg h2]
theorem g_digits (H : MO h mo) (T : TX (g 1) n x) (hz : g 0 9 = nI n) {p most c : Nat} (hm : most ≤ 9) (hp : p < 2 ^ 30) (hc : c < 256) : pz_M (d + 2) mX10_digits [.ref mo, .int (nI p), .int (nI most), .int (nI c)] (mh h mo g) Q ↔ (if dgo x p most c = true then Q (some (.int (nI (dgq x p most)))) (mh h mo g) else Q (some (.int (-1))) (mh h mo (pz_u2 g 0 10 (nI (dgq x p most))))) := by
  have tail : ∀ q, q < 2 ^ 31 → (wp (d + 1) mX10_digits 66 [.ref mo, .int (nI p), .int (nI most), .int (nI c), .int (nI q)] [] (mh h mo g) Q ↔ (if x q = c then Q (some (.int (nI q))) (mh h mo g) else Q (some (.int (-1))) (mh h mo (pz_u2 g 0 10 (nI q))))) := by
    intro q hq
    simp only [enX10_digits, uX10_digits_0, uX10_digits_1, uX10_digits_3, uX10_digits_3o, uX10_digits_3f, uX10_digits_4, uX10_digits_6, uX10_digits_9, uX10_digits_12, uX10_digits_15, uX10_digits_15o, uX10_digits_15f, uX10_digits_16, uX10_digits_18, uX10_digits_21, uX10_digits_22, uX10_digits_23, uX10_digits_23o, uX10_digits_23f, uX10_digits_24, uX10_digits_26, uX10_digits_29, uX10_digits_31, uX10_digits_34, uX10_digits_37, uX10_digits_41, uX10_digits_43, uX10_digits_46, uX10_digits_49, uX10_digits_52, uX10_digits_54, uX10_digits_55, uX10_digits_56, uX10_digits_57, uX10_digits_60, uX10_digits_63, uX10_digits_66, uX10_digits_66o, uX10_digits_66f, uX10_digits_67, uX10_digits_69, uX10_digits_72, uX10_digits_73, uX10_digits_76, uX10_digits_76o, uX10_digits_76f, uX10_digits_77, uX10_digits_79, uX10_digits_82, uX10_digits_83, uX10_digits_84, uX10_digits_86, g_byteAt H T hz hq, mo_C H, mo_R_tape H, mo_C_tape H, mo_L_tape H, pq_C_sI, pq_C_sJ, pq_C_sR, pq_C_sA, pq_L_sI, pq_L_sJ, pq_L_sR, pq_L_sA, pq_I_sI, pq_I_sJ, pq_I_sR, pq_I_sA, pq_J_sI, pq_J_sJ, pq_J_sR, pq_J_sA, pq_R_sI, pq_R_sJ, pq_R_sR, pq_R_sA, pq_N_sI, pq_N_sJ, pq_N_sR, pq_N_sA, pq_S_sI, pq_S_sJ, pq_S_sR, pq_S_sA, pz_rf_s, pz_cut_i, pz_cut_r, pz_cut_n, pz_cut_f, pz_cut_u, pz_cut_o, true_and, and_true, true_or, or_true, Option.toList_some, Option.toList_none, List.cons_append, List.nil_append, Nat.add_left_cancel_iff, Nat.left_eq_add, Nat.add_eq_left, Nat.reduceEqDiff, if_true, if_false, ite_true, ite_false, false_and, and_false, false_or, or_false, reduceIte, reduceCtorEq, and_self, mh_C, mh_L, mh_R, mh_J, mh_I0, mh_I, mh_Ir, mh_sI0, mh_sI, mh_sA, gu_11, gu_22, gu_r, gu_21s, gu_21c, gu_22s, gu_11s, gu_11c, gu_22c, Nat.reduceLeDiff, Nat.reduceLT, ne_eq, not_false_eq_true, not_true_eq_false, Nat.reduceEqDiff, Nat.lt_irrefl, eq_self, z_4, z_5, z_7, z_8, z_10, z_16, z_20, z_64]
    by_cases h3 : x q = c
    · rw [if_pos ((bI_eq (TX_le T q) hc).mpr h3), if_pos h3]
    · rw [if_neg (fun r => h3 ((bI_eq (TX_le T q) hc).mp r)), if_neg h3]
  simp only [enX10_digits, uX10_digits_0, uX10_digits_1, uX10_digits_3, uX10_digits_3o, uX10_digits_3f, uX10_digits_4, uX10_digits_6, uX10_digits_9, uX10_digits_12, uX10_digits_15, uX10_digits_15o, uX10_digits_15f, uX10_digits_16, uX10_digits_18, uX10_digits_21, uX10_digits_22, uX10_digits_23, uX10_digits_23o, uX10_digits_23f, uX10_digits_24, uX10_digits_26, uX10_digits_29, uX10_digits_31, uX10_digits_34, uX10_digits_37, uX10_digits_41, uX10_digits_43, uX10_digits_46, uX10_digits_49, uX10_digits_52, uX10_digits_54, uX10_digits_55, uX10_digits_56, uX10_digits_57, uX10_digits_60, uX10_digits_63, uX10_digits_67, uX10_digits_69, uX10_digits_72, uX10_digits_73, uX10_digits_76, uX10_digits_76o, uX10_digits_76f, uX10_digits_77, uX10_digits_79, uX10_digits_82, uX10_digits_83, uX10_digits_84, uX10_digits_86, g_byteAt H T hz (show p < 2 ^ 31 by omega), g_isDigit (TX_le T p), mo_C H, mo_R_tape H, mo_C_tape H, mo_L_tape H, pq_C_sI, pq_C_sJ, pq_C_sR, pq_C_sA, pq_L_sI, pq_L_sJ, pq_L_sR, pq_L_sA, pq_I_sI, pq_I_sJ, pq_I_sR, pq_I_sA, pq_J_sI, pq_J_sJ, pq_J_sR, pq_J_sA, pq_R_sI, pq_R_sJ, pq_R_sR, pq_R_sA, pq_N_sI, pq_N_sJ, pq_N_sR, pq_N_sA, pq_S_sI, pq_S_sJ, pq_S_sR, pq_S_sA, pz_rf_s, pz_cut_i, pz_cut_r, pz_cut_n, pz_cut_f, pz_cut_u, pz_cut_o, true_and, and_true, true_or, or_true, Option.toList_some, Option.toList_none, List.cons_append, List.nil_append, Nat.add_left_cancel_iff, Nat.left_eq_add, Nat.add_eq_left, Nat.reduceEqDiff, if_true, if_false, ite_true, ite_false, false_and, and_false, false_or, or_false, reduceIte, reduceCtorEq, and_self, mh_C, mh_L, mh_R, mh_J, mh_I0, mh_I, mh_Ir, mh_sI0, mh_sI, mh_sA, gu_11, gu_22, gu_r, gu_21s, gu_21c, gu_22s, gu_11s, gu_11c, gu_22c, Nat.reduceLeDiff, Nat.reduceLT, ne_eq, not_false_eq_true, not_true_eq_false, Nat.reduceEqDiff, Nat.lt_irrefl, eq_self, z_4, z_5, z_7, z_8, z_10, z_16, z_20, z_64]
  unfold dgo dgq
  by_cases h1 : dg (x p)
  · rw [if_pos h1, if_pos (by decide), if_pos h1]
    by_cases h2 : x p = 48
    · rw [if_neg (show ¬ ¬ bI (x p) = 48 from fun r => r ((bI_eq (k := 48) (TX_le T p) (by omega)).mpr h2)), if_pos h2, nI_1, tail (p + 1) (by omega)]
      simp [h1]
    · rw [if_pos (show ¬ bI (x p) = 48 from fun r => h2 ((bI_eq (k := 48) (TX_le T p) (by omega)).mp r)), if_neg h2, g_dgl H T hz hm hp most p rfl (Nat.le_refl _), tail _ (by have := @rn_le x p most; omega)]
      simp [h1]
  · rw [if_neg h1, if_neg (by decide), if_neg h1]
    simp [h1]
end
