/-! ===== the reference: numbers and strings of bencode ===== -/
theorem b8_inj {a b : Nat} (ha : a < 256) (hb : b < 256) : b8 a = b8 b ↔ a = b := by
  constructor
  · intro q
    have := congrArg (fun z => z &&& (255 : Int32)) q
    simp only [b8_and a ha, b8_and b hb] at this
    exact (nI_eq (by omega) (by omega)).mp this
  · intro q
    rw [q]
theorem b8_lo : ∀ c, c < 128 → b8 c = nI c := by decide +kernel
def DR (x : Nat → Nat) (p k : Nat) : Prop := ∀ i, i < k → dg (x (p + i))
theorem rn_dr {x : Nat → Nat} {k q : Nat} : DR x q (rn x q k - q) := by
  induction k generalizing q with
  | zero => intro i hi; simp [rn] at hi
  | succ k ih =>
    intro i hi
    unfold rn at hi
    by_cases h1 : dg (x q)
    · rw [if_pos h1] at hi
      by_cases h0 : i = 0
      · subst h0; exact h1
      · have := @ih (q + 1) (i - 1) (by have := @rn_le x (q + 1) k; omega)
        rwa [show q + 1 + (i - 1) = q + i by omega] at this
    · rw [if_neg h1] at hi
      omega
theorem rn_gt {x : Nat → Nat} {k q : Nat} (h : dg (x q)) : q < rn x q (k + 1) := by
  unfold rn
  rw [if_pos h]
  have := @rn_le x (q + 1) k
  omega
/-- digits, all of them, then that byte -/
def SK (x : Nat → Nat) (p most c e : Nat) : Prop := p < e ∧ e ≤ p + most ∧ DR x p (e - p) ∧ x e = c
theorem dgo_SK {x : Nat → Nat} {p most c : Nat} (hm : 0 < most) (h : dgo x p most c = true) : SK x p most c (dgq x p most) := by
  unfold dgo at h
  rw [Bool.and_eq_true, decide_eq_true_eq, decide_eq_true_eq] at h
  obtain ⟨h1, h2⟩ := h
  obtain ⟨k, rfl⟩ : ∃ k, most = k + 1 := ⟨most - 1, by omega⟩
  refine ⟨?_, ?_, ?_, h2⟩
  · unfold dgq
    rw [if_pos h1]
    split
    · omega
    · exact rn_gt h1
  · unfold dgq
    rw [if_pos h1]
    split
    · omega
    · exact rn_le.2
  · unfold dgq
    rw [if_pos h1]
    split
    · intro i hi
      have : i = 0 := by omega
      subst this
      exact h1
    · exact rn_dr
theorem vlk_lt {x : Nat → Nat} {p k : Nat} (h : DR x p k) : vlk x p k < 10 ^ k := by
  induction k with
  | zero => exact Nat.one_pos
  | succ k ih =>
    have h1 := ih (fun i hi => h i (by omega))
    have h2 := h k (by omega)
    unfold vlk
    rw [Nat.pow_succ]
    unfold dg at h2
    omega
def stE (x : Nat → Nat) (p : Nat) : Nat := dgq x p 4
def stN (x : Nat → Nat) (p : Nat) : Nat := vlk x p (stE x p - p)
def stEnd (x : Nat → Nat) (p : Nat) : Nat := stE x p + 1 + stN x p
def stF (x : Nat → Nat) (n p : Nat) : Option Nat := if dgo x p 4 58 = true then (if stEnd x p ≤ n then none else some p) else some (dgq x p 4)
def nuQ (x : Nat → Nat) (p : Nat) : Nat := if x (p + 1) = 45 then p + 2 else p + 1
def nuF (x : Nat → Nat) (p : Nat) : Option Nat := if x (p + 1) = 45 ∧ x (p + 2) = 48 then some (p + 2) else if dgo x (nuQ x p) 9 101 = true then none else some (dgq x (nuQ x p) 9)
def nuEnd (x : Nat → Nat) (p : Nat) : Nat := dgq x (nuQ x p) 9 + 1
theorem dgq_le {x : Nat → Nat} {p most : Nat} (hm : 0 < most) : p ≤ dgq x p most ∧ dgq x p most ≤ p + most := by
  unfold dgq
  have := @rn_le x p most
  split
  · split <;> omega
  · omega
theorem pow_9 {k : Nat} (h : k ≤ 9) : 10 ^ k ≤ 1000000000 := by
  have := Nat.pow_le_pow_right (n := 10) (by omega) h
  omega
theorem pow_4 {k : Nat} (h : k ≤ 4) : 10 ^ k ≤ 10000 := by
  have := Nat.pow_le_pow_right (n := 10) (by omega) h
  omega
theorem stN_lt {x : Nat → Nat} {p : Nat} (h : dgo x p 4 58 = true) : stN x p < 10000 := by
  obtain ⟨a1, a2, a3, a4⟩ := dgo_SK (by omega) h
  have := vlk_lt a3
  have := @pow_4 (dgq x p 4 - p) (by omega)
  unfold stN stE
  omega
section
variable {d : Nat} {h : PzH} {Q : Option Value → PzH → Prop} {mo : Nat} {g : Nat → Nat → Int32} {x : Nat → Nat} {n : Nat}
theorem TX_at (T : TX (g 1) n x) {p : Nat} (hx : x p < 256) : g 1 p = b8 (x p) := ((T.2 p).1 (TX_lt T hx)).1
theorem dg_lt {c : Nat} (h : dg c) : c < 128 := by
  unfold dg at h
  omega
theorem g_valueOf (H : MO h mo) (T : TX (g 1) n x) {p k e : Nat} (hk : k ≤ 9) (he : e = p + k) (hd : DR x p k) (hen : p + k ≤ 6000) : pz_M (d + 1) mX10_valueOf [.ref mo, .int (nI p), .int (nI e)] (mh h mo g) Q ↔ Q (some (.int (nI (vlk x p k)))) (mh h mo g) := by
  subst he
  simp only [enX10_valueOf, uX10_valueOf_0, uX10_valueOf_1, uX10_valueOf_2, uX10_valueOf_3, uX10_valueOf_7, uX10_valueOf_8, uX10_valueOf_11, uX10_valueOf_13, uX10_valueOf_14, uX10_valueOf_15, uX10_valueOf_15o, uX10_valueOf_15f, uX10_valueOf_16, uX10_valueOf_19, uX10_valueOf_21, uX10_valueOf_22, uX10_valueOf_23, uX10_valueOf_25, uX10_valueOf_26, uX10_valueOf_27, uX10_valueOf_30, uX10_valueOf_33, uX10_valueOf_34, mo_C H, mo_R_tape H, mo_C_tape H, mo_L_tape H, pq_C_sI, pq_C_sJ, pq_C_sR, pq_C_sA, pq_L_sI, pq_L_sJ, pq_L_sR, pq_L_sA, pq_I_sI, pq_I_sJ, pq_I_sR, pq_I_sA, pq_J_sI, pq_J_sJ, pq_J_sR, pq_J_sA, pq_R_sI, pq_R_sJ, pq_R_sR, pq_R_sA, pq_N_sI, pq_N_sJ, pq_N_sR, pq_N_sA, pq_S_sI, pq_S_sJ, pq_S_sR, pq_S_sA, pz_rf_s, pz_cut_i, pz_cut_r, pz_cut_n, pz_cut_f, pz_cut_u, pz_cut_o, true_and, and_true, true_or, or_true, Option.toList_some, Option.toList_none, List.cons_append, List.nil_append, Nat.add_left_cancel_iff, Nat.left_eq_add, Nat.add_eq_left, Nat.reduceEqDiff, if_true, if_false, ite_true, ite_false, false_and, and_false, false_or, or_false, reduceIte, reduceCtorEq, and_self, mh_C, mh_L, mh_R, mh_J, mh_I0, mh_I, mh_Ir, mh_sI0, mh_sI, mh_sA, gu_11, gu_22, gu_r, gu_21s, gu_21c, gu_22s, gu_11s, gu_11c, gu_22c, Nat.reduceLeDiff, Nat.reduceLT, ne_eq, not_false_eq_true, not_true_eq_false, Nat.reduceEqDiff, Nat.lt_irrefl, eq_self, z_4, z_5, z_7, z_8, z_10, z_16, z_20, z_64]
  have key := wp_for (d := d) (m := mX10_valueOf) (pc := 5) (Q := Q) (fun i => mh h mo g) (fun i => [.ref mo, .int (nI p), .int (nI (p + k)), .int (nI (vlk x p i)), .int (nI (p + i))]) k (fun i hi => by
    have h1 := hd i hi
    have h2 := TX_lt T (show x (p + i) < 256 by have := dg_lt h1; omega)
    have h3 := TX_at T (show x (p + i) < 256 by have := dg_lt h1; omega)
    have h4 : 48 ≤ x (p + i) := h1.1
    have hn := T.1
    rw [uX10_valueOf_5]
    simp only [enX10_valueOf, uX10_valueOf_0, uX10_valueOf_1, uX10_valueOf_2, uX10_valueOf_3, uX10_valueOf_7, uX10_valueOf_8, uX10_valueOf_11, uX10_valueOf_13, uX10_valueOf_14, uX10_valueOf_15, uX10_valueOf_15o, uX10_valueOf_15f, uX10_valueOf_16, uX10_valueOf_19, uX10_valueOf_21, uX10_valueOf_22, uX10_valueOf_23, uX10_valueOf_25, uX10_valueOf_26, uX10_valueOf_27, uX10_valueOf_30, uX10_valueOf_33, uX10_valueOf_34, mo_C H, mo_R_tape H, mo_C_tape H, mo_L_tape H, pq_C_sI, pq_C_sJ, pq_C_sR, pq_C_sA, pq_L_sI, pq_L_sJ, pq_L_sR, pq_L_sA, pq_I_sI, pq_I_sJ, pq_I_sR, pq_I_sA, pq_J_sI, pq_J_sJ, pq_J_sR, pq_J_sA, pq_R_sI, pq_R_sJ, pq_R_sR, pq_R_sA, pq_N_sI, pq_N_sJ, pq_N_sR, pq_N_sA, pq_S_sI, pq_S_sJ, pq_S_sR, pq_S_sA, pz_rf_s, pz_cut_i, pz_cut_r, pz_cut_n, pz_cut_f, pz_cut_u, pz_cut_o, true_and, and_true, true_or, or_true, Option.toList_some, Option.toList_none, List.cons_append, List.nil_append, Nat.add_left_cancel_iff, Nat.left_eq_add, Nat.add_eq_left, Nat.reduceEqDiff, if_true, if_false, ite_true, ite_false, false_and, and_false, false_or, or_false, reduceIte, reduceCtorEq, and_self, mh_C, mh_L, mh_R, mh_J, mh_I0, mh_I, mh_Ir, mh_sI0, mh_sI, mh_sA, gu_11, gu_22, gu_r, gu_21s, gu_21c, gu_22s, gu_11s, gu_11c, gu_22c, Nat.reduceLeDiff, Nat.reduceLT, ne_eq, not_false_eq_true, not_true_eq_false, Nat.reduceEqDiff, Nat.lt_irrefl, eq_self, z_4, z_5, z_7, z_8, z_10, z_16, z_20, z_64]
    rw [if_neg (nI_ge (by omega) (by omega))]
    simp (disch := omega) only [pz_in_nI, nI_clamp, true_and]
    rw [h3, b8_lo _ (dg_lt h1), show (10 : Int32) = nI 10 from rfl, show (48 : Int32) = nI 48 from rfl, pk_mul, nI_add, pk_sub (by omega), nI_1, show 10 * vlk x p i + x (p + i) - 48 = vlk x p (i + 1) by rw [show vlk x p (i + 1) = 10 * vlk x p i + (x (p + i) - 48) from rfl]; omega, Nat.add_assoc])
  rw [show (0 : Int32) = nI (vlk x p 0) from rfl]
  refine (show _ ↔ _ from key).trans ?_
  rw [uX10_valueOf_5]
  simp only [enX10_valueOf, uX10_valueOf_0, uX10_valueOf_1, uX10_valueOf_2, uX10_valueOf_3, uX10_valueOf_7, uX10_valueOf_8, uX10_valueOf_11, uX10_valueOf_13, uX10_valueOf_14, uX10_valueOf_15, uX10_valueOf_15o, uX10_valueOf_15f, uX10_valueOf_16, uX10_valueOf_19, uX10_valueOf_21, uX10_valueOf_22, uX10_valueOf_23, uX10_valueOf_25, uX10_valueOf_26, uX10_valueOf_27, uX10_valueOf_30, uX10_valueOf_33, uX10_valueOf_34, mo_C H, mo_R_tape H, mo_C_tape H, mo_L_tape H, pq_C_sI, pq_C_sJ, pq_C_sR, pq_C_sA, pq_L_sI, pq_L_sJ, pq_L_sR, pq_L_sA, pq_I_sI, pq_I_sJ, pq_I_sR, pq_I_sA, pq_J_sI, pq_J_sJ, pq_J_sR, pq_J_sA, pq_R_sI, pq_R_sJ, pq_R_sR, pq_R_sA, pq_N_sI, pq_N_sJ, pq_N_sR, pq_N_sA, pq_S_sI, pq_S_sJ, pq_S_sR, pq_S_sA, pz_rf_s, pz_cut_i, pz_cut_r, pz_cut_n, pz_cut_f, pz_cut_u, pz_cut_o, true_and, and_true, true_or, or_true, Option.toList_some, Option.toList_none, List.cons_append, List.nil_append, Nat.add_left_cancel_iff, Nat.left_eq_add, Nat.add_eq_left, Nat.reduceEqDiff, if_true, if_false, ite_true, ite_false, false_and, and_false, false_or, or_false, reduceIte, reduceCtorEq, and_self, mh_C, mh_L, mh_R, mh_J, mh_I0, mh_I, mh_Ir, mh_sI0, mh_sI, mh_sA, gu_11, gu_22, gu_r, gu_21s, gu_21c, gu_22s, gu_11s, gu_11c, gu_22c, Nat.reduceLeDiff, Nat.reduceLT, ne_eq, not_false_eq_true, not_true_eq_false, Nat.reduceEqDiff, Nat.lt_irrefl, eq_self, z_4, z_5, z_7, z_8, z_10, z_16, z_20, z_64]
  rw [if_pos (nI_le (Nat.le_refl _) (by omega))]
theorem g_textAt (H : MO h mo) (T : TX (g 1) n x) {p e : Nat} (hs : SK x p 4 58 e) : pz_M (d + 1) mX10_textAt [.ref mo, .int (nI p)] (mh h mo g) Q ↔ Q (some (.int (nI (e + 1)))) (mh h mo g) := by
  obtain ⟨a1, a2, a3, a4⟩ := hs
  have hn := T.1
  have he := TX_lt T (show x e < 256 by omega)
  simp only [enX10_textAt, uX10_textAt_0, uX10_textAt_1, uX10_textAt_3, uX10_textAt_6, uX10_textAt_7, uX10_textAt_8, uX10_textAt_10, uX10_textAt_13, uX10_textAt_16, uX10_textAt_19, uX10_textAt_20, uX10_textAt_21, uX10_textAt_22, mo_C H, mo_R_tape H, mo_C_tape H, mo_L_tape H, pq_C_sI, pq_C_sJ, pq_C_sR, pq_C_sA, pq_L_sI, pq_L_sJ, pq_L_sR, pq_L_sA, pq_I_sI, pq_I_sJ, pq_I_sR, pq_I_sA, pq_J_sI, pq_J_sJ, pq_J_sR, pq_J_sA, pq_R_sI, pq_R_sJ, pq_R_sR, pq_R_sA, pq_N_sI, pq_N_sJ, pq_N_sR, pq_N_sA, pq_S_sI, pq_S_sJ, pq_S_sR, pq_S_sA, pz_rf_s, pz_cut_i, pz_cut_r, pz_cut_n, pz_cut_f, pz_cut_u, pz_cut_o, true_and, and_true, true_or, or_true, Option.toList_some, Option.toList_none, List.cons_append, List.nil_append, Nat.add_left_cancel_iff, Nat.left_eq_add, Nat.add_eq_left, Nat.reduceEqDiff, if_true, if_false, ite_true, ite_false, false_and, and_false, false_or, or_false, reduceIte, reduceCtorEq, and_self, mh_C, mh_L, mh_R, mh_J, mh_I0, mh_I, mh_Ir, mh_sI0, mh_sI, mh_sA, gu_11, gu_22, gu_r, gu_21s, gu_21c, gu_22s, gu_11s, gu_11c, gu_22c, Nat.reduceLeDiff, Nat.reduceLT, ne_eq, not_false_eq_true, not_true_eq_false, Nat.reduceEqDiff, Nat.lt_irrefl, eq_self, z_4, z_5, z_7, z_8, z_10, z_16, z_20, z_64]
  have key := wp_for (d := d) (m := mX10_textAt) (pc := 2) (Q := Q) (fun i => mh h mo g) (fun i => [.ref mo, .int (nI p), .int (nI (p + i))]) (e - p) (fun i hi => by
    have h1 := a3 i hi
    have h3 := TX_at T (show x (p + i) < 256 by have := dg_lt h1; omega)
    have h5 := h1.2
    rw [uX10_textAt_2]
    simp only [enX10_textAt, uX10_textAt_0, uX10_textAt_1, uX10_textAt_3, uX10_textAt_6, uX10_textAt_7, uX10_textAt_8, uX10_textAt_10, uX10_textAt_13, uX10_textAt_16, uX10_textAt_19, uX10_textAt_20, uX10_textAt_21, uX10_textAt_22, mo_C H, mo_R_tape H, mo_C_tape H, mo_L_tape H, pq_C_sI, pq_C_sJ, pq_C_sR, pq_C_sA, pq_L_sI, pq_L_sJ, pq_L_sR, pq_L_sA, pq_I_sI, pq_I_sJ, pq_I_sR, pq_I_sA, pq_J_sI, pq_J_sJ, pq_J_sR, pq_J_sA, pq_R_sI, pq_R_sJ, pq_R_sR, pq_R_sA, pq_N_sI, pq_N_sJ, pq_N_sR, pq_N_sA, pq_S_sI, pq_S_sJ, pq_S_sR, pq_S_sA, pz_rf_s, pz_cut_i, pz_cut_r, pz_cut_n, pz_cut_f, pz_cut_u, pz_cut_o, true_and, and_true, true_or, or_true, Option.toList_some, Option.toList_none, List.cons_append, List.nil_append, Nat.add_left_cancel_iff, Nat.left_eq_add, Nat.add_eq_left, Nat.reduceEqDiff, if_true, if_false, ite_true, ite_false, false_and, and_false, false_or, or_false, reduceIte, reduceCtorEq, and_self, mh_C, mh_L, mh_R, mh_J, mh_I0, mh_I, mh_Ir, mh_sI0, mh_sI, mh_sA, gu_11, gu_22, gu_r, gu_21s, gu_21c, gu_22s, gu_11s, gu_11c, gu_22c, Nat.reduceLeDiff, Nat.reduceLT, ne_eq, not_false_eq_true, not_true_eq_false, Nat.reduceEqDiff, Nat.lt_irrefl, eq_self, z_4, z_5, z_7, z_8, z_10, z_16, z_20, z_64]
    simp (disch := omega) only [pz_in_nI, nI_clamp, true_and]
    rw [h3, if_neg (fun r => by have := (b8_nI (x (p + i)) (by omega) 58 (by omega)).mp r; omega), nI_1, Nat.add_assoc])
  refine (show _ ↔ _ from key).trans ?_
  rw [uX10_textAt_2]
  simp only [enX10_textAt, uX10_textAt_0, uX10_textAt_1, uX10_textAt_3, uX10_textAt_6, uX10_textAt_7, uX10_textAt_8, uX10_textAt_10, uX10_textAt_13, uX10_textAt_16, uX10_textAt_19, uX10_textAt_20, uX10_textAt_21, uX10_textAt_22, mo_C H, mo_R_tape H, mo_C_tape H, mo_L_tape H, pq_C_sI, pq_C_sJ, pq_C_sR, pq_C_sA, pq_L_sI, pq_L_sJ, pq_L_sR, pq_L_sA, pq_I_sI, pq_I_sJ, pq_I_sR, pq_I_sA, pq_J_sI, pq_J_sJ, pq_J_sR, pq_J_sA, pq_R_sI, pq_R_sJ, pq_R_sR, pq_R_sA, pq_N_sI, pq_N_sJ, pq_N_sR, pq_N_sA, pq_S_sI, pq_S_sJ, pq_S_sR, pq_S_sA, pz_rf_s, pz_cut_i, pz_cut_r, pz_cut_n, pz_cut_f, pz_cut_u, pz_cut_o, true_and, and_true, true_or, or_true, Option.toList_some, Option.toList_none, List.cons_append, List.nil_append, Nat.add_left_cancel_iff, Nat.left_eq_add, Nat.add_eq_left, Nat.reduceEqDiff, if_true, if_false, ite_true, ite_false, false_and, and_false, false_or, or_false, reduceIte, reduceCtorEq, and_self, mh_C, mh_L, mh_R, mh_J, mh_I0, mh_I, mh_Ir, mh_sI0, mh_sI, mh_sA, gu_11, gu_22, gu_r, gu_21s, gu_21c, gu_22s, gu_11s, gu_11c, gu_22c, Nat.reduceLeDiff, Nat.reduceLT, ne_eq, not_false_eq_true, not_true_eq_false, Nat.reduceEqDiff, Nat.lt_irrefl, eq_self, z_4, z_5, z_7, z_8, z_10, z_16, z_20, z_64]
  rw [show p + (e - p) = e by omega]
  simp (disch := omega) only [pz_in_nI, nI_clamp, true_and]
  rw [TX_at T (show x e < 256 by omega), if_pos (show b8 (x e) = 58 from (b8_nI (x e) (by omega) 58 (by omega)).mpr a4), nI_1]
theorem g_textSize (H : MO h mo) (T : TX (g 1) n x) {p e : Nat} (hs : SK x p 4 58 e) : pz_M (d + 2) mX10_textSize [.ref mo, .int (nI p)] (mh h mo g) Q ↔ Q (some (.int (nI (vlk x p (e - p))))) (mh h mo g) := by
  have hn := T.1
  have he := TX_lt T (show x e < 256 by have := hs.2.2.2; omega)
  simp only [enX10_textSize, uX10_textSize_0, uX10_textSize_0o, uX10_textSize_0f, uX10_textSize_1, uX10_textSize_2, uX10_textSize_2o, uX10_textSize_2f, uX10_textSize_3, uX10_textSize_4, uX10_textSize_7, uX10_textSize_8, uX10_textSize_9, uX10_textSize_12, mo_C H, mo_R_tape H, mo_C_tape H, mo_L_tape H, pq_C_sI, pq_C_sJ, pq_C_sR, pq_C_sA, pq_L_sI, pq_L_sJ, pq_L_sR, pq_L_sA, pq_I_sI, pq_I_sJ, pq_I_sR, pq_I_sA, pq_J_sI, pq_J_sJ, pq_J_sR, pq_J_sA, pq_R_sI, pq_R_sJ, pq_R_sR, pq_R_sA, pq_N_sI, pq_N_sJ, pq_N_sR, pq_N_sA, pq_S_sI, pq_S_sJ, pq_S_sR, pq_S_sA, pz_rf_s, pz_cut_i, pz_cut_r, pz_cut_n, pz_cut_f, pz_cut_u, pz_cut_o, true_and, and_true, true_or, or_true, Option.toList_some, Option.toList_none, List.cons_append, List.nil_append, Nat.add_left_cancel_iff, Nat.left_eq_add, Nat.add_eq_left, Nat.reduceEqDiff, if_true, if_false, ite_true, ite_false, false_and, and_false, false_or, or_false, reduceIte, reduceCtorEq, and_self, mh_C, mh_L, mh_R, mh_J, mh_I0, mh_I, mh_Ir, mh_sI0, mh_sI, mh_sA, gu_11, gu_22, gu_r, gu_21s, gu_21c, gu_22s, gu_11s, gu_11c, gu_22c, Nat.reduceLeDiff, Nat.reduceLT, ne_eq, not_false_eq_true, not_true_eq_false, Nat.reduceEqDiff, Nat.lt_irrefl, eq_self, z_4, z_5, z_7, z_8, z_10, z_16, z_20, z_64, g_textAt H T hs]
  rw [show (1 : Int32) = nI 1 from rfl, pk_sub (by omega), show e + 1 - 1 = e by omega, g_valueOf H T (k := e - p) (by have := hs.2.1; omega) (by have := hs.1; omega) hs.2.2.1 (by have := hs.1; omega)]
  simp only [enX10_textSize, uX10_textSize_0, uX10_textSize_0o, uX10_textSize_0f, uX10_textSize_1, uX10_textSize_2, uX10_textSize_2o, uX10_textSize_2f, uX10_textSize_3, uX10_textSize_4, uX10_textSize_7, uX10_textSize_8, uX10_textSize_9, uX10_textSize_12, pq_C_sI, pq_C_sJ, pq_C_sR, pq_C_sA, pq_L_sI, pq_L_sJ, pq_L_sR, pq_L_sA, pq_I_sI, pq_I_sJ, pq_I_sR, pq_I_sA, pq_J_sI, pq_J_sJ, pq_J_sR, pq_J_sA, pq_R_sI, pq_R_sJ, pq_R_sR, pq_R_sA, pq_N_sI, pq_N_sJ, pq_N_sR, pq_N_sA, pq_S_sI, pq_S_sJ, pq_S_sR, pq_S_sA, pz_rf_s, pz_cut_i, pz_cut_r, pz_cut_n, pz_cut_f, pz_cut_u, pz_cut_o, true_and, and_true, true_or, or_true, Option.toList_some, Option.toList_none, List.cons_append, List.nil_append, Nat.add_left_cancel_iff, Nat.left_eq_add, Nat.add_eq_left, Nat.reduceEqDiff, if_true, if_false, ite_true, ite_false, false_and, and_false, false_or, or_false, reduceIte, reduceCtorEq, and_self]
theorem g_string (H : MO h mo) (T : TX (g 1) n x) (hz : g 0 9 = nI n) {p : Nat} (hp : p < 2 ^ 30) : pz_M (d + 3) mX10_string [.ref mo, .int (nI p)] (mh h mo g) Q ↔ (match stF x n p with | none => Q (some (.int (nI (stEnd x p)))) (mh h mo g) | some w => Q (some (.int (-1))) (mh h mo (pz_u2 g 0 10 (nI w)))) := by
  have hn := T.1
  simp only [enX10_string, uX10_string_0, uX10_string_0o, uX10_string_0f, uX10_string_1, uX10_string_2, uX10_string_3, uX10_string_5, uX10_string_8, uX10_string_9, uX10_string_10, uX10_string_13, uX10_string_14, uX10_string_15, uX10_string_15o, uX10_string_15f, uX10_string_16, uX10_string_17, uX10_string_18, uX10_string_21, uX10_string_22, uX10_string_23, uX10_string_24, uX10_string_25, uX10_string_26, uX10_string_27, uX10_string_27o, uX10_string_27f, uX10_string_28, uX10_string_31, uX10_string_34, uX10_string_34o, uX10_string_34f, uX10_string_35, uX10_string_36, uX10_string_39, uX10_string_40, uX10_string_41, uX10_string_42, uX10_string_43, uX10_string_44, uX10_string_45, uX10_string_46, mo_C H, mo_R_tape H, mo_C_tape H, mo_L_tape H, pq_C_sI, pq_C_sJ, pq_C_sR, pq_C_sA, pq_L_sI, pq_L_sJ, pq_L_sR, pq_L_sA, pq_I_sI, pq_I_sJ, pq_I_sR, pq_I_sA, pq_J_sI, pq_J_sJ, pq_J_sR, pq_J_sA, pq_R_sI, pq_R_sJ, pq_R_sR, pq_R_sA, pq_N_sI, pq_N_sJ, pq_N_sR, pq_N_sA, pq_S_sI, pq_S_sJ, pq_S_sR, pq_S_sA, pz_rf_s, pz_cut_i, pz_cut_r, pz_cut_n, pz_cut_f, pz_cut_u, pz_cut_o, true_and, and_true, true_or, or_true, Option.toList_some, Option.toList_none, List.cons_append, List.nil_append, Nat.add_left_cancel_iff, Nat.left_eq_add, Nat.add_eq_left, Nat.reduceEqDiff, if_true, if_false, ite_true, ite_false, false_and, and_false, false_or, or_false, reduceIte, reduceCtorEq, and_self, mh_C, mh_L, mh_R, mh_J, mh_I0, mh_I, mh_Ir, mh_sI0, mh_sI, mh_sA, gu_11, gu_22, gu_r, gu_21s, gu_21c, gu_22s, gu_11s, gu_11c, gu_22c, Nat.reduceLeDiff, Nat.reduceLT, ne_eq, not_false_eq_true, not_true_eq_false, Nat.reduceEqDiff, Nat.lt_irrefl, eq_self, z_4, z_5, z_7, z_8, z_10, z_16, z_20, z_64]
  rw [show (4 : Int32) = nI 4 from rfl, show (58 : Int32) = nI 58 from rfl, g_digits H T hz (by omega) hp (by omega)]
  unfold stF
  by_cases h1 : dgo x p 4 58 = true
  · obtain ⟨a1, a2, a3, a4⟩ := dgo_SK (by omega) h1
    have he := TX_lt T (show x (dgq x p 4) < 256 by omega)
    have h2 := stN_lt h1
    rw [if_pos h1, if_pos h1]
    simp only [enX10_string, uX10_string_0, uX10_string_0o, uX10_string_0f, uX10_string_1, uX10_string_2, uX10_string_3, uX10_string_5, uX10_string_8, uX10_string_9, uX10_string_10, uX10_string_13, uX10_string_14, uX10_string_15, uX10_string_15o, uX10_string_15f, uX10_string_16, uX10_string_17, uX10_string_18, uX10_string_21, uX10_string_22, uX10_string_23, uX10_string_24, uX10_string_25, uX10_string_26, uX10_string_27, uX10_string_27o, uX10_string_27f, uX10_string_28, uX10_string_31, uX10_string_34, uX10_string_34o, uX10_string_34f, uX10_string_35, uX10_string_36, uX10_string_39, uX10_string_40, uX10_string_41, uX10_string_42, uX10_string_43, uX10_string_44, uX10_string_45, uX10_string_46, mo_C H, mo_R_tape H, mo_C_tape H, mo_L_tape H, pq_C_sI, pq_C_sJ, pq_C_sR, pq_C_sA, pq_L_sI, pq_L_sJ, pq_L_sR, pq_L_sA, pq_I_sI, pq_I_sJ, pq_I_sR, pq_I_sA, pq_J_sI, pq_J_sJ, pq_J_sR, pq_J_sA, pq_R_sI, pq_R_sJ, pq_R_sR, pq_R_sA, pq_N_sI, pq_N_sJ, pq_N_sR, pq_N_sA, pq_S_sI, pq_S_sJ, pq_S_sR, pq_S_sA, pz_rf_s, pz_cut_i, pz_cut_r, pz_cut_n, pz_cut_f, pz_cut_u, pz_cut_o, true_and, and_true, true_or, or_true, Option.toList_some, Option.toList_none, List.cons_append, List.nil_append, Nat.add_left_cancel_iff, Nat.left_eq_add, Nat.add_eq_left, Nat.reduceEqDiff, if_true, if_false, ite_true, ite_false, false_and, and_false, false_or, or_false, reduceIte, reduceCtorEq, and_self, mh_C, mh_L, mh_R, mh_J, mh_I0, mh_I, mh_Ir, mh_sI0, mh_sI, mh_sA, gu_11, gu_22, gu_r, gu_21s, gu_21c, gu_22s, gu_11s, gu_11c, gu_22c, Nat.reduceLeDiff, Nat.reduceLT, ne_eq, not_false_eq_true, not_true_eq_false, Nat.reduceEqDiff, Nat.lt_irrefl, eq_self, z_4, z_5, z_7, z_8, z_10, z_16, z_20, z_64, hz]
    rw [if_pos (nI_pos' (by omega)), g_valueOf H T (k := dgq x p 4 - p) (by omega) (by omega) a3 (by omega)]
    simp only [enX10_string, uX10_string_0, uX10_string_0o, uX10_string_0f, uX10_string_1, uX10_string_2, uX10_string_3, uX10_string_5, uX10_string_8, uX10_string_9, uX10_string_10, uX10_string_13, uX10_string_14, uX10_string_15, uX10_string_15o, uX10_string_15f, uX10_string_16, uX10_string_17, uX10_string_18, uX10_string_21, uX10_string_22, uX10_string_23, uX10_string_24, uX10_string_25, uX10_string_26, uX10_string_27, uX10_string_27o, uX10_string_27f, uX10_string_28, uX10_string_31, uX10_string_34, uX10_string_34o, uX10_string_34f, uX10_string_35, uX10_string_36, uX10_string_39, uX10_string_40, uX10_string_41, uX10_string_42, uX10_string_43, uX10_string_44, uX10_string_45, uX10_string_46, mo_C H, mo_R_tape H, mo_C_tape H, mo_L_tape H, pq_C_sI, pq_C_sJ, pq_C_sR, pq_C_sA, pq_L_sI, pq_L_sJ, pq_L_sR, pq_L_sA, pq_I_sI, pq_I_sJ, pq_I_sR, pq_I_sA, pq_J_sI, pq_J_sJ, pq_J_sR, pq_J_sA, pq_R_sI, pq_R_sJ, pq_R_sR, pq_R_sA, pq_N_sI, pq_N_sJ, pq_N_sR, pq_N_sA, pq_S_sI, pq_S_sJ, pq_S_sR, pq_S_sA, pz_rf_s, pz_cut_i, pz_cut_r, pz_cut_n, pz_cut_f, pz_cut_u, pz_cut_o, true_and, and_true, true_or, or_true, Option.toList_some, Option.toList_none, List.cons_append, List.nil_append, Nat.add_left_cancel_iff, Nat.left_eq_add, Nat.add_eq_left, Nat.reduceEqDiff, if_true, if_false, ite_true, ite_false, false_and, and_false, false_or, or_false, reduceIte, reduceCtorEq, and_self, mh_C, mh_L, mh_R, mh_J, mh_I0, mh_I, mh_Ir, mh_sI0, mh_sI, mh_sA, gu_11, gu_22, gu_r, gu_21s, gu_21c, gu_22s, gu_11s, gu_11c, gu_22c, Nat.reduceLeDiff, Nat.reduceLT, ne_eq, not_false_eq_true, not_true_eq_false, Nat.reduceEqDiff, Nat.lt_irrefl, eq_self, z_4, z_5, z_7, z_8, z_10, z_16, z_20, z_64, hz, nI_1, nI_add]
    rw [show dgq x p 4 + 1 + vlk x p (dgq x p 4 - p) = stEnd x p from rfl]
    have h5 := nI_leI (a := stEnd x p) (b := n) (by unfold stEnd stE; omega) (by omega)
    by_cases h3 : stEnd x p ≤ n
    · rw [if_pos (h5.mpr h3), if_pos h3]
    · rw [if_neg (fun r => h3 (h5.mp r)), if_neg h3]
  · rw [if_neg h1, if_neg h1]
    simp only [enX10_string, uX10_string_0, uX10_string_0o, uX10_string_0f, uX10_string_1, uX10_string_2, uX10_string_3, uX10_string_5, uX10_string_8, uX10_string_9, uX10_string_10, uX10_string_13, uX10_string_14, uX10_string_15, uX10_string_15o, uX10_string_15f, uX10_string_16, uX10_string_17, uX10_string_18, uX10_string_21, uX10_string_22, uX10_string_23, uX10_string_24, uX10_string_25, uX10_string_26, uX10_string_27, uX10_string_27o, uX10_string_27f, uX10_string_28, uX10_string_31, uX10_string_34, uX10_string_34o, uX10_string_34f, uX10_string_35, uX10_string_36, uX10_string_39, uX10_string_40, uX10_string_41, uX10_string_42, uX10_string_43, uX10_string_44, uX10_string_45, uX10_string_46, mo_C H, mo_R_tape H, mo_C_tape H, mo_L_tape H, pq_C_sI, pq_C_sJ, pq_C_sR, pq_C_sA, pq_L_sI, pq_L_sJ, pq_L_sR, pq_L_sA, pq_I_sI, pq_I_sJ, pq_I_sR, pq_I_sA, pq_J_sI, pq_J_sJ, pq_J_sR, pq_J_sA, pq_R_sI, pq_R_sJ, pq_R_sR, pq_R_sA, pq_N_sI, pq_N_sJ, pq_N_sR, pq_N_sA, pq_S_sI, pq_S_sJ, pq_S_sR, pq_S_sA, pz_rf_s, pz_cut_i, pz_cut_r, pz_cut_n, pz_cut_f, pz_cut_u, pz_cut_o, true_and, and_true, true_or, or_true, Option.toList_some, Option.toList_none, List.cons_append, List.nil_append, Nat.add_left_cancel_iff, Nat.left_eq_add, Nat.add_eq_left, Nat.reduceEqDiff, if_true, if_false, ite_true, ite_false, false_and, and_false, false_or, or_false, reduceIte, reduceCtorEq, and_self, mh_C, mh_L, mh_R, mh_J, mh_I0, mh_I, mh_Ir, mh_sI0, mh_sI, mh_sA, gu_11, gu_22, gu_r, gu_21s, gu_21c, gu_22s, gu_11s, gu_11c, gu_22c, Nat.reduceLeDiff, Nat.reduceLT, ne_eq, not_false_eq_true, not_true_eq_false, Nat.reduceEqDiff, Nat.lt_irrefl, eq_self, z_4, z_5, z_7, z_8, z_10, z_16, z_20, z_64]
    rw [if_neg (by decide)]
theorem g_number (H : MO h mo) (T : TX (g 1) n x) (hz : g 0 9 = nI n) {p : Nat} (hp : p < 2 ^ 29) : pz_M (d + 3) mX10_number [.ref mo, .int (nI p)] (mh h mo g) Q ↔ (match nuF x p with | none => Q (some (.int (nI (nuEnd x p)))) (mh h mo g) | some w => Q (some (.int (-1))) (mh h mo (pz_u2 g 0 10 (nI w)))) := by
  have hn := T.1
  have tail : ∀ q, q < 2 ^ 30 → (wp (d + 2) mX10_number 34 [.ref mo, .int (nI p), .int (nI q), .retAddr 0] [] (mh h mo g) Q ↔ (if dgo x q 9 101 = true then Q (some (.int (nI (dgq x q 9 + 1)))) (mh h mo g) else Q (some (.int (-1))) (mh h mo (pz_u2 g 0 10 (nI (dgq x q 9)))))) := by
    intro q hq
    simp only [enX10_number, uX10_number_0, uX10_number_1, uX10_number_2, uX10_number_3, uX10_number_4, uX10_number_4o, uX10_number_4f, uX10_number_5, uX10_number_6, uX10_number_9, uX10_number_11, uX10_number_14, uX10_number_17, uX10_number_17o, uX10_number_17f, uX10_number_18, uX10_number_19, uX10_number_22, uX10_number_24, uX10_number_27, uX10_number_27o, uX10_number_27f, uX10_number_28, uX10_number_29, uX10_number_32, uX10_number_33, uX10_number_34, uX10_number_34o, uX10_number_34f, uX10_number_35, uX10_number_36, uX10_number_38, uX10_number_40, uX10_number_43, uX10_number_44, uX10_number_45, uX10_number_48, uX10_number_49, uX10_number_52, uX10_number_53, uX10_number_54, uX10_number_55, mo_C H, mo_R_tape H, mo_C_tape H, mo_L_tape H, pq_C_sI, pq_C_sJ, pq_C_sR, pq_C_sA, pq_L_sI, pq_L_sJ, pq_L_sR, pq_L_sA, pq_I_sI, pq_I_sJ, pq_I_sR, pq_I_sA, pq_J_sI, pq_J_sJ, pq_J_sR, pq_J_sA, pq_R_sI, pq_R_sJ, pq_R_sR, pq_R_sA, pq_N_sI, pq_N_sJ, pq_N_sR, pq_N_sA, pq_S_sI, pq_S_sJ, pq_S_sR, pq_S_sA, pz_rf_s, pz_cut_i, pz_cut_r, pz_cut_n, pz_cut_f, pz_cut_u, pz_cut_o, true_and, and_true, true_or, or_true, Option.toList_some, Option.toList_none, List.cons_append, List.nil_append, Nat.add_left_cancel_iff, Nat.left_eq_add, Nat.add_eq_left, Nat.reduceEqDiff, if_true, if_false, ite_true, ite_false, false_and, and_false, false_or, or_false, reduceIte, reduceCtorEq, and_self, mh_C, mh_L, mh_R, mh_J, mh_I0, mh_I, mh_Ir, mh_sI0, mh_sI, mh_sA, gu_11, gu_22, gu_r, gu_21s, gu_21c, gu_22s, gu_11s, gu_11c, gu_22c, Nat.reduceLeDiff, Nat.reduceLT, ne_eq, not_false_eq_true, not_true_eq_false, Nat.reduceEqDiff, Nat.lt_irrefl, eq_self, z_4, z_5, z_7, z_8, z_10, z_16, z_20, z_64]
    rw [show (9 : Int32) = nI 9 from rfl, show (101 : Int32) = nI 101 from rfl, g_digits H T hz (by omega) hq (by omega)]
    by_cases h1 : dgo x q 9 101 = true
    · rw [if_pos h1, if_pos h1]
      simp only [enX10_number, uX10_number_0, uX10_number_1, uX10_number_2, uX10_number_3, uX10_number_4, uX10_number_4o, uX10_number_4f, uX10_number_5, uX10_number_6, uX10_number_9, uX10_number_11, uX10_number_14, uX10_number_17, uX10_number_17o, uX10_number_17f, uX10_number_18, uX10_number_19, uX10_number_22, uX10_number_24, uX10_number_27, uX10_number_27o, uX10_number_27f, uX10_number_28, uX10_number_29, uX10_number_32, uX10_number_33, uX10_number_34, uX10_number_34o, uX10_number_34f, uX10_number_35, uX10_number_36, uX10_number_38, uX10_number_40, uX10_number_43, uX10_number_44, uX10_number_45, uX10_number_48, uX10_number_49, uX10_number_52, uX10_number_53, uX10_number_54, uX10_number_55, mo_C H, mo_R_tape H, mo_C_tape H, mo_L_tape H, pq_C_sI, pq_C_sJ, pq_C_sR, pq_C_sA, pq_L_sI, pq_L_sJ, pq_L_sR, pq_L_sA, pq_I_sI, pq_I_sJ, pq_I_sR, pq_I_sA, pq_J_sI, pq_J_sJ, pq_J_sR, pq_J_sA, pq_R_sI, pq_R_sJ, pq_R_sR, pq_R_sA, pq_N_sI, pq_N_sJ, pq_N_sR, pq_N_sA, pq_S_sI, pq_S_sJ, pq_S_sR, pq_S_sA, pz_rf_s, pz_cut_i, pz_cut_r, pz_cut_n, pz_cut_f, pz_cut_u, pz_cut_o, true_and, and_true, true_or, or_true, Option.toList_some, Option.toList_none, List.cons_append, List.nil_append, Nat.add_left_cancel_iff, Nat.left_eq_add, Nat.add_eq_left, Nat.reduceEqDiff, if_true, if_false, ite_true, ite_false, false_and, and_false, false_or, or_false, reduceIte, reduceCtorEq, and_self, mh_C, mh_L, mh_R, mh_J, mh_I0, mh_I, mh_Ir, mh_sI0, mh_sI, mh_sA, gu_11, gu_22, gu_r, gu_21s, gu_21c, gu_22s, gu_11s, gu_11c, gu_22c, Nat.reduceLeDiff, Nat.reduceLT, ne_eq, not_false_eq_true, not_true_eq_false, Nat.reduceEqDiff, Nat.lt_irrefl, eq_self, z_4, z_5, z_7, z_8, z_10, z_16, z_20, z_64]
      have := @dgq_le x q 9 (by omega)
      rw [if_pos (nI_pos' (by omega)), nI_1]
    · rw [if_neg h1, if_neg h1]
      simp only [enX10_number, uX10_number_0, uX10_number_1, uX10_number_2, uX10_number_3, uX10_number_4, uX10_number_4o, uX10_number_4f, uX10_number_5, uX10_number_6, uX10_number_9, uX10_number_11, uX10_number_14, uX10_number_17, uX10_number_17o, uX10_number_17f, uX10_number_18, uX10_number_19, uX10_number_22, uX10_number_24, uX10_number_27, uX10_number_27o, uX10_number_27f, uX10_number_28, uX10_number_29, uX10_number_32, uX10_number_33, uX10_number_34, uX10_number_34o, uX10_number_34f, uX10_number_35, uX10_number_36, uX10_number_38, uX10_number_40, uX10_number_43, uX10_number_44, uX10_number_45, uX10_number_48, uX10_number_49, uX10_number_52, uX10_number_53, uX10_number_54, uX10_number_55, mo_C H, mo_R_tape H, mo_C_tape H, mo_L_tape H, pq_C_sI, pq_C_sJ, pq_C_sR, pq_C_sA, pq_L_sI, pq_L_sJ, pq_L_sR, pq_L_sA, pq_I_sI, pq_I_sJ, pq_I_sR, pq_I_sA, pq_J_sI, pq_J_sJ, pq_J_sR, pq_J_sA, pq_R_sI, pq_R_sJ, pq_R_sR, pq_R_sA, pq_N_sI, pq_N_sJ, pq_N_sR, pq_N_sA, pq_S_sI, pq_S_sJ, pq_S_sR, pq_S_sA, pz_rf_s, pz_cut_i, pz_cut_r, pz_cut_n, pz_cut_f, pz_cut_u, pz_cut_o, true_and, and_true, true_or, or_true, Option.toList_some, Option.toList_none, List.cons_append, List.nil_append, Nat.add_left_cancel_iff, Nat.left_eq_add, Nat.add_eq_left, Nat.reduceEqDiff, if_true, if_false, ite_true, ite_false, false_and, and_false, false_or, or_false, reduceIte, reduceCtorEq, and_self, mh_C, mh_L, mh_R, mh_J, mh_I0, mh_I, mh_Ir, mh_sI0, mh_sI, mh_sA, gu_11, gu_22, gu_r, gu_21s, gu_21c, gu_22s, gu_11s, gu_11c, gu_22c, Nat.reduceLeDiff, Nat.reduceLT, ne_eq, not_false_eq_true, not_true_eq_false, Nat.reduceEqDiff, Nat.lt_irrefl, eq_self, z_4, z_5, z_7, z_8, z_10, z_16, z_20, z_64]
      rw [if_neg (by decide)]
  simp only [enX10_number, uX10_number_0, uX10_number_1, uX10_number_2, uX10_number_3, uX10_number_4, uX10_number_4o, uX10_number_4f, uX10_number_5, uX10_number_6, uX10_number_9, uX10_number_11, uX10_number_14, uX10_number_17, uX10_number_17o, uX10_number_17f, uX10_number_18, uX10_number_19, uX10_number_22, uX10_number_24, uX10_number_27, uX10_number_27o, uX10_number_27f, uX10_number_28, uX10_number_29, uX10_number_32, uX10_number_33, uX10_number_35, uX10_number_36, uX10_number_38, uX10_number_40, uX10_number_43, uX10_number_44, uX10_number_45, uX10_number_48, uX10_number_49, uX10_number_52, uX10_number_53, uX10_number_54, uX10_number_55, mo_C H, mo_R_tape H, mo_C_tape H, mo_L_tape H, pq_C_sI, pq_C_sJ, pq_C_sR, pq_C_sA, pq_L_sI, pq_L_sJ, pq_L_sR, pq_L_sA, pq_I_sI, pq_I_sJ, pq_I_sR, pq_I_sA, pq_J_sI, pq_J_sJ, pq_J_sR, pq_J_sA, pq_R_sI, pq_R_sJ, pq_R_sR, pq_R_sA, pq_N_sI, pq_N_sJ, pq_N_sR, pq_N_sA, pq_S_sI, pq_S_sJ, pq_S_sR, pq_S_sA, pz_rf_s, pz_cut_i, pz_cut_r, pz_cut_n, pz_cut_f, pz_cut_u, pz_cut_o, true_and, and_true, true_or, or_true, Option.toList_some, Option.toList_none, List.cons_append, List.nil_append, Nat.add_left_cancel_iff, Nat.left_eq_add, Nat.add_eq_left, Nat.reduceEqDiff, if_true, if_false, ite_true, ite_false, false_and, and_false, false_or, or_false, reduceIte, reduceCtorEq, and_self, mh_C, mh_L, mh_R, mh_J, mh_I0, mh_I, mh_Ir, mh_sI0, mh_sI, mh_sA, gu_11, gu_22, gu_r, gu_21s, gu_21c, gu_22s, gu_11s, gu_11c, gu_22c, Nat.reduceLeDiff, Nat.reduceLT, ne_eq, not_false_eq_true, not_true_eq_false, Nat.reduceEqDiff, Nat.lt_irrefl, eq_self, z_4, z_5, z_7, z_8, z_10, z_16, z_20, z_64, nI_1, g_byteAt H T hz (show p + 1 < 2 ^ 31 by omega)]
  unfold nuF nuEnd nuQ
  by_cases h1 : x (p + 1) = 45
  · rw [if_neg (show ¬ ¬ bI (x (p + 1)) = 45 from fun r => r ((bI_eq (k := 45) (TX_le T _) (by omega)).mpr h1)), if_pos h1, g_byteAt H T hz (show p + 1 + 1 < 2 ^ 31 by omega)]
    simp only [enX10_number, uX10_number_0, uX10_number_1, uX10_number_2, uX10_number_3, uX10_number_4, uX10_number_4o, uX10_number_4f, uX10_number_5, uX10_number_6, uX10_number_9, uX10_number_11, uX10_number_14, uX10_number_17, uX10_number_17o, uX10_number_17f, uX10_number_18, uX10_number_19, uX10_number_22, uX10_number_24, uX10_number_27, uX10_number_27o, uX10_number_27f, uX10_number_28, uX10_number_29, uX10_number_32, uX10_number_33, uX10_number_35, uX10_number_36, uX10_number_38, uX10_number_40, uX10_number_43, uX10_number_44, uX10_number_45, uX10_number_48, uX10_number_49, uX10_number_52, uX10_number_53, uX10_number_54, uX10_number_55, mo_C H, mo_R_tape H, mo_C_tape H, mo_L_tape H, pq_C_sI, pq_C_sJ, pq_C_sR, pq_C_sA, pq_L_sI, pq_L_sJ, pq_L_sR, pq_L_sA, pq_I_sI, pq_I_sJ, pq_I_sR, pq_I_sA, pq_J_sI, pq_J_sJ, pq_J_sR, pq_J_sA, pq_R_sI, pq_R_sJ, pq_R_sR, pq_R_sA, pq_N_sI, pq_N_sJ, pq_N_sR, pq_N_sA, pq_S_sI, pq_S_sJ, pq_S_sR, pq_S_sA, pz_rf_s, pz_cut_i, pz_cut_r, pz_cut_n, pz_cut_f, pz_cut_u, pz_cut_o, true_and, and_true, true_or, or_true, Option.toList_some, Option.toList_none, List.cons_append, List.nil_append, Nat.add_left_cancel_iff, Nat.left_eq_add, Nat.add_eq_left, Nat.reduceEqDiff, if_true, if_false, ite_true, ite_false, false_and, and_false, false_or, or_false, reduceIte, reduceCtorEq, and_self, mh_C, mh_L, mh_R, mh_J, mh_I0, mh_I, mh_Ir, mh_sI0, mh_sI, mh_sA, gu_11, gu_22, gu_r, gu_21s, gu_21c, gu_22s, gu_11s, gu_11c, gu_22c, Nat.reduceLeDiff, Nat.reduceLT, ne_eq, not_false_eq_true, not_true_eq_false, Nat.reduceEqDiff, Nat.lt_irrefl, eq_self, z_4, z_5, z_7, z_8, z_10, z_16, z_20, z_64]
    by_cases h2 : x (p + 1 + 1) = 48
    · rw [if_neg (show ¬ ¬ bI (x (p + 1 + 1)) = 48 from fun r => r ((bI_eq (k := 48) (TX_le T _) (by omega)).mpr h2)), if_pos ⟨h1, h2⟩]
    · rw [if_pos (show ¬ bI (x (p + 1 + 1)) = 48 from fun r => h2 ((bI_eq (k := 48) (TX_le T _) (by omega)).mp r)), if_neg (show ¬ (x (p + 1) = 45 ∧ x (p + 2) = 48) from fun r => h2 r.2), tail _ (by omega)]
      by_cases h3 : dgo x (p + 1 + 1) 9 101 = true
      · rw [if_pos h3, if_pos h3]
      · rw [if_neg h3, if_neg h3]
  · rw [if_pos (show ¬ bI (x (p + 1)) = 45 from fun r => h1 ((bI_eq (k := 45) (TX_le T _) (by omega)).mp r)), if_neg h1, if_neg (show ¬ (x (p + 1) = 45 ∧ x (p + 2) = 48) from fun r => h1 r.1), tail _ (by omega)]
    by_cases h3 : dgo x (p + 1) 9 101 = true
    · rw [if_pos h3, if_pos h3]
    · rw [if_neg h3, if_neg h3]
end
