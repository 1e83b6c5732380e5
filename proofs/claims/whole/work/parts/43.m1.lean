/-! ===== the reference: bytes ===== -/
theorem pq_sI_sA {h : PzH} {a k : Nat} {f : Nat → Int32} {v : Int32} : pz_sI (pz_sA h a f) a k v = pz_sA h a (upd f k v) := by
  unfold pz_sI pz_sA pz_u2 pz_u1 upd
  refine Prod.ext rfl (Prod.ext rfl (Prod.ext ?_ rfl))
  funext b j
  dsimp only
  by_cases hb : b = a
  · subst hb
    by_cases hj : j = k <;> simp [hj]
  · simp [hb]
theorem pq_sA_sA {h : PzH} {a : Nat} {f g : Nat → Int32} : pz_sA (pz_sA h a f) a g = pz_sA h a g := by
  unfold pz_sA pz_u1
  refine Prod.ext rfl (Prod.ext rfl (Prod.ext ?_ rfl))
  funext b
  dsimp only
  by_cases hb : b = a <;> simp [hb]
theorem pq_sA_eta {h : PzH} {a : Nat} : pz_sA h a (pz_I h a) = h := by
  unfold pz_sA pz_u1
  refine Prod.ext rfl (Prod.ext rfl (Prod.ext ?_ rfl))
  funext b
  dsimp only
  by_cases hb : b = a
  · subst hb; simp; rfl
  · simp [hb]
theorem pz_in_nI {i n : Nat} (h : i < n) (hn : n < 2 ^ 31) : pz_in (nI i) n = true := decide_eq_true (vp_in_nI h hn)
/-- a loop that counts -/
theorem wp_for {d : Nat} {m : PzM} {pc : Nat} {Q : Option Value → PzH → Prop} (F : Nat → PzH) (L : Nat → List Value) (n : Nat) (step : ∀ i, i < n → (wp d m pc (L i) [] (F i) Q ↔ wp d m pc (L (i + 1)) [] (F (i + 1)) Q)) : wp d m pc (L 0) [] (F 0) Q ↔ wp d m pc (L n) [] (F n) Q := by
  have key : ∀ k, k ≤ n → (wp d m pc (L 0) [] (F 0) Q ↔ wp d m pc (L k) [] (F k) Q) := by
    intro k
    induction k with
    | zero => exact fun _ => Iff.rfl
    | succ k ih => exact fun hk => (ih (by omega)).trans (step k (by omega))
  exact key n (Nat.le_refl n)
theorem pz_nar_of {x : Int32} (h : fits .byte (.int x) = true) : vp_nar .byte x = x := by
  rw [vp_nar_byte]
  simp only [fits, Bool.and_eq_true, decide_eq_true_eq] at h
  apply Int32.toInt_inj.mp
  have h1 := Int32.le_iff_toInt_le.mp h.1
  have h2 := Int32.le_iff_toInt_le.mp h.2
  rw [Int8.toInt_toInt32, Int32.toInt_toInt8]
  have e1 : (-128 : Int32).toInt = -128 := by decide
  have e2 : (127 : Int32).toInt = 127 := by decide
  rw [e1] at h1
  rw [e2] at h2
  rw [Int.bmod_eq_of_le] <;> omega
section
variable {d : Nat} {h : PzH} {Q : Option Value → PzH → Prop} {mo : Nat}
theorem k_end {n : Int32} (H : MO h mo) : pz_M (d + 1) mX10_end [.ref mo, .int n] h Q ↔ (if n < 0 then Q (some (.int (-1))) h else if n ≤ pz_I h mo 2 then Q (some (.int n)) (pz_sI h mo 2 n) else Q (some (.int (-1))) h) := by
  simp only [enX10_end, uX10_end_0, uX10_end_1, uX10_end_4, uX10_end_5, uX10_end_5o, uX10_end_5f, uX10_end_6, uX10_end_9, uX10_end_12, uX10_end_13, uX10_end_14, uX10_end_14o, uX10_end_14f, uX10_end_15, uX10_end_16, uX10_end_19, uX10_end_20, mo_C H, pq_C_sI, pq_C_sJ, pq_C_sR, pq_C_sA, pq_L_sI, pq_L_sJ, pq_L_sR, pq_L_sA, pq_I_sI, pq_I_sJ, pq_I_sR, pq_I_sA, pq_J_sI, pq_J_sJ, pq_J_sR, pq_J_sA, pq_R_sI, pq_R_sJ, pq_R_sR, pq_R_sA, pq_N_sI, pq_N_sJ, pq_N_sR, pq_N_sA, pq_S_sI, pq_S_sJ, pq_S_sR, pq_S_sA, pz_rf_s, pz_cut_i, pz_cut_r, pz_cut_n, pz_cut_f, pz_cut_u, pz_cut_o, true_and, and_true, true_or, or_true, Option.toList_some, Option.toList_none, List.cons_append, List.nil_append, Nat.add_left_cancel_iff, Nat.left_eq_add, Nat.add_eq_left, Nat.reduceEqDiff, if_true, if_false, ite_true, ite_false, false_and, and_false, false_or, or_false, reduceIte, reduceCtorEq, and_self]
theorem k_used (H : MO h mo) : pz_M (d + 1) mX10_used [.ref mo] h Q ↔ Q (some (.int (pz_I h mo 2))) (pz_sI h mo 2 0) := by
  simp only [enX10_used, uX10_used_0, uX10_used_0o, uX10_used_0f, uX10_used_1, uX10_used_4, uX10_used_5, uX10_used_5o, uX10_used_5f, uX10_used_6, uX10_used_7, uX10_used_10, uX10_used_11, mo_C H, pq_C_sI, pq_C_sJ, pq_C_sR, pq_C_sA, pq_L_sI, pq_L_sJ, pq_L_sR, pq_L_sA, pq_I_sI, pq_I_sJ, pq_I_sR, pq_I_sA, pq_J_sI, pq_J_sJ, pq_J_sR, pq_J_sA, pq_R_sI, pq_R_sJ, pq_R_sR, pq_R_sA, pq_N_sI, pq_N_sJ, pq_N_sR, pq_N_sA, pq_S_sI, pq_S_sJ, pq_S_sR, pq_S_sA, pz_rf_s, pz_cut_i, pz_cut_r, pz_cut_n, pz_cut_f, pz_cut_u, pz_cut_o, true_and, and_true, true_or, or_true, Option.toList_some, Option.toList_none, List.cons_append, List.nil_append, Nat.add_left_cancel_iff, Nat.left_eq_add, Nat.add_eq_left, Nat.reduceEqDiff, if_true, if_false, ite_true, ite_false, false_and, and_false, false_or, or_false, reduceIte, reduceCtorEq, and_self]
theorem k_take (H : MO h mo) {N : Nat} (hN : pz_I h mo 3 = nI N) (hb : N ≤ 6000) (hf : ∀ j, j < N → fits .byte (.int (pz_I h (mo + 2) j)) = true) : pz_M (d + 1) mX10_take [.ref mo] h Q ↔ Q (some (.int (nI N))) (pz_sI (pz_sA h (mo + 1) (fun j => if j < N then pz_I h (mo + 2) j else pz_I h (mo + 1) j)) mo 2 (nI N)) := by
  simp only [enX10_take, uX10_take_0, uX10_take_1, uX10_take_3, uX10_take_3o, uX10_take_3f, uX10_take_4, uX10_take_7, uX10_take_10, uX10_take_10o, uX10_take_10f, uX10_take_11, uX10_take_14, uX10_take_15, uX10_take_15o, uX10_take_15f, uX10_take_16, uX10_take_19, uX10_take_20, uX10_take_21, uX10_take_22, uX10_take_25, uX10_take_28, uX10_take_28o, uX10_take_28f, uX10_take_29, uX10_take_29o, uX10_take_29f, uX10_take_30, uX10_take_33, uX10_take_36, uX10_take_36o, uX10_take_36f, uX10_take_37, uX10_take_40, mo_C H, mo_R_tape H, mo_C_tape H, mo_L_tape H, mo_R_out H, mo_C_out H, mo_L_out H, pq_C_sI, pq_C_sJ, pq_C_sR, pq_C_sA, pq_L_sI, pq_L_sJ, pq_L_sR, pq_L_sA, pq_I_sI, pq_I_sJ, pq_I_sR, pq_I_sA, pq_J_sI, pq_J_sJ, pq_J_sR, pq_J_sA, pq_R_sI, pq_R_sJ, pq_R_sR, pq_R_sA, pq_N_sI, pq_N_sJ, pq_N_sR, pq_N_sA, pq_S_sI, pq_S_sJ, pq_S_sR, pq_S_sA, pz_rf_s, pz_cut_i, pz_cut_r, pz_cut_n, pz_cut_f, pz_cut_u, pz_cut_o, true_and, and_true, true_or, or_true, Option.toList_some, Option.toList_none, List.cons_append, List.nil_append, Nat.add_left_cancel_iff, Nat.left_eq_add, Nat.add_eq_left, Nat.reduceEqDiff, if_true, if_false, ite_true, ite_false, false_and, and_false, false_or, or_false, reduceIte, reduceCtorEq, and_self]
  have e0 : h = pz_sA h (mo + 1) (fun j => if j < 0 then pz_I h (mo + 2) j else pz_I h (mo + 1) j) := by
    simp only [Nat.not_lt_zero, if_false]
    exact pq_sA_eta.symm
  have key := wp_for (d := d) (m := mX10_take) (pc := 2) (Q := Q) (fun i => pz_sA h (mo + 1) (fun j => if j < i then pz_I h (mo + 2) j else pz_I h (mo + 1) j)) (fun i => [.ref mo, .int (nI i)]) N (fun i hi => by
    rw [uX10_take_2]
    simp only [enX10_take, uX10_take_0, uX10_take_1, uX10_take_3, uX10_take_3o, uX10_take_3f, uX10_take_4, uX10_take_7, uX10_take_10, uX10_take_10o, uX10_take_10f, uX10_take_11, uX10_take_14, uX10_take_15, uX10_take_15o, uX10_take_15f, uX10_take_16, uX10_take_19, uX10_take_20, uX10_take_21, uX10_take_22, uX10_take_25, uX10_take_28, uX10_take_28o, uX10_take_28f, uX10_take_29, uX10_take_29o, uX10_take_29f, uX10_take_30, uX10_take_33, uX10_take_36, uX10_take_36o, uX10_take_36f, uX10_take_37, uX10_take_40, mo_C H, mo_R_tape H, mo_C_tape H, mo_L_tape H, mo_R_out H, mo_C_out H, mo_L_out H, pq_C_sI, pq_C_sJ, pq_C_sR, pq_C_sA, pq_L_sI, pq_L_sJ, pq_L_sR, pq_L_sA, pq_I_sI, pq_I_sJ, pq_I_sR, pq_I_sA, pq_J_sI, pq_J_sJ, pq_J_sR, pq_J_sA, pq_R_sI, pq_R_sJ, pq_R_sR, pq_R_sA, pq_N_sI, pq_N_sJ, pq_N_sR, pq_N_sA, pq_S_sI, pq_S_sJ, pq_S_sR, pq_S_sA, pz_rf_s, pz_cut_i, pz_cut_r, pz_cut_n, pz_cut_f, pz_cut_u, pz_cut_o, true_and, and_true, true_or, or_true, Option.toList_some, Option.toList_none, List.cons_append, List.nil_append, Nat.add_left_cancel_iff, Nat.left_eq_add, Nat.add_eq_left, Nat.reduceEqDiff, if_true, if_false, ite_true, ite_false, false_and, and_false, false_or, or_false, reduceIte, reduceCtorEq, and_self, hN]
    rw [if_neg (nI_ge hi (by omega))]
    simp only [pz_in_nI (show i < 6000 by omega) (by decide), nI_clamp (show i < 2 ^ 31 by omega), true_and, pz_nar_of (hf i hi), nI_1, pq_sI_sA]
    have e1 : upd (fun j => if j < i then pz_I h (mo + 2) j else pz_I h (mo + 1) j) i (pz_I h (mo + 2) i) = (fun j => if j < i + 1 then pz_I h (mo + 2) j else pz_I h (mo + 1) j) := by
      funext j
      unfold upd
      by_cases h1 : j = i
      · subst h1
        simp
      · rw [if_neg h1]
        show (if j < i then _ else _) = _
        by_cases h2 : j < i
        · rw [if_pos h2, if_pos (by omega)]
        · rw [if_neg h2, if_neg (by omega)]
    rw [e1])
  rw [← e0] at key
  rw [show (0 : Int32) = nI 0 from nI_0.symm, key, uX10_take_2]
  simp only [enX10_take, uX10_take_0, uX10_take_1, uX10_take_3, uX10_take_3o, uX10_take_3f, uX10_take_4, uX10_take_7, uX10_take_10, uX10_take_10o, uX10_take_10f, uX10_take_11, uX10_take_14, uX10_take_15, uX10_take_15o, uX10_take_15f, uX10_take_16, uX10_take_19, uX10_take_20, uX10_take_21, uX10_take_22, uX10_take_25, uX10_take_28, uX10_take_28o, uX10_take_28f, uX10_take_29, uX10_take_29o, uX10_take_29f, uX10_take_30, uX10_take_33, uX10_take_36, uX10_take_36o, uX10_take_36f, uX10_take_37, uX10_take_40, mo_C H, mo_R_tape H, mo_C_tape H, mo_L_tape H, mo_R_out H, mo_C_out H, mo_L_out H, pq_C_sI, pq_C_sJ, pq_C_sR, pq_C_sA, pq_L_sI, pq_L_sJ, pq_L_sR, pq_L_sA, pq_I_sI, pq_I_sJ, pq_I_sR, pq_I_sA, pq_J_sI, pq_J_sJ, pq_J_sR, pq_J_sA, pq_R_sI, pq_R_sJ, pq_R_sR, pq_R_sA, pq_N_sI, pq_N_sJ, pq_N_sR, pq_N_sA, pq_S_sI, pq_S_sJ, pq_S_sR, pq_S_sA, pz_rf_s, pz_cut_i, pz_cut_r, pz_cut_n, pz_cut_f, pz_cut_u, pz_cut_o, true_and, and_true, true_or, or_true, Option.toList_some, Option.toList_none, List.cons_append, List.nil_append, Nat.add_left_cancel_iff, Nat.left_eq_add, Nat.add_eq_left, Nat.reduceEqDiff, if_true, if_false, ite_true, ite_false, false_and, and_false, false_or, or_false, reduceIte, reduceCtorEq, and_self, hN]
  rw [if_pos (nI_le (Nat.le_refl _) (by omega))]
end
