/-! ===== the reference: ink ===== -/
def lg (v : Nat) : Nat := if v < 10 then 0 else if v < 100 then 1 else if v < 1000 then 2 else 3
/-- a number's digits -/
def decL (v : Nat) : List Int8 := ofF (fun i => (nI (48 + v / 10 ^ (lg v - i) % 10)).toInt8) (lg v + 1)
def lit (s : List Nat) : List Int8 := s.map (fun c => (nI c).toInt8)
def keyL (k : Nat) : List Int8 := decL (kl k) ++ (lit [58] ++ ofF (fun i => (nI (keyB (keyA k + i))).toInt8) (kl k))
theorem stV_ss {A : St} {i : Nat} {l m : List Int8} : stV (stV A i l) i m = stV A i m := by
  unfold stV
  simp only [sB, sW, sV, upf_uu]
theorem stV_1 {A : St} {i : Nat} {l : List Int8} : sV (stV A i l) i = l := upf_s
theorem lg_sp {v : Nat} (h : v < 10000) : v / 10 ^ lg v ≤ 9 ∧ ∀ i, i < lg v → 9 < v / 10 ^ i := by
  unfold lg
  split
  · exact ⟨by simp; omega, fun i hi => by omega⟩
  · split
    · refine ⟨by simp; omega, fun i hi => ?_⟩
      have : i = 0 := by omega
      subst this; simp; omega
    · split
      · refine ⟨by simp; omega, fun i hi => ?_⟩
        have : i = 0 ∨ i = 1 := by omega
        rcases this with rfl | rfl <;> simp <;> omega
      · refine ⟨by simp; omega, fun i hi => ?_⟩
        have : i = 0 ∨ i = 1 ∨ i = 2 := by omega
        rcases this with rfl | rfl | rfl <;> simp <;> omega
theorem lg_le {v : Nat} : lg v ≤ 3 := by
  unfold lg
  repeat' split
  all_goals omega
theorem p10 {i : Nat} (h : i ≤ 3) : 0 < 10 ^ i ∧ 10 ^ i ≤ 1000 := by
  have : i = 0 ∨ i = 1 ∨ i = 2 ∨ i = 3 := by omega
  rcases this with rfl | rfl | rfl | rfl <;> decide
section
variable {d : Nat} {h : PzH} {Q : Option Value → PzH → Prop} {mo : Nat} {g : Tb} {A : St} {l : List Int8}
theorem g_ink (H : MO h mo) (R : RM g (stV A 1 l) []) (hl : l.length < 6000) {v : Int32} (K : ∀ g', RM g' (stV A 1 (l ++ [v.toInt8])) [] → Q none (mh h mo g')) : pz_M (d + 1) mX10_ink [.ref mo, .int v] (mh h mo g) Q := by
  have e3 : g 0 3 = nI l.length := by
    have := R.1.1.2.1.1
    rwa [stV_1] at this
  have s2 : SEG (g 2) 0 l := by
    have := R.1.1.2.1.2
    rwa [stV_1] at this
  simp only [enX10_ink, uX10_ink_0, uX10_ink_0o, uX10_ink_0f, uX10_ink_1, uX10_ink_4, uX10_ink_4o, uX10_ink_4f, uX10_ink_5, uX10_ink_8, uX10_ink_9, uX10_ink_10, uX10_ink_11, uX10_ink_11o, uX10_ink_11f, uX10_ink_12, uX10_ink_13, uX10_ink_16, uX10_ink_17, uX10_ink_18, uX10_ink_21, mo_C H, mo_R_out H, mo_C_out H, mo_L_out H, pq_C_sI, pq_C_sJ, pq_C_sR, pq_C_sA, pq_L_sI, pq_L_sJ, pq_L_sR, pq_L_sA, pq_I_sI, pq_I_sJ, pq_I_sR, pq_I_sA, pq_J_sI, pq_J_sJ, pq_J_sR, pq_J_sA, pq_R_sI, pq_R_sJ, pq_R_sR, pq_R_sA, pq_N_sI, pq_N_sJ, pq_N_sR, pq_N_sA, pq_S_sI, pq_S_sJ, pq_S_sR, pq_S_sA, pz_rf_s, pz_cut_i, pz_cut_r, pz_cut_n, pz_cut_f, pz_cut_u, pz_cut_o, true_and, and_true, true_or, or_true, Option.toList_some, Option.toList_none, List.cons_append, List.nil_append, Nat.add_left_cancel_iff, Nat.left_eq_add, Nat.add_eq_left, Nat.reduceEqDiff, if_true, if_false, ite_true, ite_false, false_and, and_false, false_or, or_false, reduceIte, reduceCtorEq, and_self, mh_C, mh_L, mh_R, mh_J, mh_I0, mh_I, mh_Ir, mh_sI0, mh_sI, mh_sA, gu_11, gu_22, gu_r, gu_21s, gu_21c, gu_22s, gu_11s, gu_11c, gu_22c, Nat.reduceLeDiff, Nat.reduceLT, ne_eq, not_false_eq_true, not_true_eq_false, Nat.reduceEqDiff, Nat.lt_irrefl, eq_self, z_4, z_5, z_7, z_8, z_10, z_16, z_20, z_64, e3]
  simp (disch := omega) only [nI_clamp, pz_in_nI, true_and, nI_1, pk_vb]
  refine K _ ?_
  have := RM_out (t := upd (g 2) l.length v.toInt8.toInt32) (l := l ++ [v.toInt8]) R (SEG_app s2 (fun i hi => by rw [Nat.zero_add]; exact pk_un (by omega)) (fun i hi => by
    have : i = 0 := by simp at hi; omega
    subst this
    rw [Nat.zero_add, Nat.add_zero, pk_us]
    rfl))
  rw [stV_ss, List.length_append] at this
  first
    | (rw [gu_2to1 (n := 2)]; exact this)
    | (rw [gu_22c (by decide)]; rw [gu_2to1 (n := 2)]; exact this)
theorem ink_1 (H : MO h mo) {v : Nat} (hv : v < 10000) : wp d mX10_inkNumber 2 [.ref mo, .int (nI v), .int 1] [] (mh h mo g) Q ↔ wp d mX10_inkNumber 18 [.ref mo, .int (nI v), .int (nI (10 ^ lg v))] [] (mh h mo g) Q := by
  obtain ⟨l1, l2⟩ := lg_sp hv
  have l3 := lg_le (v := v)
  have key := wp_for (d := d) (m := mX10_inkNumber) (pc := 2) (Q := Q) (fun _ => mh h mo g) (fun i => [.ref mo, .int (nI v), .int (nI (10 ^ i))]) (lg v) (fun i hi => by
    have p := p10 (show i ≤ 3 by omega)
    have hy : ¬ nI (10 ^ i) = 0 := nI_ne0 p.1 (by omega)
    rw [uX10_inkNumber_2]
    simp only [uX10_inkNumber_3, uX10_inkNumber_4 hy, uX10_inkNumber_5, uX10_inkNumber_7, uX10_inkNumber_10, uX10_inkNumber_11, uX10_inkNumber_13, uX10_inkNumber_14, uX10_inkNumber_15, pq_C_sI, pq_C_sJ, pq_C_sR, pq_C_sA, pq_L_sI, pq_L_sJ, pq_L_sR, pq_L_sA, pq_I_sI, pq_I_sJ, pq_I_sR, pq_I_sA, pq_J_sI, pq_J_sJ, pq_J_sR, pq_J_sA, pq_R_sI, pq_R_sJ, pq_R_sR, pq_R_sA, pq_N_sI, pq_N_sJ, pq_N_sR, pq_N_sA, pq_S_sI, pq_S_sJ, pq_S_sR, pq_S_sA, pz_rf_s, pz_cut_i, pz_cut_r, pz_cut_n, pz_cut_f, pz_cut_u, pz_cut_o, true_and, and_true, true_or, or_true, Option.toList_some, Option.toList_none, List.cons_append, List.nil_append, Nat.add_left_cancel_iff, Nat.left_eq_add, Nat.add_eq_left, Nat.reduceEqDiff, if_true, if_false, ite_true, ite_false, false_and, and_false, false_or, or_false, reduceIte, reduceCtorEq, and_self]
    have h2 := l2 i hi
    have h3 : v / 10 ^ i ≤ v := Nat.div_le_self _ _
    rw [pk_div (by omega) p.1 (by omega), if_neg (show ¬ nI (v / 10 ^ i) ≤ 9 from nI_ge (a := 9) h2 (by omega)), show nI (10 ^ i) * 10 = nI (10 ^ (i + 1)) by rw [Nat.pow_succ]; exact pk_mul _ 10])
  refine Iff.trans (show _ ↔ _ from key) ?_
  have p := p10 l3
  have hy : ¬ nI (10 ^ lg v) = 0 := nI_ne0 p.1 (by omega)
  rw [uX10_inkNumber_2]
  simp only [uX10_inkNumber_3, uX10_inkNumber_4 hy, uX10_inkNumber_5, uX10_inkNumber_7, pq_C_sI, pq_C_sJ, pq_C_sR, pq_C_sA, pq_L_sI, pq_L_sJ, pq_L_sR, pq_L_sA, pq_I_sI, pq_I_sJ, pq_I_sR, pq_I_sA, pq_J_sI, pq_J_sJ, pq_J_sR, pq_J_sA, pq_R_sI, pq_R_sJ, pq_R_sR, pq_R_sA, pq_N_sI, pq_N_sJ, pq_N_sR, pq_N_sA, pq_S_sI, pq_S_sJ, pq_S_sR, pq_S_sA, pz_rf_s, pz_cut_i, pz_cut_r, pz_cut_n, pz_cut_f, pz_cut_u, pz_cut_o, true_and, and_true, true_or, or_true, Option.toList_some, Option.toList_none, List.cons_append, List.nil_append, Nat.add_left_cancel_iff, Nat.left_eq_add, Nat.add_eq_left, Nat.reduceEqDiff, if_true, if_false, ite_true, ite_false, false_and, and_false, false_or, or_false, reduceIte, reduceCtorEq, and_self]
  rw [pk_div (by omega) p.1 (by omega), if_pos (show nI (v / 10 ^ lg v) ≤ 9 from nI_le (b := 9) l1 (by decide))]
theorem g_inkNumber (H : MO h mo) (R : RM g (stV A 1 l) []) {v : Nat} (hv : v < 10000) (hl : l.length + 4 ≤ 6000) (K : ∀ g', RM g' (stV A 1 (l ++ decL v)) [] → Q none (mh h mo g')) : pz_M (d + 2) mX10_inkNumber [.ref mo, .int (nI v)] (mh h mo g) Q := by
  have l3 := lg_le (v := v)
  rw [enX10_inkNumber, uX10_inkNumber_0, uX10_inkNumber_1, pz_cut_i, ink_1 H hv]
  have un : ∀ i, i ≤ lg v + 1 → ∃ u : Nat, u ≤ 1000 ∧ (i ≤ lg v → u = 10 ^ (lg v - i)) ∧ (i = lg v + 1 → u = 0) := by
    intro i hi
    by_cases e : i ≤ lg v
    · exact ⟨10 ^ (lg v - i), (p10 (by omega)).2, fun _ => rfl, fun z => by omega⟩
    · exact ⟨0, by omega, fun z => absurd z e, fun _ => rfl⟩
  refine wp_up (lg v + 1) (fun i ls h' => ls = [.ref mo, .int (nI v), .int (nI (if i ≤ lg v then 10 ^ (lg v - i) else 0))] ∧ ∃ g', h' = mh h mo g' ∧ RM g' (stV A 1 (l ++ ofF (fun i => (nI (48 + v / 10 ^ (lg v - i) % 10)).toInt8) i)) []) ?_ ?_ _ _ ⟨by rw [if_pos (Nat.zero_le _)]; rfl, g, rfl, by rw [ofF_0, List.append_nil]; exact R⟩
  · rintro i ls h' hi ⟨rfl, g', rfl, R'⟩ K'
    have p := p10 (show lg v - i ≤ 3 by omega)
    have hy : ¬ nI (10 ^ (lg v - i)) = 0 := nI_ne0 p.1 (by omega)
    have hd : v / 10 ^ (lg v - i) ≤ v := Nat.div_le_self _ _
    rw [if_pos (show i ≤ lg v by omega), uX10_inkNumber_18]
    simp only [uX10_inkNumber_19, uX10_inkNumber_22, uX10_inkNumber_23, uX10_inkNumber_25, uX10_inkNumber_26, uX10_inkNumber_27 hy, uX10_inkNumber_28, uX10_inkNumber_30 (show ¬ (10 : Int32) = 0 by decide), uX10_inkNumber_31, uX10_inkNumber_32, pq_C_sI, pq_C_sJ, pq_C_sR, pq_C_sA, pq_L_sI, pq_L_sJ, pq_L_sR, pq_L_sA, pq_I_sI, pq_I_sJ, pq_I_sR, pq_I_sA, pq_J_sI, pq_J_sJ, pq_J_sR, pq_J_sA, pq_R_sI, pq_R_sJ, pq_R_sR, pq_R_sA, pq_N_sI, pq_N_sJ, pq_N_sR, pq_N_sA, pq_S_sI, pq_S_sJ, pq_S_sR, pq_S_sA, pz_rf_s, pz_cut_i, pz_cut_r, pz_cut_n, pz_cut_f, pz_cut_u, pz_cut_o, true_and, and_true, true_or, or_true, Option.toList_some, Option.toList_none, List.cons_append, List.nil_append, Nat.add_left_cancel_iff, Nat.left_eq_add, Nat.add_eq_left, Nat.reduceEqDiff, if_true, if_false, ite_true, ite_false, false_and, and_false, false_or, or_false, reduceIte, reduceCtorEq, and_self, mh_C, mo_C H]
    rw [if_neg (nI_nle p.1 (by omega)), pk_div (by omega) p.1 (by omega), show (48 : Int32) + (nI (v / 10 ^ (lg v - i)) - nI (v / 10 ^ (lg v - i)) / 10 * 10) = nI (48 + v / 10 ^ (lg v - i) % 10) by rw [show (10 : Int32) = nI 10 from rfl, pk_rem (by omega) (by decide) (by decide)]; exact nI_add 48 _]
    refine g_ink H R' (by rw [List.length_append, ofF_len]; omega) (fun g2 R2 => ?_)
    simp only [uX10_inkNumber_35, uX10_inkNumber_36, uX10_inkNumber_38 (show ¬ (10 : Int32) = 0 by decide), uX10_inkNumber_39, uX10_inkNumber_40, pq_C_sI, pq_C_sJ, pq_C_sR, pq_C_sA, pq_L_sI, pq_L_sJ, pq_L_sR, pq_L_sA, pq_I_sI, pq_I_sJ, pq_I_sR, pq_I_sA, pq_J_sI, pq_J_sJ, pq_J_sR, pq_J_sA, pq_R_sI, pq_R_sJ, pq_R_sR, pq_R_sA, pq_N_sI, pq_N_sJ, pq_N_sR, pq_N_sA, pq_S_sI, pq_S_sJ, pq_S_sR, pq_S_sA, pz_rf_s, pz_cut_i, pz_cut_r, pz_cut_n, pz_cut_f, pz_cut_u, pz_cut_o, true_and, and_true, true_or, or_true, Option.toList_some, Option.toList_none, List.cons_append, List.nil_append, Nat.add_left_cancel_iff, Nat.left_eq_add, Nat.add_eq_left, Nat.reduceEqDiff, if_true, if_false, ite_true, ite_false, false_and, and_false, false_or, or_false, reduceIte, reduceCtorEq, and_self]
    rw [show (10 : Int32) = nI 10 from rfl, pk_div (by omega) (by decide) (by decide)]
    refine K' _ _ ⟨?_, g2, rfl, ?_⟩
    · by_cases e : i + 1 ≤ lg v
      · rw [if_pos e, show lg v - i = lg v - (i + 1) + 1 by omega, Nat.pow_succ, Nat.mul_div_cancel _ (by decide)]
      · rw [if_neg e, show lg v - i = 0 by omega]
    · rw [ofF_s, ← List.append_assoc]
      exact R2
  · rintro ls h' ⟨rfl, g', rfl, R'⟩
    rw [if_neg (by omega), uX10_inkNumber_18]
    simp only [uX10_inkNumber_19, uX10_inkNumber_43, pq_C_sI, pq_C_sJ, pq_C_sR, pq_C_sA, pq_L_sI, pq_L_sJ, pq_L_sR, pq_L_sA, pq_I_sI, pq_I_sJ, pq_I_sR, pq_I_sA, pq_J_sI, pq_J_sJ, pq_J_sR, pq_J_sA, pq_R_sI, pq_R_sJ, pq_R_sR, pq_R_sA, pq_N_sI, pq_N_sJ, pq_N_sR, pq_N_sA, pq_S_sI, pq_S_sJ, pq_S_sR, pq_S_sA, pz_rf_s, pz_cut_i, pz_cut_r, pz_cut_n, pz_cut_f, pz_cut_u, pz_cut_o, true_and, and_true, true_or, or_true, Option.toList_some, Option.toList_none, List.cons_append, List.nil_append, Nat.add_left_cancel_iff, Nat.left_eq_add, Nat.add_eq_left, Nat.reduceEqDiff, if_true, if_false, ite_true, ite_false, false_and, and_false, false_or, or_false, reduceIte, reduceCtorEq, and_self]
    rw [if_pos (show nI 0 ≤ 0 by decide)]
    exact K g' R'
end
