/-! ===== the class: client ===== -/
section
variable {d : Nat} {h h' : PzH} {Q : Option Value → PzH → Prop} {A A' : St} {l c p : Nat}
theorem c_range {n t : Nat} (ht : t ≤ n) (hn : n < 2 ^ 31) : pz_M (d + 1) mJ7_rangeCheck_23922 [.int (nI n), .int 0, .int (nI t)] h Q ↔ Q none h := by
  simp only [enJ7_rangeCheck_23922, uJ7_rangeCheck_23922_0, uJ7_rangeCheck_23922_1, uJ7_rangeCheck_23922_2, uJ7_rangeCheck_23922_8, uJ7_rangeCheck_23922_12, uJ7_rangeCheck_23922_46, uJ7_rangeCheck_23922_47, uJ7_rangeCheck_23922_53, uJ7_rangeCheck_23922_54, uJ7_rangeCheck_23922_59, uJ7_rangeCheck_23922_60, uJ7_rangeCheck_23922_61, uJ7_rangeCheck_23922_67, uJ7_rangeCheck_23922_68, uJ7_rangeCheck_23922_73, pq_C_sI, pq_C_sJ, pq_C_sR, pq_C_sA, pq_L_sI, pq_L_sJ, pq_L_sR, pq_L_sA, pq_I_sI, pq_I_sJ, pq_I_sR, pq_I_sA, pq_J_sI, pq_J_sJ, pq_J_sR, pq_J_sA, pq_R_sI, pq_R_sJ, pq_R_sR, pq_R_sA, pq_N_sI, pq_N_sJ, pq_N_sR, pq_N_sA, pq_S_sI, pq_S_sJ, pq_S_sR, pq_S_sA, pz_rf_s, pz_cut_i, pz_cut_r, pz_cut_n, pz_cut_f, pz_cut_u, pz_cut_o, true_and, and_true, true_or, or_true, Option.toList_some, Option.toList_none, List.cons_append, List.nil_append, Nat.add_left_cancel_iff, Nat.left_eq_add, Nat.add_eq_left, Nat.reduceEqDiff, if_true, if_false, ite_true, ite_false, false_and, and_false, false_or, or_false, reduceIte, reduceCtorEq, and_self]
  rw [if_pos (show (0 : Int32) ≤ nI t from nI_le (a := 0) (by omega) (by omega)), if_pos (by decide), if_pos (nI_le ht hn)]
theorem c_fillB {a cap n : Nat} (hC : pz_C h a = 101) (hL : pz_L h a = cap) (hn : n ≤ cap) (hc : cap < 2 ^ 31) : pz_M (d + 2) mJ7_fill_eb02e [.ref a, .int 0, .int (nI n), .int 0] h Q ↔ Q none (pz_sA h a (fil (pz_I h a) 0 n 0)) := by
  have rc : ∀ {Q : Option Value → PzH → Prop}, pz_M (d + 1) mJ7_rangeCheck_23922 [.int (Int32.ofNat cap), .int 0, .int (nI n)] h Q ↔ Q none h := fun {Q} => c_range hn hc
  simp only [enJ7_fill_eb02e, uJ7_fill_eb02e_0, uJ7_fill_eb02e_0o, uJ7_fill_eb02e_0f, uJ7_fill_eb02e_1, uJ7_fill_eb02e_2, uJ7_fill_eb02e_3, uJ7_fill_eb02e_4, uJ7_fill_eb02e_7, uJ7_fill_eb02e_8, uJ7_fill_eb02e_12, uJ7_fill_eb02e_13, uJ7_fill_eb02e_16, uJ7_fill_eb02e_16o, uJ7_fill_eb02e_16f, uJ7_fill_eb02e_17, uJ7_fill_eb02e_19, uJ7_fill_eb02e_20, uJ7_fill_eb02e_21, uJ7_fill_eb02e_24, uJ7_fill_eb02e_27, pq_C_sI, pq_C_sJ, pq_C_sR, pq_C_sA, pq_L_sI, pq_L_sJ, pq_L_sR, pq_L_sA, pq_I_sI, pq_I_sJ, pq_I_sR, pq_I_sA, pq_J_sI, pq_J_sJ, pq_J_sR, pq_J_sA, pq_R_sI, pq_R_sJ, pq_R_sR, pq_R_sA, pq_N_sI, pq_N_sJ, pq_N_sR, pq_N_sA, pq_S_sI, pq_S_sJ, pq_S_sR, pq_S_sA, pz_rf_s, pz_cut_i, pz_cut_r, pz_cut_n, pz_cut_f, pz_cut_u, pz_cut_o, true_and, and_true, true_or, or_true, Option.toList_some, Option.toList_none, List.cons_append, List.nil_append, Nat.add_left_cancel_iff, Nat.left_eq_add, Nat.add_eq_left, Nat.reduceEqDiff, if_true, if_false, ite_true, ite_false, false_and, and_false, false_or, or_false, reduceIte, reduceCtorEq, and_self, hC, hL, rc]
  have key := wp_for (d := d + 1) (m := mJ7_fill_eb02e) (pc := 10) (Q := Q) (fun i => pz_sA h a (fil (pz_I h a) 0 i 0)) (fun i => [.ref a, .int 0, .int (nI n), .int 0, .int (nI i)]) n (fun i hi => by
    rw [uJ7_fill_eb02e_10]
    simp only [enJ7_fill_eb02e, uJ7_fill_eb02e_0, uJ7_fill_eb02e_0o, uJ7_fill_eb02e_0f, uJ7_fill_eb02e_1, uJ7_fill_eb02e_2, uJ7_fill_eb02e_3, uJ7_fill_eb02e_4, uJ7_fill_eb02e_7, uJ7_fill_eb02e_8, uJ7_fill_eb02e_12, uJ7_fill_eb02e_13, uJ7_fill_eb02e_16, uJ7_fill_eb02e_16o, uJ7_fill_eb02e_16f, uJ7_fill_eb02e_17, uJ7_fill_eb02e_19, uJ7_fill_eb02e_20, uJ7_fill_eb02e_21, uJ7_fill_eb02e_24, uJ7_fill_eb02e_27, pq_C_sI, pq_C_sJ, pq_C_sR, pq_C_sA, pq_L_sI, pq_L_sJ, pq_L_sR, pq_L_sA, pq_I_sI, pq_I_sJ, pq_I_sR, pq_I_sA, pq_J_sI, pq_J_sJ, pq_J_sR, pq_J_sA, pq_R_sI, pq_R_sJ, pq_R_sR, pq_R_sA, pq_N_sI, pq_N_sJ, pq_N_sR, pq_N_sA, pq_S_sI, pq_S_sJ, pq_S_sR, pq_S_sA, pz_rf_s, pz_cut_i, pz_cut_r, pz_cut_n, pz_cut_f, pz_cut_u, pz_cut_o, true_and, and_true, true_or, or_true, Option.toList_some, Option.toList_none, List.cons_append, List.nil_append, Nat.add_left_cancel_iff, Nat.left_eq_add, Nat.add_eq_left, Nat.reduceEqDiff, if_true, if_false, ite_true, ite_false, false_and, and_false, false_or, or_false, reduceIte, reduceCtorEq, and_self, hC, hL]
    rw [if_neg (nI_ge hi (by omega))]
    simp (disch := omega) only [nI_clamp, pz_in_nI, true_and, nI_1, pk_vb, pq_sI_sA]
    have e := fil_s (f := pz_I h a) (a := 0) (m := i) (v := 0)
    rw [Nat.zero_add] at e
    rw [show vp_nar FieldType.byte 0 = 0 by decide, e])
  refine Iff.trans (show _ ↔ _ from ?_) (key.trans ?_)
  · rw [fil_0, pq_sA_eta]
    exact Iff.rfl
  · rw [uJ7_fill_eb02e_10]
    simp only [enJ7_fill_eb02e, uJ7_fill_eb02e_0, uJ7_fill_eb02e_0o, uJ7_fill_eb02e_0f, uJ7_fill_eb02e_1, uJ7_fill_eb02e_2, uJ7_fill_eb02e_3, uJ7_fill_eb02e_4, uJ7_fill_eb02e_7, uJ7_fill_eb02e_8, uJ7_fill_eb02e_12, uJ7_fill_eb02e_13, uJ7_fill_eb02e_16, uJ7_fill_eb02e_16o, uJ7_fill_eb02e_16f, uJ7_fill_eb02e_17, uJ7_fill_eb02e_19, uJ7_fill_eb02e_20, uJ7_fill_eb02e_21, uJ7_fill_eb02e_24, uJ7_fill_eb02e_27, pq_C_sI, pq_C_sJ, pq_C_sR, pq_C_sA, pq_L_sI, pq_L_sJ, pq_L_sR, pq_L_sA, pq_I_sI, pq_I_sJ, pq_I_sR, pq_I_sA, pq_J_sI, pq_J_sJ, pq_J_sR, pq_J_sA, pq_R_sI, pq_R_sJ, pq_R_sR, pq_R_sA, pq_N_sI, pq_N_sJ, pq_N_sR, pq_N_sA, pq_S_sI, pq_S_sJ, pq_S_sR, pq_S_sA, pz_rf_s, pz_cut_i, pz_cut_r, pz_cut_n, pz_cut_f, pz_cut_u, pz_cut_o, true_and, and_true, true_or, or_true, Option.toList_some, Option.toList_none, List.cons_append, List.nil_append, Nat.add_left_cancel_iff, Nat.left_eq_add, Nat.add_eq_left, Nat.reduceEqDiff, if_true, if_false, ite_true, ite_false, false_and, and_false, false_or, or_false, reduceIte, reduceCtorEq, and_self]
    rw [if_pos (nI_le (Nat.le_refl _) (by omega))]
theorem c_fillI {a cap : Nat} (hC : pz_C h a = 100) (hL : pz_L h a = cap) (hc : cap < 2 ^ 31) : pz_M (d + 1) mJ7_fill_53178 [.ref a, .int 0] h Q ↔ Q none (pz_sA h a (fil (pz_I h a) 0 cap 0)) := by
  simp only [enJ7_fill_53178, uJ7_fill_53178_0, uJ7_fill_53178_1, uJ7_fill_53178_2, uJ7_fill_53178_2o, uJ7_fill_53178_2f, uJ7_fill_53178_3, uJ7_fill_53178_4, uJ7_fill_53178_6, uJ7_fill_53178_7, uJ7_fill_53178_10, uJ7_fill_53178_10o, uJ7_fill_53178_10f, uJ7_fill_53178_11, uJ7_fill_53178_12, uJ7_fill_53178_13, uJ7_fill_53178_14, uJ7_fill_53178_17, uJ7_fill_53178_20, pq_C_sI, pq_C_sJ, pq_C_sR, pq_C_sA, pq_L_sI, pq_L_sJ, pq_L_sR, pq_L_sA, pq_I_sI, pq_I_sJ, pq_I_sR, pq_I_sA, pq_J_sI, pq_J_sJ, pq_J_sR, pq_J_sA, pq_R_sI, pq_R_sJ, pq_R_sR, pq_R_sA, pq_N_sI, pq_N_sJ, pq_N_sR, pq_N_sA, pq_S_sI, pq_S_sJ, pq_S_sR, pq_S_sA, pz_rf_s, pz_cut_i, pz_cut_r, pz_cut_n, pz_cut_f, pz_cut_u, pz_cut_o, true_and, and_true, true_or, or_true, Option.toList_some, Option.toList_none, List.cons_append, List.nil_append, Nat.add_left_cancel_iff, Nat.left_eq_add, Nat.add_eq_left, Nat.reduceEqDiff, if_true, if_false, ite_true, ite_false, false_and, and_false, false_or, or_false, reduceIte, reduceCtorEq, and_self, hC, hL]
  have key := wp_for (d := d) (m := mJ7_fill_53178) (pc := 5) (Q := Q) (fun i => pz_sA h a (fil (pz_I h a) 0 i 0)) (fun i => [.ref a, .int 0, .int (nI i), .int (nI cap)]) cap (fun i hi => by
    rw [uJ7_fill_53178_5]
    simp only [enJ7_fill_53178, uJ7_fill_53178_0, uJ7_fill_53178_1, uJ7_fill_53178_2, uJ7_fill_53178_2o, uJ7_fill_53178_2f, uJ7_fill_53178_3, uJ7_fill_53178_4, uJ7_fill_53178_6, uJ7_fill_53178_7, uJ7_fill_53178_10, uJ7_fill_53178_10o, uJ7_fill_53178_10f, uJ7_fill_53178_11, uJ7_fill_53178_12, uJ7_fill_53178_13, uJ7_fill_53178_14, uJ7_fill_53178_17, uJ7_fill_53178_20, pq_C_sI, pq_C_sJ, pq_C_sR, pq_C_sA, pq_L_sI, pq_L_sJ, pq_L_sR, pq_L_sA, pq_I_sI, pq_I_sJ, pq_I_sR, pq_I_sA, pq_J_sI, pq_J_sJ, pq_J_sR, pq_J_sA, pq_R_sI, pq_R_sJ, pq_R_sR, pq_R_sA, pq_N_sI, pq_N_sJ, pq_N_sR, pq_N_sA, pq_S_sI, pq_S_sJ, pq_S_sR, pq_S_sA, pz_rf_s, pz_cut_i, pz_cut_r, pz_cut_n, pz_cut_f, pz_cut_u, pz_cut_o, true_and, and_true, true_or, or_true, Option.toList_some, Option.toList_none, List.cons_append, List.nil_append, Nat.add_left_cancel_iff, Nat.left_eq_add, Nat.add_eq_left, Nat.reduceEqDiff, if_true, if_false, ite_true, ite_false, false_and, and_false, false_or, or_false, reduceIte, reduceCtorEq, and_self, hC, hL]
    rw [if_neg (nI_ge hi (by omega))]
    simp (disch := omega) only [nI_clamp, pz_in_nI, true_and, nI_1, pq_sI_sA]
    have e := fil_s (f := pz_I h a) (a := 0) (m := i) (v := 0)
    rw [Nat.zero_add] at e
    rw [e])
  refine Iff.trans (show _ ↔ _ from ?_) (key.trans ?_)
  · rw [fil_0, pq_sA_eta]
    exact Iff.rfl
  · rw [uJ7_fill_53178_5]
    simp only [enJ7_fill_53178, uJ7_fill_53178_0, uJ7_fill_53178_1, uJ7_fill_53178_2, uJ7_fill_53178_2o, uJ7_fill_53178_2f, uJ7_fill_53178_3, uJ7_fill_53178_4, uJ7_fill_53178_6, uJ7_fill_53178_7, uJ7_fill_53178_10, uJ7_fill_53178_10o, uJ7_fill_53178_10f, uJ7_fill_53178_11, uJ7_fill_53178_12, uJ7_fill_53178_13, uJ7_fill_53178_14, uJ7_fill_53178_17, uJ7_fill_53178_20, pq_C_sI, pq_C_sJ, pq_C_sR, pq_C_sA, pq_L_sI, pq_L_sJ, pq_L_sR, pq_L_sA, pq_I_sI, pq_I_sJ, pq_I_sR, pq_I_sA, pq_J_sI, pq_J_sJ, pq_J_sR, pq_J_sA, pq_R_sI, pq_R_sJ, pq_R_sR, pq_R_sA, pq_N_sI, pq_N_sJ, pq_N_sR, pq_N_sA, pq_S_sI, pq_S_sJ, pq_S_sR, pq_S_sA, pz_rf_s, pz_cut_i, pz_cut_r, pz_cut_n, pz_cut_f, pz_cut_u, pz_cut_o, true_and, and_true, true_or, or_true, Option.toList_some, Option.toList_none, List.cons_append, List.nil_append, Nat.add_left_cancel_iff, Nat.left_eq_add, Nat.add_eq_left, Nat.reduceEqDiff, if_true, if_false, ite_true, ite_false, false_and, and_false, false_or, or_false, reduceIte, reduceCtorEq, and_self]
    rw [if_pos (nI_le (Nat.le_refl _) (by omega))]
theorem c_zeros {r a cap n : Nat} {l : List Int8} (w : ROW h r a cap l) (hn : n ≤ cap) (K : ∀ h', HF [r, a] h h' → ROW h' r a cap (ofF (fun _ => 0) n) → Q none h') : pz_M (d + 3) mX6_becomeZeros [.ref r, .int (nI n)] h Q := by
  have W := w
  obtain ⟨w1, w2, w3, w4, w5, w6, w7, w8, w9⟩ := w
  simp only [enX6_becomeZeros, uX6_becomeZeros_0, uX6_becomeZeros_1, uX6_becomeZeros_4, uX6_becomeZeros_5, uX6_becomeZeros_5o, uX6_becomeZeros_5f, uX6_becomeZeros_6, uX6_becomeZeros_9, uX6_becomeZeros_10, uX6_becomeZeros_13, uX6_becomeZeros_13o, uX6_becomeZeros_13f, uX6_becomeZeros_14, uX6_becomeZeros_17, uX6_becomeZeros_18, uX6_becomeZeros_19, uX6_becomeZeros_20, uX6_becomeZeros_23, uX6_becomeZeros_23o, uX6_becomeZeros_23f, uX6_becomeZeros_24, uX6_becomeZeros_25, uX6_becomeZeros_28, pq_C_sI, pq_C_sJ, pq_C_sR, pq_C_sA, pq_L_sI, pq_L_sJ, pq_L_sR, pq_L_sA, pq_I_sI, pq_I_sJ, pq_I_sR, pq_I_sA, pq_J_sI, pq_J_sJ, pq_J_sR, pq_J_sA, pq_R_sI, pq_R_sJ, pq_R_sR, pq_R_sA, pq_N_sI, pq_N_sJ, pq_N_sR, pq_N_sA, pq_S_sI, pq_S_sJ, pq_S_sR, pq_S_sA, pz_rf_s, pz_cut_i, pz_cut_r, pz_cut_n, pz_cut_f, pz_cut_u, pz_cut_o, true_and, and_true, true_or, or_true, Option.toList_some, Option.toList_none, List.cons_append, List.nil_append, Nat.add_left_cancel_iff, Nat.left_eq_add, Nat.add_eq_left, Nat.reduceEqDiff, if_true, if_false, ite_true, ite_false, false_and, and_false, false_or, or_false, reduceIte, reduceCtorEq, and_self, z_4, z_5, z_7, z_8, z_10, z_16, z_20, z_64, not_false_eq_true, w1, w2, w3, w4, c_fillB w3 w4 hn (show cap < 2 ^ 31 by omega)]
  rw [if_neg (nI_pos (by omega)), if_neg (show ¬ Int32.ofNat cap < nI n from nI_nlt hn (by omega))]
  have := ROW_w (m := ofF (fun _ => 0) n) (f := fil (pz_I h a) 0 n 0) W (by rw [ofF_len]; exact hn) (SEG_of (fun i hi => by rw [Nat.zero_add, fil_in (by omega)]; rfl))
  rw [ofF_len] at this
  exact K _ this.2 this.1
/-- two tables that agree but in one row -/
def Cag (n : Nat) (B B' : Tb) : Prop := ∀ s, s ≠ n → B s = B' s
theorem cag_u2 {B B' : Tb} {m n k : Nat} {v : Int32} (h : Cag m B B') : Cag m (pz_u2 B n k v) (pz_u2 B' n k v) := fun s hs => by
  funext j
  rw [gu_22, gu_22, h s hs]
theorem cag_u1 {B B' : Tb} {m n : Nat} {f f' : Nat → Int32} (h : Cag m B B') (e : f = f') : Cag m (pz_u1 B n f) (pz_u1 B' n f') := fun s hs => by
  rw [gu_11, gu_11, h s hs, e]
theorem cag_fo {B B' : Tb} {m k : Nat} (h : Cag m B B') (h30 : m ≠ 30) (h32 : m ≠ 32) : Cag m (fo B k) (fo B' k) := by
  unfold fo fo7
  exact cag_u1 (cag_u1 (cag_u2 (cag_u2 (cag_u2 (cag_u2 (cag_u2 (cag_u2 (cag_u2 (cag_u2 h)))))))) (by rw [h 30 h30.symm])) (by rw [h 32 h32.symm])
theorem cag_cl {B B' : Tb} {m a b : Nat} {w : Int32} (h : Cag m B B') (h30 : m ≠ 30) (h32 : m ≠ 32) : Cag m (clG B a b w) (clG B' a b w) := cag_u2 (cag_u2 (cag_fo (cag_fo h h30 h32) h30 h32))
theorem cag_pa {B B' : Tb} {m a : Nat} (h : Cag m B B') (h30 : m ≠ 30) (h32 : m ≠ 32) : ∀ n, Cag m (paG B a n) (paG B' a n)
  | 0 => h
  | n + 1 => cag_cl (cag_pa h h30 h32 n) h30 h32
theorem pa_B {a : Nat} : ∀ n, sB (paA A a n) = paG (sB A) a n
  | 0 => rfl
  | n + 1 => by
    show clG (sB (paA A a n)) a n 0 = clG (paG (sB A) a n) a n 0
    rw [pa_B n]
theorem pa_r {a r : Nat} (hr : r ∈ [0, 18, 20, 21, 22]) : ∀ n, sB (paA A a n) r = sB A r
  | 0 => rfl
  | n + 1 => by
    have ih := pa_r (a := a) hr n
    rw [← ih]
    show clG (sB (paA A a n)) a n 0 r = _
    have hc : r = 0 ∨ r = 18 ∨ r = 20 ∨ r = 21 ∨ r = 22 := by simpa using hr
    rcases hc with rfl | rfl | rfl | rfl | rfl <;> rfl
theorem pa_V {a : Nat} : ∀ n, sV (paA A a n) = sV A ∧ sD (paA A a n) = sD A ∧ sF (paA A a n) = sF A
  | 0 => ⟨rfl, rfl, rfl⟩
  | n + 1 => pa_V n
/-- what a new client changes -/
theorem nw_r {x r : Nat} {f : Int32} (h18 : r ≠ 18) (h20 : r ≠ 20) (h21 : r ≠ 21) (h22 : r ≠ 22) : sB (nwA A x f) r = sB (paA A x 5) r := by
  show nwB (sB A) x f r = _
  unfold nwB
  rw [gu_11, if_neg h22, gu_11, if_neg h21, gu_11, if_neg h20, pa_B]
  exact cag_pa (m := 18) (fun s hs => gu_r hs) (by decide) (by decide) 5 r h18
theorem nw_B {x : Nat} {f : Int32} : sB (nwA A x f) = nwB (sB A) x f := rfl
theorem nw_18 {x j : Nat} {f : Int32} : sB (nwA A x f) 18 j = if j = x then 1 else sB A 18 j := by
  have e : nwB (sB A) x f 18 = paG (pz_u2 (sB A) 18 x 1) x 5 18 := by
    unfold nwB
    rw [gu_11, if_neg (by decide), gu_11, if_neg (by decide), gu_11, if_neg (by decide)]
  have := pa_r (A := (pz_u2 (sB A) 18 x 1, A.2)) (a := x) (r := 18) (by decide) 5
  rw [pa_B] at this
  have this2 : paG (pz_u2 (sB A) 18 x 1) x 5 18 = pz_u2 (sB A) 18 x 1 18 := this
  rw [nw_B, e, this2, gu_22]
  by_cases z : j = x
  · rw [if_pos ⟨rfl, z⟩, if_pos z]
  · rw [if_neg (fun y => z y.2), if_neg z]
theorem nw_20 {x : Nat} {f : Int32} : sB (nwA A x f) 20 = put (sB A 20) (64 * x) 64 (haF f (sB A 0 20)) := by
  rw [nw_B]
  unfold nwB
  rw [gu_11, if_neg (by decide), gu_11, if_neg (by decide), gu_11, if_pos rfl]
theorem nw_21 {x : Nat} {f : Int32} : sB (nwA A x f) 21 = fil (sB A 21) (1024 * x) 1024 0 := by
  rw [nw_B]
  unfold nwB
  rw [gu_11, if_neg (by decide), gu_11, if_pos rfl]
theorem nw_22 {x : Nat} {f : Int32} : sB (nwA A x f) 22 = fil (sB A 22) (5 * x) 5 0 := by
  rw [nw_B]
  unfold nwB
  rw [gu_11, if_pos rfl]
theorem nw_b {x r : Nat} {f g : Int32} (hr : r ≠ 20) : sB (nwA A x f) r = sB (nwA A x g) r := by
  by_cases h18 : r = 18
  · subst h18
    funext j
    rw [nw_18, nw_18]
  · by_cases h21 : r = 21
    · subst h21
      rw [nw_21, nw_21]
    · by_cases h22 : r = 22
      · subst h22
        rw [nw_22, nw_22]
      · rw [nw_r h18 hr h21 h22, nw_r h18 hr h21 h22]
theorem nw_D {x j : Nat} {f g : Int32} (hj : j ≠ x) : sD (nwA A x f) j = sD (nwA A x g) j := by
  show upf (sD A) x _ j = upf (sD A) x _ j
  rw [upf_n hj, upf_n hj]
theorem nw_Dx {x : Nat} {f : Int32} (hf : f ≠ 0) : sD (nwA A x f) x = sV A 4 := by
  show upf (sD A) x _ x = _
  rw [upf_s, if_neg hf]
theorem nw_e {x : Nat} {f g : Int32} : sW (nwA A x f) = sW (nwA A x g) ∧ sV (nwA A x f) = sV A ∧ sL (nwA A x f) = sL (nwA A x g) ∧ sF (nwA A x f) = sF A := ⟨rfl, rfl, rfl, rfl⟩
/-- a client's cells, told of a new client -/
theorem RC_nw {x : Nat} {f : Int32} (R : RC h (paA A x 5)) (hx : x < 4) (F : HF [36 + 4 * x, 37 + 4 * x, 38 + 4 * x, 39 + 4 * x] h h') (i0 : pz_I h' (36 + 4 * x) 0 = 1) (i4 : ∀ j, 4 ≤ j → j ≤ 7 → pz_I h' (36 + 4 * x) j = 0) (W : ROW h' (37 + 4 * x) (38 + 4 * x) 4096 (sD (nwA A x f) x)) (jh : BTS (pz_J h' (36 + 4 * x) 2) (fun q => haF f (sB A 0 20) q)) (ic : ∀ P, P < 64 → pz_I h' (39 + 4 * x) P = 0) : RC h' (nwA A x f) := by
  obtain ⟨v1, v2, v3⟩ := pa_V (A := A) (a := x) 5
  refine RC_cl1 R hx F ?_ (fun j => by rw [nw_r (by decide) (by decide) (by decide) (by decide)]) v1.symm v3.symm rfl rfl (fun j hj => ?_) (fun r hr => nw_r (by rintro rfl; revert hr; decide) (by rintro rfl; revert hr; decide) (by rintro rfl; revert hr; decide) (by rintro rfl; revert hr; decide)) (fun j hj => ?_) (fun j hj q hq => ?_) (fun j hj v hv => ?_) (fun j hj v hv => ?_)
  · refine ⟨?_, ⟨_, W⟩, fun _ => ⟨W, ?_, ?_, ?_, ?_, ?_, ?_⟩⟩
    · rw [i0, nw_18, if_pos rfl]
    · intro q hq
      rw [jh q hq, nw_20]
      show _ = decide (put (sB A 20) (64 * x) 64 (haF f (sB A 0 20)) (64 * x + q) ≠ 0)
      rw [put_in hq]
    · intro P hP
      refine ⟨0, by decide, ic P hP, fun q hq => ?_⟩
      rw [nw_21, fil_in (by omega)]
      simp
    · rw [i4 4 (by decide) (by decide), nw_22, fil_in (by omega)]
    · rw [i4 5 (by decide) (by decide), nw_22, fil_in (by omega)]
    · rw [i4 6 (by decide) (by decide), nw_22, fil_in (by omega)]
    · rw [i4 7 (by decide) (by decide), nw_22, fil_in (by omega)]
  · rw [v2]
    exact upf_n hj
  · rw [nw_18, if_neg hj, pa_r (by decide)]
  · rw [nw_20, put_out (by omega), pa_r (by decide)]
  · rw [nw_21, fil_out (by omega), pa_r (by decide)]
  · rw [nw_22, fil_out (by omega), pa_r (by decide)]
theorem c_begin (R : RC h A) {x n : Nat} (hx : x < 4) (hn : sB A 0 18 = nI n) (hn2 : n ≤ 4096) (K : ∀ h', HC h h' → RC h' (nwA A x 0) → Q none h') : pz_M (d + 5) mX5_begin [.ref 23, .int (nI x)] h Q := by
  have n1 := R.1.2.2.2.2.2.1.1
  simp only [enX5_begin, uX5_begin_0, uX5_begin_1, uX5_begin_4, uX5_begin_5, uX5_begin_6, uX5_begin_9, uX5_begin_9o, uX5_begin_9f, uX5_begin_10, uX5_begin_11, uX5_begin_14, uX5_begin_14o, uX5_begin_14f, uX5_begin_15, uX5_begin_18, uX5_begin_19, uX5_begin_20, uX5_begin_20o, uX5_begin_20f, uX5_begin_21, uX5_begin_24, uX5_begin_27, uX5_begin_30, pq_C_sI, pq_C_sJ, pq_C_sR, pq_C_sA, pq_L_sI, pq_L_sJ, pq_L_sR, pq_L_sA, pq_I_sI, pq_I_sJ, pq_I_sR, pq_I_sA, pq_J_sI, pq_J_sJ, pq_J_sR, pq_J_sA, pq_R_sI, pq_R_sJ, pq_R_sR, pq_R_sA, pq_N_sI, pq_N_sJ, pq_N_sR, pq_N_sA, pq_S_sI, pq_S_sJ, pq_S_sR, pq_S_sA, pz_rf_s, pz_cut_i, pz_cut_r, pz_cut_n, pz_cut_f, pz_cut_u, pz_cut_o, true_and, and_true, true_or, or_true, Option.toList_some, Option.toList_none, List.cons_append, List.nil_append, Nat.add_left_cancel_iff, Nat.left_eq_add, Nat.add_eq_left, Nat.reduceEqDiff, if_true, if_false, ite_true, ite_false, false_and, and_false, false_or, or_false, reduceIte, reduceCtorEq, and_self, z_4, z_5, z_7, z_8, z_10, z_16, z_20, z_64, not_false_eq_true, n1]
  rw [if_neg (nI_pos (by omega)), if_neg (show ¬ (4 : Int32) ≤ nI x from nI_ge (b := 4) hx (by decide))]
  refine c_partFromAll R (show x < 5 by omega) (fun h1 F1 R1 => ?_)
  have H1 := HC_HL F1
  obtain ⟨m1, ⟨m2, m3, m4⟩, _, _⟩ := R1.1.2.2.2.2.2.1
  obtain ⟨q1, c1, c2, c3, c4, c5⟩ := R1.1.2.2.2.2.2.2.1 x hx
  obtain ⟨t, ht, tr, tc, T⟩ := TS_of R1
  have t0 : pz_I h1 t 0 = nI n := by
    rw [T.1, pa_r (by decide), hn]
  obtain ⟨d0, ⟨ld, W⟩, _⟩ := R1.2.2.2.1 x hx
  have W1 := W.1
  have e37 : 36 + 4 * x + 1 = 37 + 4 * x := by omega
  have e39 : 36 + 4 * x + 3 = 39 + 4 * x := by omega
  rw [e37] at c2
  rw [e39] at c3 c4 c5
  have hin : pz_in (nI x) 4 = true := pz_in_nI hx (by decide)
  have hcl := nI_clamp (show x < 2 ^ 31 by omega)
  simp only [enX5_begin, uX5_begin_0, uX5_begin_1, uX5_begin_4, uX5_begin_5, uX5_begin_6, uX5_begin_9, uX5_begin_9o, uX5_begin_9f, uX5_begin_10, uX5_begin_11, uX5_begin_14, uX5_begin_14o, uX5_begin_14f, uX5_begin_15, uX5_begin_18, uX5_begin_19, uX5_begin_20, uX5_begin_20o, uX5_begin_20f, uX5_begin_21, uX5_begin_24, uX5_begin_27, uX5_begin_30, pq_C_sI, pq_C_sJ, pq_C_sR, pq_C_sA, pq_L_sI, pq_L_sJ, pq_L_sR, pq_L_sA, pq_I_sI, pq_I_sJ, pq_I_sR, pq_I_sA, pq_J_sI, pq_J_sJ, pq_J_sR, pq_J_sA, pq_R_sI, pq_R_sJ, pq_R_sR, pq_R_sA, pq_N_sI, pq_N_sJ, pq_N_sR, pq_N_sA, pq_S_sI, pq_S_sJ, pq_S_sR, pq_S_sA, pz_rf_s, pz_cut_i, pz_cut_r, pz_cut_n, pz_cut_f, pz_cut_u, pz_cut_o, true_and, and_true, true_or, or_true, Option.toList_some, Option.toList_none, List.cons_append, List.nil_append, Nat.add_left_cancel_iff, Nat.left_eq_add, Nat.add_eq_left, Nat.reduceEqDiff, if_true, if_false, ite_true, ite_false, false_and, and_false, false_or, or_false, reduceIte, reduceCtorEq, and_self, z_4, z_5, z_7, z_8, z_10, z_16, z_20, z_64, not_false_eq_true, m1, m2, m3, m4, hin, hcl, q1, c1, tr, tc, t0]
  simp only [enX2_begin, uX2_begin_0, uX2_begin_0o, uX2_begin_0f, uX2_begin_1, uX2_begin_2, uX2_begin_5, uX2_begin_5o, uX2_begin_5f, uX2_begin_6, uX2_begin_9, uX2_begin_10, uX2_begin_13, uX2_begin_13o, uX2_begin_13f, uX2_begin_14, uX2_begin_15, uX2_begin_18, uX2_begin_18o, uX2_begin_18f, uX2_begin_19, uX2_begin_22, uX2_begin_23, uX2_begin_26, uX2_begin_26o, uX2_begin_26f, uX2_begin_27, uX2_begin_28, uX2_begin_31, uX2_begin_31o, uX2_begin_31f, uX2_begin_32, uX2_begin_33, uX2_begin_36, uX2_begin_36o, uX2_begin_36f, uX2_begin_37, uX2_begin_38, uX2_begin_41, uX2_begin_41o, uX2_begin_41f, uX2_begin_42, uX2_begin_43, uX2_begin_46, pq_C_sI, pq_C_sJ, pq_C_sR, pq_C_sA, pq_L_sI, pq_L_sJ, pq_L_sR, pq_L_sA, pq_I_sI, pq_I_sJ, pq_I_sR, pq_I_sA, pq_J_sI, pq_J_sJ, pq_J_sR, pq_J_sA, pq_R_sI, pq_R_sJ, pq_R_sR, pq_R_sA, pq_N_sI, pq_N_sJ, pq_N_sR, pq_N_sA, pq_S_sI, pq_S_sJ, pq_S_sR, pq_S_sA, pz_rf_s, pz_cut_i, pz_cut_r, pz_cut_n, pz_cut_f, pz_cut_u, pz_cut_o, true_and, and_true, true_or, or_true, Option.toList_some, Option.toList_none, List.cons_append, List.nil_append, Nat.add_left_cancel_iff, Nat.left_eq_add, Nat.add_eq_left, Nat.reduceEqDiff, if_true, if_false, ite_true, ite_false, false_and, and_false, false_or, or_false, reduceIte, reduceCtorEq, and_self, z_4, z_5, z_7, z_8, z_10, z_16, z_20, z_64, not_false_eq_true, c1, c2, c3, c4, c5, W1]
  have f0 : HF [36 + 4 * x] h1 (pz_sI h1 (36 + 4 * x) 0 1) := HF_sI (by simp)
  have Wa := ROW_fr W f0 (by simp <;> omega) (by simp <;> omega)
  have i0 : pz_I (pz_sI h1 (36 + 4 * x) 0 1) (36 + 4 * x) 0 = 1 := by rw [pq_I_sI, if_pos ⟨rfl, rfl⟩]
  have cc : pz_C (pz_sI h1 (36 + 4 * x) 0 1) (36 + 4 * x) = 2 ∧ pz_R (pz_sI h1 (36 + 4 * x) 0 1) (36 + 4 * x) 3 = some (39 + 4 * x) ∧ pz_C (pz_sI h1 (36 + 4 * x) 0 1) (39 + 4 * x) = 100 ∧ pz_L (pz_sI h1 (36 + 4 * x) 0 1) (39 + 4 * x) = 64 := ⟨c1, c3, c4, c5⟩
  generalize pz_sI h1 (36 + 4 * x) 0 1 = h2 at f0 Wa i0 cc
  refine c_zeros Wa hn2 (fun h3 F3 W3 => ?_)
  have cc3 : pz_C h3 (36 + 4 * x) = 2 ∧ pz_R h3 (36 + 4 * x) 3 = some (39 + 4 * x) ∧ pz_C h3 (39 + 4 * x) = 100 ∧ pz_L h3 (39 + 4 * x) = 64 := by
    rw [F3.1, F3.2.1, F3.2.2.1]
    exact cc
  have i0' : pz_I h3 (36 + 4 * x) 0 = 1 := by rw [F3.2.2.2.2.2.2.2.1 _ (by simp <;> omega)]; exact i0
  have fi : ∀ {Q : Option Value → PzH → Prop} {y : Int64}, pz_M (d + 3) mJ7_fill_53178 [.ref (39 + 4 * x), .int 0] (pz_sJ h3 (36 + 4 * x) 2 y) Q ↔ Q none (pz_sA (pz_sJ h3 (36 + 4 * x) 2 y) (39 + 4 * x) (fil (pz_I (pz_sJ h3 (36 + 4 * x) 2 y) (39 + 4 * x)) 0 64 0)) := fun {Q y} => c_fillI (h := pz_sJ h3 (36 + 4 * x) 2 y) cc3.2.2.1 cc3.2.2.2 (by decide)
  simp only [enX2_begin, uX2_begin_0, uX2_begin_0o, uX2_begin_0f, uX2_begin_1, uX2_begin_2, uX2_begin_5, uX2_begin_5o, uX2_begin_5f, uX2_begin_6, uX2_begin_9, uX2_begin_10, uX2_begin_13, uX2_begin_13o, uX2_begin_13f, uX2_begin_14, uX2_begin_15, uX2_begin_18, uX2_begin_18o, uX2_begin_18f, uX2_begin_19, uX2_begin_22, uX2_begin_23, uX2_begin_26, uX2_begin_26o, uX2_begin_26f, uX2_begin_27, uX2_begin_28, uX2_begin_31, uX2_begin_31o, uX2_begin_31f, uX2_begin_32, uX2_begin_33, uX2_begin_36, uX2_begin_36o, uX2_begin_36f, uX2_begin_37, uX2_begin_38, uX2_begin_41, uX2_begin_41o, uX2_begin_41f, uX2_begin_42, uX2_begin_43, uX2_begin_46, pq_C_sI, pq_C_sJ, pq_C_sR, pq_C_sA, pq_L_sI, pq_L_sJ, pq_L_sR, pq_L_sA, pq_I_sI, pq_I_sJ, pq_I_sR, pq_I_sA, pq_J_sI, pq_J_sJ, pq_J_sR, pq_J_sA, pq_R_sI, pq_R_sJ, pq_R_sR, pq_R_sA, pq_N_sI, pq_N_sJ, pq_N_sR, pq_N_sA, pq_S_sI, pq_S_sJ, pq_S_sR, pq_S_sA, pz_rf_s, pz_cut_i, pz_cut_r, pz_cut_n, pz_cut_f, pz_cut_u, pz_cut_o, true_and, and_true, true_or, or_true, Option.toList_some, Option.toList_none, List.cons_append, List.nil_append, Nat.add_left_cancel_iff, Nat.left_eq_add, Nat.add_eq_left, Nat.reduceEqDiff, if_true, if_false, ite_true, ite_false, false_and, and_false, false_or, or_false, reduceIte, reduceCtorEq, and_self, z_4, z_5, z_7, z_8, z_10, z_16, z_20, z_64, not_false_eq_true, cc3, fi]
  simp only [enX5_begin, uX5_begin_0, uX5_begin_1, uX5_begin_4, uX5_begin_5, uX5_begin_6, uX5_begin_9, uX5_begin_9o, uX5_begin_9f, uX5_begin_10, uX5_begin_11, uX5_begin_14, uX5_begin_14o, uX5_begin_14f, uX5_begin_15, uX5_begin_18, uX5_begin_19, uX5_begin_20, uX5_begin_20o, uX5_begin_20f, uX5_begin_21, uX5_begin_24, uX5_begin_27, uX5_begin_30, pq_C_sI, pq_C_sJ, pq_C_sR, pq_C_sA, pq_L_sI, pq_L_sJ, pq_L_sR, pq_L_sA, pq_I_sI, pq_I_sJ, pq_I_sR, pq_I_sA, pq_J_sI, pq_J_sJ, pq_J_sR, pq_J_sA, pq_R_sI, pq_R_sJ, pq_R_sR, pq_R_sA, pq_N_sI, pq_N_sJ, pq_N_sR, pq_N_sA, pq_S_sI, pq_S_sJ, pq_S_sR, pq_S_sA, pz_rf_s, pz_cut_i, pz_cut_r, pz_cut_n, pz_cut_f, pz_cut_u, pz_cut_o, true_and, and_true, true_or, or_true, Option.toList_some, Option.toList_none, List.cons_append, List.nil_append, Nat.add_left_cancel_iff, Nat.left_eq_add, Nat.add_eq_left, Nat.reduceEqDiff, if_true, if_false, ite_true, ite_false, false_and, and_false, false_or, or_false, reduceIte, reduceCtorEq, and_self, z_4, z_5, z_7, z_8, z_10, z_16, z_20, z_64, not_false_eq_true]
  have e1 : ¬ 36 + 4 * x = 39 + 4 * x := by omega
  refine K _ ?_ (RC_nw (f := 0) R1 hx ?_ ?_ (fun j h4 h7 => ?_) ?_ (fun q hq => ?_) (fun P hP => ?_))
  · refine HC_trans H1 (HC_trans (HC_HF f0 (fun z hz => by simp at hz; omega)) (HC_trans (HC_HF F3 (fun z hz => by simp at hz; omega)) ?_))
    exact HC_HF (cs := [36 + 4 * x, 39 + 4 * x]) (HF_trans (HF_trans (HF_trans (HF_trans (HF_trans (HF_sJ (by simp)) (HF_sA (by simp))) (HF_sI (by simp))) (HF_sI (by simp))) (HF_sI (by simp))) (HF_sI (by simp))) (fun z hz => by simp at hz; omega)
  · refine HF_trans (HF_up f0 (by simp)) (HF_trans (HF_up F3 (by simp)) ?_)
    exact HF_trans (HF_trans (HF_trans (HF_trans (HF_trans (HF_sJ (by simp)) (HF_sA (by simp))) (HF_sI (by simp))) (HF_sI (by simp))) (HF_sI (by simp))) (HF_sI (by simp))
  · simp only [pq_I_sI, pq_I_sA, pq_I_sJ, e1, true_and, if_false]
    exact i0'
  · have hc : j = 4 ∨ j = 5 ∨ j = 6 ∨ j = 7 := by omega
    rcases hc with rfl | rfl | rfl | rfl <;> simp [pq_I_sI, pq_I_sA, pq_I_sJ]
  · have e2 : sD (nwA A x 0) x = ofF (fun _ => 0) n := by
      show upf (sD A) x _ x = _
      rw [upf_s, if_pos rfl, hn, nI_clamp (by omega)]
    rw [e2]
    refine ROW_fr (cs := [36 + 4 * x, 39 + 4 * x]) W3 ?_ (by simp <;> omega) (by simp <;> omega)
    exact HF_trans (HF_trans (HF_trans (HF_trans (HF_trans (HF_sJ (by simp)) (HF_sA (by simp))) (HF_sI (by simp))) (HF_sI (by simp))) (HF_sI (by simp))) (HF_sI (by simp))
  · have e3 : haF 0 (sB A 0 20) q = 0 := rfl
    show _ = decide (haF 0 (sB A 0 20) q ≠ 0)
    rw [e3]
    simp [pq_J_sI, pq_J_sA, pq_J_sJ]
  · have e4 : ¬ 39 + 4 * x = 36 + 4 * x := by omega
    simp only [pq_I_sI, pq_I_sA, pq_I_sJ, e4, false_and, if_false, if_true]
    exact fil_in (by omega)
theorem c_allPieces {t : Nat} (hC : pz_C h t = 8) (T : TR h A t) (N : TN A l c p) : pz_M (d + 1) mX8_allPieces [.ref t] h Q ↔ Q (some (.long (if p = 64 then -1 else lN (2 ^ p - 1)))) h := by
  have e := T.2.2.1.trans N.2.2.1
  have t6 := N.2.2.2.2.2.1
  simp only [enX8_allPieces, uX8_allPieces_0, uX8_allPieces_0o, uX8_allPieces_0f, uX8_allPieces_1, uX8_allPieces_4, uX8_allPieces_6, uX8_allPieces_9, uX8_allPieces_12, uX8_allPieces_15, uX8_allPieces_16, uX8_allPieces_16o, uX8_allPieces_16f, uX8_allPieces_17, uX8_allPieces_20, uX8_allPieces_21, uX8_allPieces_22, uX8_allPieces_23, pq_C_sI, pq_C_sJ, pq_C_sR, pq_C_sA, pq_L_sI, pq_L_sJ, pq_L_sR, pq_L_sA, pq_I_sI, pq_I_sJ, pq_I_sR, pq_I_sA, pq_J_sI, pq_J_sJ, pq_J_sR, pq_J_sA, pq_R_sI, pq_R_sJ, pq_R_sR, pq_R_sA, pq_N_sI, pq_N_sJ, pq_N_sR, pq_N_sA, pq_S_sI, pq_S_sJ, pq_S_sR, pq_S_sA, pz_rf_s, pz_cut_i, pz_cut_r, pz_cut_n, pz_cut_f, pz_cut_u, pz_cut_o, true_and, and_true, true_or, or_true, Option.toList_some, Option.toList_none, List.cons_append, List.nil_append, Nat.add_left_cancel_iff, Nat.left_eq_add, Nat.add_eq_left, Nat.reduceEqDiff, if_true, if_false, ite_true, ite_false, false_and, and_false, false_or, or_false, reduceIte, reduceCtorEq, and_self, z_4, z_5, z_7, z_8, z_10, z_16, z_20, z_64, not_false_eq_true, hC, e]
  by_cases q : p = 64
  · rw [if_neg (show ¬ nI p < 64 by rw [q]; decide), if_pos q]
  · rw [if_pos (show nI p < 64 from nI_lt (b := 64) (by omega) (by decide)), if_neg q]
    have := wb_shl 1 (k := p) (by omega)
    rw [Nat.one_mul] at this
    rw [show (1 : Int64) <<< ((nI p).toInt64 &&& 63) = lN (2 ^ p) from this, show (1 : Int64) = lN 1 from rfl, lN_sb Nat.one_le_two_pow]
theorem BTS_all {f : Int32} (hf : f ≠ 0) (N : TN A l c p) : BTS (if p = 64 then -1 else lN (2 ^ p - 1)) (fun q => haF f (sB A 0 20) q) := by
  have t6 := N.2.2.2.2.2.1
  intro q hq
  have e : haF f (sB A 0 20) q = if p ≤ q then 0 else 1 := by
    unfold haF
    rw [if_neg hf, N.2.2.1]
    by_cases z : p ≤ q
    · rw [if_pos (nI_le z (by omega)), if_pos z]
    · rw [if_neg (nI_ge (by omega) (by omega)), if_neg z]
  show _ = decide (haF f (sB A 0 20) q ≠ 0)
  rw [e]
  by_cases z : p = 64
  · rw [if_pos z, if_neg (by omega)]
    have m1 : ∀ q, q < 64 → (-1 : Int64).toBitVec.getLsbD q = true := by decide +kernel
    rw [m1 q hq]
    rfl
  · rw [if_neg z, wb_tb, BitVec.getLsbD_ofNat, decide_eq_true hq, Bool.true_and, Nat.testBit_two_pow_sub_one]
    by_cases y : p ≤ q
    · rw [if_pos y, decide_eq_false (by omega)]
      rfl
    · rw [if_neg y, decide_eq_true (by omega)]
      rfl
theorem c_fill {x : Nat} {f : Int32} (hx : x < 4) (hf : f ≠ 0) (N : TN A l c p) (hc : (sV A 4).length ≤ 4096) (h17 : sB A 0 17 ≠ 0) (R : RC h (nwA A x 0)) (K : ∀ h', HC h h' → RC h' (nwA A x f) → Q none h') : pz_M (d + 3) mX5_fill [.ref 23, .int (nI x), .ref 5] h Q := by
  have h18 : sB (nwA A x 0) 18 x ≠ 0 := by rw [nw_18, if_pos rfl]; decide
  have e0 : ∀ j, sB (nwA A x 0) 0 j = sB A 0 j := fun j => by rw [nw_r (by decide) (by decide) (by decide) (by decide), pa_r (by decide)]
  have b : ∀ r, r ≠ 20 → sB (nwA A x f) r = sB (nwA A x 0) r := fun r hr => nw_b hr
  have b20 : ∀ j, j ≠ x → ∀ q, q < 64 → sB (nwA A x f) 20 (64 * j + q) = sB (nwA A x 0) 20 (64 * j + q) := fun j hj q hq => by rw [nw_20, nw_20, put_out (by omega), put_out (by omega)]
  have b20x : ∀ q, q < 64 → sB (nwA A x f) 20 (64 * x + q) = haF f (sB A 0 20) q := fun q hq => by rw [nw_20, put_in hq]
  have bD : ∀ j, j ≠ x → sD (nwA A x f) j = sD (nwA A x 0) j := fun j hj => nw_D hj
  have bDx := nw_Dx (A := A) (x := x) hf
  obtain ⟨eW, eV, eL, eF⟩ := nw_e (A := A) (x := x) (f := f) (g := 0)
  obtain ⟨_, eV0, _, eF0⟩ := nw_e (A := A) (x := x) (f := 0) (g := 0)
  generalize nwA A x 0 = Z at R h18 e0 b b20 bD eW eL eV0 eF0
  generalize nwA A x f = Y at K b b20 b20x bD bDx eW eL eV eF
  have n1 := R.1.2.2.2.2.2.1.1
  have ec : clO Z (nI x) = some (36 + 4 * x) := by
    unfold clO
    rw [vI_of (by decide) hx]
    exact if_neg h18
  obtain ⟨⟨c1, c2, c3, c4, c5⟩, CRx⟩ := CL_of R hx
  obtain ⟨rd, bits, cb, d4, d5, d6, d7⟩ := CRx.2.2 h18
  have e37 : 36 + 4 * x + 1 = 37 + 4 * x := by omega
  rw [e37] at c2
  have r1 := rd.1
  simp only [enX5_fill, uX5_fill_0, uX5_fill_0o, uX5_fill_0f, uX5_fill_1, uX5_fill_2, uX5_fill_5, uX5_fill_5o, uX5_fill_6, uX5_fill_6o, uX5_fill_6f, uX5_fill_7, uX5_fill_7a, uX5_fill_10, uX5_fill_10o, uX5_fill_10f, uX5_fill_11, uX5_fill_14, uX5_fill_15, uX5_fill_18, uX5_fill_18o, uX5_fill_18f, uX5_fill_19, uX5_fill_22, uX5_fill_22o, uX5_fill_22f, uX5_fill_23, uX5_fill_24, uX5_fill_24o, uX5_fill_24f, uX5_fill_25, uX5_fill_28, uX5_fill_31, uX5_fill_31o, uX5_fill_31f, uX5_fill_32, uX5_fill_32o, uX5_fill_32f, uX5_fill_33, uX5_fill_36, uX5_fill_39, uX5_fill_42, pq_C_sI, pq_C_sJ, pq_C_sR, pq_C_sA, pq_L_sI, pq_L_sJ, pq_L_sR, pq_L_sA, pq_I_sI, pq_I_sJ, pq_I_sR, pq_I_sA, pq_J_sI, pq_J_sJ, pq_J_sR, pq_J_sA, pq_R_sI, pq_R_sJ, pq_R_sR, pq_R_sA, pq_N_sI, pq_N_sJ, pq_N_sR, pq_N_sA, pq_S_sI, pq_S_sJ, pq_S_sR, pq_S_sA, pz_rf_s, pz_cut_i, pz_cut_r, pz_cut_n, pz_cut_f, pz_cut_u, pz_cut_o, true_and, and_true, true_or, or_true, Option.toList_some, Option.toList_none, List.cons_append, List.nil_append, Nat.add_left_cancel_iff, Nat.left_eq_add, Nat.add_eq_left, Nat.reduceEqDiff, if_true, if_false, ite_true, ite_false, false_and, and_false, false_or, or_false, reduceIte, reduceCtorEq, and_self, z_4, z_5, z_7, z_8, z_10, z_16, z_20, z_64, not_false_eq_true, n1, c_clientOf R.1 R.2.2.2.1, ec, c1, c2, r1]
  refine c_cut0 rd (fun h1 F1 X1 => ?_)
  have V : ROW h1 5 6 4096 (sV A 4) := by
    have V0 := R.2.2.1.2.2.1
    rw [e0 17, if_neg h17, eV0] at V0
    exact ROW_fr V0 F1 (by simp <;> omega) (by simp <;> omega)
  have cc1 : pz_C h1 (36 + 4 * x) = 2 ∧ pz_R h1 (36 + 4 * x) 1 = some (37 + 4 * x) := by rw [F1.1, F1.2.2.1]; exact ⟨c1, c2⟩
  have Y1 := X1.1
  have Y2 := V.1
  simp only [enX5_fill, uX5_fill_0, uX5_fill_0o, uX5_fill_0f, uX5_fill_1, uX5_fill_2, uX5_fill_5, uX5_fill_5o, uX5_fill_6, uX5_fill_6o, uX5_fill_6f, uX5_fill_7, uX5_fill_7a, uX5_fill_10, uX5_fill_10o, uX5_fill_10f, uX5_fill_11, uX5_fill_14, uX5_fill_15, uX5_fill_18, uX5_fill_18o, uX5_fill_18f, uX5_fill_19, uX5_fill_22, uX5_fill_22o, uX5_fill_22f, uX5_fill_23, uX5_fill_24, uX5_fill_24o, uX5_fill_24f, uX5_fill_25, uX5_fill_28, uX5_fill_31, uX5_fill_31o, uX5_fill_31f, uX5_fill_32, uX5_fill_32o, uX5_fill_32f, uX5_fill_33, uX5_fill_36, uX5_fill_39, uX5_fill_42, pq_C_sI, pq_C_sJ, pq_C_sR, pq_C_sA, pq_L_sI, pq_L_sJ, pq_L_sR, pq_L_sA, pq_I_sI, pq_I_sJ, pq_I_sR, pq_I_sA, pq_J_sI, pq_J_sJ, pq_J_sR, pq_J_sA, pq_R_sI, pq_R_sJ, pq_R_sR, pq_R_sA, pq_N_sI, pq_N_sJ, pq_N_sR, pq_N_sA, pq_S_sI, pq_S_sJ, pq_S_sR, pq_S_sA, pz_rf_s, pz_cut_i, pz_cut_r, pz_cut_n, pz_cut_f, pz_cut_u, pz_cut_o, true_and, and_true, true_or, or_true, Option.toList_some, Option.toList_none, List.cons_append, List.nil_append, Nat.add_left_cancel_iff, Nat.left_eq_add, Nat.add_eq_left, Nat.reduceEqDiff, if_true, if_false, ite_true, ite_false, false_and, and_false, false_or, or_false, reduceIte, reduceCtorEq, and_self, z_4, z_5, z_7, z_8, z_10, z_16, z_20, z_64, not_false_eq_true, cc1, Y1, Y2, c_size V]
  refine (show _ from c_addPart (b := 0) (n := (sV A 4).length) X1 V ⟨by omega, by omega⟩ (by omega) (by simp; omega) (fun h2 F2 X2 => ?_) : pz_M (d + 2) mX6_addPart [.ref (37 + 4 * x), .ref 5, .int 0, .int (nI (sV A 4).length)] h1 _)
  rw [List.nil_append, ofF_take (Nat.le_refl _), List.take_length] at X2
  have F12 := HF_trans F1 F2
  obtain ⟨t, ht, tr, tc, T⟩ := TS_of R
  have tr2 : pz_R h2 23 3 = some t := by rw [F12.2.2.1]; exact tr
  have tc2 : pz_C h2 t = 8 := by rw [F12.1]; exact tc
  have n2 : pz_C h2 23 = 5 := by rw [F12.1]; exact n1
  have cc2 : pz_C h2 (36 + 4 * x) = 2 := by rw [F12.1]; exact c1
  have T2 : TR h2 Z t := TR_fr T F12 (fun z h1 h2 => by simp; omega) (fun _ => rfl) rfl rfl
  have N2 : TN Z l c p := by
    obtain ⟨t1, t2, t3, t4⟩ := N
    exact ⟨(e0 18).trans t1, (e0 19).trans t2, (e0 20).trans t3, t4⟩
  simp only [enX5_fill, uX5_fill_0, uX5_fill_0o, uX5_fill_0f, uX5_fill_1, uX5_fill_2, uX5_fill_5, uX5_fill_5o, uX5_fill_6, uX5_fill_6o, uX5_fill_6f, uX5_fill_7, uX5_fill_7a, uX5_fill_10, uX5_fill_10o, uX5_fill_10f, uX5_fill_11, uX5_fill_14, uX5_fill_15, uX5_fill_18, uX5_fill_18o, uX5_fill_18f, uX5_fill_19, uX5_fill_22, uX5_fill_22o, uX5_fill_22f, uX5_fill_23, uX5_fill_24, uX5_fill_24o, uX5_fill_24f, uX5_fill_25, uX5_fill_28, uX5_fill_31, uX5_fill_31o, uX5_fill_31f, uX5_fill_32, uX5_fill_32o, uX5_fill_32f, uX5_fill_33, uX5_fill_36, uX5_fill_39, uX5_fill_42, pq_C_sI, pq_C_sJ, pq_C_sR, pq_C_sA, pq_L_sI, pq_L_sJ, pq_L_sR, pq_L_sA, pq_I_sI, pq_I_sJ, pq_I_sR, pq_I_sA, pq_J_sI, pq_J_sJ, pq_J_sR, pq_J_sA, pq_R_sI, pq_R_sJ, pq_R_sR, pq_R_sA, pq_N_sI, pq_N_sJ, pq_N_sR, pq_N_sA, pq_S_sI, pq_S_sJ, pq_S_sR, pq_S_sA, pz_rf_s, pz_cut_i, pz_cut_r, pz_cut_n, pz_cut_f, pz_cut_u, pz_cut_o, true_and, and_true, true_or, or_true, Option.toList_some, Option.toList_none, List.cons_append, List.nil_append, Nat.add_left_cancel_iff, Nat.left_eq_add, Nat.add_eq_left, Nat.reduceEqDiff, if_true, if_false, ite_true, ite_false, false_and, and_false, false_or, or_false, reduceIte, reduceCtorEq, and_self, z_4, z_5, z_7, z_8, z_10, z_16, z_20, z_64, not_false_eq_true, n2, tr2, tc2, c_allPieces tc2 T2 N2, cc2]
  have f3 : HF [36 + 4 * x] h2 (pz_sJ h2 (36 + 4 * x) 2 (if p = 64 then -1 else lN (2 ^ p - 1))) := HF_sJ (by simp)
  have J3 : pz_J (pz_sJ h2 (36 + 4 * x) 2 (if p = 64 then -1 else lN (2 ^ p - 1))) (36 + 4 * x) 2 = if p = 64 then -1 else lN (2 ^ p - 1) := by rw [pq_J_sJ, if_pos ⟨rfl, rfl⟩]
  have I3 : pz_I (pz_sJ h2 (36 + 4 * x) 2 (if p = 64 then -1 else lN (2 ^ p - 1))) = pz_I h2 := rfl
  generalize pz_sJ h2 (36 + 4 * x) 2 (if p = 64 then -1 else lN (2 ^ p - 1)) = h3 at f3 J3 I3
  have i36 : pz_I h3 (36 + 4 * x) = pz_I h (36 + 4 * x) := by rw [I3, F12.2.2.2.2.2.2.2.1 _ (by simp <;> omega)]
  have i39 : pz_I h3 (39 + 4 * x) = pz_I h (39 + 4 * x) := by rw [I3, F12.2.2.2.2.2.2.2.1 _ (by simp <;> omega)]
  have W3 := ROW_fr X2 f3 (by simp <;> omega) (by simp <;> omega)
  have F03 : HF [36 + 4 * x, 37 + 4 * x, 38 + 4 * x, 39 + 4 * x] h h3 := HF_trans (HF_up F12 (by simp)) (HF_up f3 (by simp))
  refine K h3 (HC_HF F03 (fun z hz => by simp at hz; omega)) (RC_cl1 R hx F03 ?_ (fun j => by rw [b 0 (by decide)]) (eV.trans eV0.symm) (eF.trans eF0.symm) eW eL bD (fun r hr => b r (by rintro rfl; revert hr; decide)) (fun j _ => by rw [b 18 (by decide)]) b20 (fun j _ v _ => by rw [b 21 (by decide)]) (fun j _ v _ => by rw [b 22 (by decide)]))
  unfold CR
  rw [i36, i39, b 18 (by decide), b 21 (by decide), b 22 (by decide), bDx, J3]
  refine ⟨CRx.1, ⟨_, W3⟩, fun _ => ⟨W3, fun q hq => ?_, cb, d4, d5, d6, d7⟩⟩
  have := BTS_all hf N q hq
  rw [this]
  show decide (haF f (sB A 0 20) q ≠ 0) = decide (sB Y 20 (64 * x + q) ≠ 0)
  rw [b20x q hq]
theorem c_client (R : RC h A) (N : TN A l c p) (M : sB A 0 16 = 0 ↔ p = 0) (hc : (sV A 4).length ≤ 4096) (hc1 : sB A 0 17 ≠ 0 → 1 ≤ (sV A 4).length) {k f : Int32} (hf : f = 0 ∨ f = 1) (K : ∀ h', HC h h' → RC h' (cliA A k f).2 → Q (some (.int (cliA A k f).1)) h') : pz_M (d + 6) mX9_client [.ref 0, .int k, .int f] h Q := by
  obtain ⟨s0, s1, s2, s3, s4, s5, s6, s7⟩ := DS_of R
  obtain ⟨t, ht, tr, tc, T⟩ := TS_of R
  have n1 := R.1.2.2.2.2.2.1.1
  have V := R.2.2.1.2.2.1
  have V1 := V.1
  unfold cliA vI at K
  by_cases h0 : k < 0
  · rw [if_pos h0] at K
    simp only [enX9_client, uX9_client_0, uX9_client_1, uX9_client_4, uX9_client_5, uX9_client_6, uX9_client_9, uX9_client_9o, uX9_client_9f, uX9_client_10, uX9_client_13, uX9_client_16, uX9_client_19, uX9_client_22, uX9_client_23, uX9_client_26, uX9_client_26o, uX9_client_26f, uX9_client_27, uX9_client_30, uX9_client_33, uX9_client_36, uX9_client_37, uX9_client_38, uX9_client_38o, uX9_client_38f, uX9_client_39, uX9_client_42, uX9_client_43, uX9_client_46, uX9_client_47, uX9_client_50, uX9_client_50o, uX9_client_50f, uX9_client_51, uX9_client_54, uX9_client_55, uX9_client_55o, uX9_client_55f, uX9_client_56, uX9_client_59, uX9_client_62, uX9_client_63, pq_C_sI, pq_C_sJ, pq_C_sR, pq_C_sA, pq_L_sI, pq_L_sJ, pq_L_sR, pq_L_sA, pq_I_sI, pq_I_sJ, pq_I_sR, pq_I_sA, pq_J_sI, pq_J_sJ, pq_J_sR, pq_J_sA, pq_R_sI, pq_R_sJ, pq_R_sR, pq_R_sA, pq_N_sI, pq_N_sJ, pq_N_sR, pq_N_sA, pq_S_sI, pq_S_sJ, pq_S_sR, pq_S_sA, pz_rf_s, pz_cut_i, pz_cut_r, pz_cut_n, pz_cut_f, pz_cut_u, pz_cut_o, true_and, and_true, true_or, or_true, Option.toList_some, Option.toList_none, List.cons_append, List.nil_append, Nat.add_left_cancel_iff, Nat.left_eq_add, Nat.add_eq_left, Nat.reduceEqDiff, if_true, if_false, ite_true, ite_false, false_and, and_false, false_or, or_false, reduceIte, reduceCtorEq, and_self, z_4, z_5, z_7, z_8, z_10, z_16, z_20, z_64, not_false_eq_true, h0]
    exact K h HC_refl R
  · rw [if_neg h0] at K
    obtain ⟨x, hx, rfl⟩ := nI_of h0
    by_cases h4 : x < 4
    · rw [if_pos (nI_lt h4 (by decide)), nI_clamp hx] at K
      dsimp only at K
      have ge : ¬ (4 : Int32) ≤ nI x := nI_ge (b := 4) h4 (by decide)
      by_cases q16 : sB A 0 16 = 0
      · rw [if_pos (Or.inl q16)] at K
        simp only [enX9_client, uX9_client_0, uX9_client_1, uX9_client_4, uX9_client_5, uX9_client_6, uX9_client_9, uX9_client_9o, uX9_client_9f, uX9_client_10, uX9_client_13, uX9_client_16, uX9_client_19, uX9_client_22, uX9_client_23, uX9_client_26, uX9_client_26o, uX9_client_26f, uX9_client_27, uX9_client_30, uX9_client_33, uX9_client_36, uX9_client_37, uX9_client_38, uX9_client_38o, uX9_client_38f, uX9_client_39, uX9_client_42, uX9_client_43, uX9_client_46, uX9_client_47, uX9_client_50, uX9_client_50o, uX9_client_50f, uX9_client_51, uX9_client_54, uX9_client_55, uX9_client_55o, uX9_client_55f, uX9_client_56, uX9_client_59, uX9_client_62, uX9_client_63, pq_C_sI, pq_C_sJ, pq_C_sR, pq_C_sA, pq_L_sI, pq_L_sJ, pq_L_sR, pq_L_sA, pq_I_sI, pq_I_sJ, pq_I_sR, pq_I_sA, pq_J_sI, pq_J_sJ, pq_J_sR, pq_J_sA, pq_R_sI, pq_R_sJ, pq_R_sR, pq_R_sA, pq_N_sI, pq_N_sJ, pq_N_sR, pq_N_sA, pq_S_sI, pq_S_sJ, pq_S_sR, pq_S_sA, pz_rf_s, pz_cut_i, pz_cut_r, pz_cut_n, pz_cut_f, pz_cut_u, pz_cut_o, true_and, and_true, true_or, or_true, Option.toList_some, Option.toList_none, List.cons_append, List.nil_append, Nat.add_left_cancel_iff, Nat.left_eq_add, Nat.add_eq_left, Nat.reduceEqDiff, if_true, if_false, ite_true, ite_false, false_and, and_false, false_or, or_false, reduceIte, reduceCtorEq, and_self, z_4, z_5, z_7, z_8, z_10, z_16, z_20, z_64, not_false_eq_true, h0, ge, s0, s6, n1, tr, tc, c_isSetM tc T N M, q16]
        exact K h HC_refl R
      · by_cases qf : f = 0
        · rw [if_neg (fun z => z.elim q16 (fun y => y.1 qf))] at K
          subst qf
          simp only [enX9_client, uX9_client_0, uX9_client_1, uX9_client_4, uX9_client_5, uX9_client_6, uX9_client_9, uX9_client_9o, uX9_client_9f, uX9_client_10, uX9_client_13, uX9_client_16, uX9_client_19, uX9_client_22, uX9_client_23, uX9_client_26, uX9_client_26o, uX9_client_26f, uX9_client_27, uX9_client_30, uX9_client_33, uX9_client_36, uX9_client_37, uX9_client_38, uX9_client_38o, uX9_client_38f, uX9_client_39, uX9_client_42, uX9_client_43, uX9_client_46, uX9_client_47, uX9_client_50, uX9_client_50o, uX9_client_50f, uX9_client_51, uX9_client_54, uX9_client_55, uX9_client_55o, uX9_client_55f, uX9_client_56, uX9_client_59, uX9_client_62, uX9_client_63, pq_C_sI, pq_C_sJ, pq_C_sR, pq_C_sA, pq_L_sI, pq_L_sJ, pq_L_sR, pq_L_sA, pq_I_sI, pq_I_sJ, pq_I_sR, pq_I_sA, pq_J_sI, pq_J_sJ, pq_J_sR, pq_J_sA, pq_R_sI, pq_R_sJ, pq_R_sR, pq_R_sA, pq_N_sI, pq_N_sJ, pq_N_sR, pq_N_sA, pq_S_sI, pq_S_sJ, pq_S_sR, pq_S_sA, pz_rf_s, pz_cut_i, pz_cut_r, pz_cut_n, pz_cut_f, pz_cut_u, pz_cut_o, true_and, and_true, true_or, or_true, Option.toList_some, Option.toList_none, List.cons_append, List.nil_append, Nat.add_left_cancel_iff, Nat.left_eq_add, Nat.add_eq_left, Nat.reduceEqDiff, if_true, if_false, ite_true, ite_false, false_and, and_false, false_or, or_false, reduceIte, reduceCtorEq, and_self, z_4, z_5, z_7, z_8, z_10, z_16, z_20, z_64, not_false_eq_true, h0, ge, s0, s6, n1, tr, tc, c_isSetM tc T N M, q16, show ¬ (1 : Int32) = 0 by decide]
          generalize hZ : nwA A x 0 = Z at K
          refine c_begin R h4 N.1 N.2.2.2.1 (fun h1 H1 R1 => ?_)
          rw [hZ] at R1
          simp only [enX9_client, uX9_client_0, uX9_client_1, uX9_client_4, uX9_client_5, uX9_client_6, uX9_client_9, uX9_client_9o, uX9_client_9f, uX9_client_10, uX9_client_13, uX9_client_16, uX9_client_19, uX9_client_22, uX9_client_23, uX9_client_26, uX9_client_26o, uX9_client_26f, uX9_client_27, uX9_client_30, uX9_client_33, uX9_client_36, uX9_client_37, uX9_client_38, uX9_client_38o, uX9_client_38f, uX9_client_39, uX9_client_42, uX9_client_43, uX9_client_46, uX9_client_47, uX9_client_50, uX9_client_50o, uX9_client_50f, uX9_client_51, uX9_client_54, uX9_client_55, uX9_client_55o, uX9_client_55f, uX9_client_56, uX9_client_59, uX9_client_62, uX9_client_63, pq_C_sI, pq_C_sJ, pq_C_sR, pq_C_sA, pq_L_sI, pq_L_sJ, pq_L_sR, pq_L_sA, pq_I_sI, pq_I_sJ, pq_I_sR, pq_I_sA, pq_J_sI, pq_J_sJ, pq_J_sR, pq_J_sA, pq_R_sI, pq_R_sJ, pq_R_sR, pq_R_sA, pq_N_sI, pq_N_sJ, pq_N_sR, pq_N_sA, pq_S_sI, pq_S_sJ, pq_S_sR, pq_S_sA, pz_rf_s, pz_cut_i, pz_cut_r, pz_cut_n, pz_cut_f, pz_cut_u, pz_cut_o, true_and, and_true, true_or, or_true, Option.toList_some, Option.toList_none, List.cons_append, List.nil_append, Nat.add_left_cancel_iff, Nat.left_eq_add, Nat.add_eq_left, Nat.reduceEqDiff, if_true, if_false, ite_true, ite_false, false_and, and_false, false_or, or_false, reduceIte, reduceCtorEq, and_self, z_4, z_5, z_7, z_8, z_10, z_16, z_20, z_64, not_false_eq_true]
          exact K h1 H1 R1
        · by_cases q17 : sB A 0 17 = 0
          · rw [if_pos (Or.inr ⟨qf, q17⟩)] at K
            rw [if_pos q17] at V
            simp only [enX9_client, uX9_client_0, uX9_client_1, uX9_client_4, uX9_client_5, uX9_client_6, uX9_client_9, uX9_client_9o, uX9_client_9f, uX9_client_10, uX9_client_13, uX9_client_16, uX9_client_19, uX9_client_22, uX9_client_23, uX9_client_26, uX9_client_26o, uX9_client_26f, uX9_client_27, uX9_client_30, uX9_client_33, uX9_client_36, uX9_client_37, uX9_client_38, uX9_client_38o, uX9_client_38f, uX9_client_39, uX9_client_42, uX9_client_43, uX9_client_46, uX9_client_47, uX9_client_50, uX9_client_50o, uX9_client_50f, uX9_client_51, uX9_client_54, uX9_client_55, uX9_client_55o, uX9_client_55f, uX9_client_56, uX9_client_59, uX9_client_62, uX9_client_63, pq_C_sI, pq_C_sJ, pq_C_sR, pq_C_sA, pq_L_sI, pq_L_sJ, pq_L_sR, pq_L_sA, pq_I_sI, pq_I_sJ, pq_I_sR, pq_I_sA, pq_J_sI, pq_J_sJ, pq_J_sR, pq_J_sA, pq_R_sI, pq_R_sJ, pq_R_sR, pq_R_sA, pq_N_sI, pq_N_sJ, pq_N_sR, pq_N_sA, pq_S_sI, pq_S_sJ, pq_S_sR, pq_S_sA, pz_rf_s, pz_cut_i, pz_cut_r, pz_cut_n, pz_cut_f, pz_cut_u, pz_cut_o, true_and, and_true, true_or, or_true, Option.toList_some, Option.toList_none, List.cons_append, List.nil_append, Nat.add_left_cancel_iff, Nat.left_eq_add, Nat.add_eq_left, Nat.reduceEqDiff, if_true, if_false, ite_true, ite_false, false_and, and_false, false_or, or_false, reduceIte, reduceCtorEq, and_self, z_4, z_5, z_7, z_8, z_10, z_16, z_20, z_64, not_false_eq_true, h0, ge, s0, s3, s6, n1, tr, tc, c_isSetM tc T N M, q16, show ¬ (1 : Int32) = 0 by decide, qf, V1, c_size V, List.length_nil, show nI 0 = 0 from rfl, not_true_eq_false]
            exact K h HC_refl R
          · rw [if_neg (fun z => z.elim q16 (fun y => q17 y.2))] at K
            rw [if_neg q17] at V
            have l1 := hc1 q17
            have nz : ¬ nI (sV A 4).length = 0 := nI_ne0 (by omega) (by omega)
            simp only [enX9_client, uX9_client_0, uX9_client_1, uX9_client_4, uX9_client_5, uX9_client_6, uX9_client_9, uX9_client_9o, uX9_client_9f, uX9_client_10, uX9_client_13, uX9_client_16, uX9_client_19, uX9_client_22, uX9_client_23, uX9_client_26, uX9_client_26o, uX9_client_26f, uX9_client_27, uX9_client_30, uX9_client_33, uX9_client_36, uX9_client_37, uX9_client_38, uX9_client_38o, uX9_client_38f, uX9_client_39, uX9_client_42, uX9_client_43, uX9_client_46, uX9_client_47, uX9_client_50, uX9_client_50o, uX9_client_50f, uX9_client_51, uX9_client_54, uX9_client_55, uX9_client_55o, uX9_client_55f, uX9_client_56, uX9_client_59, uX9_client_62, uX9_client_63, pq_C_sI, pq_C_sJ, pq_C_sR, pq_C_sA, pq_L_sI, pq_L_sJ, pq_L_sR, pq_L_sA, pq_I_sI, pq_I_sJ, pq_I_sR, pq_I_sA, pq_J_sI, pq_J_sJ, pq_J_sR, pq_J_sA, pq_R_sI, pq_R_sJ, pq_R_sR, pq_R_sA, pq_N_sI, pq_N_sJ, pq_N_sR, pq_N_sA, pq_S_sI, pq_S_sJ, pq_S_sR, pq_S_sA, pz_rf_s, pz_cut_i, pz_cut_r, pz_cut_n, pz_cut_f, pz_cut_u, pz_cut_o, true_and, and_true, true_or, or_true, Option.toList_some, Option.toList_none, List.cons_append, List.nil_append, Nat.add_left_cancel_iff, Nat.left_eq_add, Nat.add_eq_left, Nat.reduceEqDiff, if_true, if_false, ite_true, ite_false, false_and, and_false, false_or, or_false, reduceIte, reduceCtorEq, and_self, z_4, z_5, z_7, z_8, z_10, z_16, z_20, z_64, not_false_eq_true, h0, ge, s0, s3, s6, n1, tr, tc, c_isSetM tc T N M, q16, show ¬ (1 : Int32) = 0 by decide, qf, V1, c_size V, nz]
            generalize hZ : nwA A x f = Z at K
            refine c_begin R h4 N.1 N.2.2.2.1 (fun h1 H1 R1 => ?_)
            have D1 := DS_of R1
            have n2 := R1.1.2.2.2.2.2.1.1
            have Y5 := R1.2.2.1.2.2.1.1
            simp only [enX9_client, uX9_client_0, uX9_client_1, uX9_client_4, uX9_client_5, uX9_client_6, uX9_client_9, uX9_client_9o, uX9_client_9f, uX9_client_10, uX9_client_13, uX9_client_16, uX9_client_19, uX9_client_22, uX9_client_23, uX9_client_26, uX9_client_26o, uX9_client_26f, uX9_client_27, uX9_client_30, uX9_client_33, uX9_client_36, uX9_client_37, uX9_client_38, uX9_client_38o, uX9_client_38f, uX9_client_39, uX9_client_42, uX9_client_43, uX9_client_46, uX9_client_47, uX9_client_50, uX9_client_50o, uX9_client_50f, uX9_client_51, uX9_client_54, uX9_client_55, uX9_client_55o, uX9_client_55f, uX9_client_56, uX9_client_59, uX9_client_62, uX9_client_63, pq_C_sI, pq_C_sJ, pq_C_sR, pq_C_sA, pq_L_sI, pq_L_sJ, pq_L_sR, pq_L_sA, pq_I_sI, pq_I_sJ, pq_I_sR, pq_I_sA, pq_J_sI, pq_J_sJ, pq_J_sR, pq_J_sA, pq_R_sI, pq_R_sJ, pq_R_sR, pq_R_sA, pq_N_sI, pq_N_sJ, pq_N_sR, pq_N_sA, pq_S_sI, pq_S_sJ, pq_S_sR, pq_S_sA, pz_rf_s, pz_cut_i, pz_cut_r, pz_cut_n, pz_cut_f, pz_cut_u, pz_cut_o, true_and, and_true, true_or, or_true, Option.toList_some, Option.toList_none, List.cons_append, List.nil_append, Nat.add_left_cancel_iff, Nat.left_eq_add, Nat.add_eq_left, Nat.reduceEqDiff, if_true, if_false, ite_true, ite_false, false_and, and_false, false_or, or_false, reduceIte, reduceCtorEq, and_self, z_4, z_5, z_7, z_8, z_10, z_16, z_20, z_64, not_false_eq_true, qf, D1.1, D1.2.2.2.1, D1.2.2.2.2.2.2.1, n2, Y5]
            refine c_fill h4 qf N hc q17 R1 (fun h2 H2 R2 => ?_)
            rw [hZ] at R2
            simp only [enX9_client, uX9_client_0, uX9_client_1, uX9_client_4, uX9_client_5, uX9_client_6, uX9_client_9, uX9_client_9o, uX9_client_9f, uX9_client_10, uX9_client_13, uX9_client_16, uX9_client_19, uX9_client_22, uX9_client_23, uX9_client_26, uX9_client_26o, uX9_client_26f, uX9_client_27, uX9_client_30, uX9_client_33, uX9_client_36, uX9_client_37, uX9_client_38, uX9_client_38o, uX9_client_38f, uX9_client_39, uX9_client_42, uX9_client_43, uX9_client_46, uX9_client_47, uX9_client_50, uX9_client_50o, uX9_client_50f, uX9_client_51, uX9_client_54, uX9_client_55, uX9_client_55o, uX9_client_55f, uX9_client_56, uX9_client_59, uX9_client_62, uX9_client_63, pq_C_sI, pq_C_sJ, pq_C_sR, pq_C_sA, pq_L_sI, pq_L_sJ, pq_L_sR, pq_L_sA, pq_I_sI, pq_I_sJ, pq_I_sR, pq_I_sA, pq_J_sI, pq_J_sJ, pq_J_sR, pq_J_sA, pq_R_sI, pq_R_sJ, pq_R_sR, pq_R_sA, pq_N_sI, pq_N_sJ, pq_N_sR, pq_N_sA, pq_S_sI, pq_S_sJ, pq_S_sR, pq_S_sA, pz_rf_s, pz_cut_i, pz_cut_r, pz_cut_n, pz_cut_f, pz_cut_u, pz_cut_o, true_and, and_true, true_or, or_true, Option.toList_some, Option.toList_none, List.cons_append, List.nil_append, Nat.add_left_cancel_iff, Nat.left_eq_add, Nat.add_eq_left, Nat.reduceEqDiff, if_true, if_false, ite_true, ite_false, false_and, and_false, false_or, or_false, reduceIte, reduceCtorEq, and_self, z_4, z_5, z_7, z_8, z_10, z_16, z_20, z_64, not_false_eq_true]
            exact K h2 (HC_trans H1 H2) R2
    · rw [if_neg (nI_nlt (show 4 ≤ x by omega) hx)] at K
      have le : (4 : Int32) ≤ nI x := nI_le (a := 4) (by omega) hx
      simp only [enX9_client, uX9_client_0, uX9_client_1, uX9_client_4, uX9_client_5, uX9_client_6, uX9_client_9, uX9_client_9o, uX9_client_9f, uX9_client_10, uX9_client_13, uX9_client_16, uX9_client_19, uX9_client_22, uX9_client_23, uX9_client_26, uX9_client_26o, uX9_client_26f, uX9_client_27, uX9_client_30, uX9_client_33, uX9_client_36, uX9_client_37, uX9_client_38, uX9_client_38o, uX9_client_38f, uX9_client_39, uX9_client_42, uX9_client_43, uX9_client_46, uX9_client_47, uX9_client_50, uX9_client_50o, uX9_client_50f, uX9_client_51, uX9_client_54, uX9_client_55, uX9_client_55o, uX9_client_55f, uX9_client_56, uX9_client_59, uX9_client_62, uX9_client_63, pq_C_sI, pq_C_sJ, pq_C_sR, pq_C_sA, pq_L_sI, pq_L_sJ, pq_L_sR, pq_L_sA, pq_I_sI, pq_I_sJ, pq_I_sR, pq_I_sA, pq_J_sI, pq_J_sJ, pq_J_sR, pq_J_sA, pq_R_sI, pq_R_sJ, pq_R_sR, pq_R_sA, pq_N_sI, pq_N_sJ, pq_N_sR, pq_N_sA, pq_S_sI, pq_S_sJ, pq_S_sR, pq_S_sA, pz_rf_s, pz_cut_i, pz_cut_r, pz_cut_n, pz_cut_f, pz_cut_u, pz_cut_o, true_and, and_true, true_or, or_true, Option.toList_some, Option.toList_none, List.cons_append, List.nil_append, Nat.add_left_cancel_iff, Nat.left_eq_add, Nat.add_eq_left, Nat.reduceEqDiff, if_true, if_false, ite_true, ite_false, false_and, and_false, false_or, or_false, reduceIte, reduceCtorEq, and_self, z_4, z_5, z_7, z_8, z_10, z_16, z_20, z_64, not_false_eq_true, h0, le]
      exact K h HC_refl R
end
