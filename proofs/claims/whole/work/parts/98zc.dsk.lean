/-! ===== constructors: the acting one, the desk ===== -/
/-- the cells from 1 on, below, are the same -/
def CZ (y : Nat) (h h' : PzH) : Prop := ∀ b, 1 ≤ b → b < y → pz_C h' b = pz_C h b ∧ pz_L h' b = pz_L h b ∧ pz_I h' b = pz_I h b ∧ pz_J h' b = pz_J h b ∧ pz_R h' b = pz_R h b
section
variable {d : Nat} {h h1 h2 : PzH} {Q : Option Value → PzH → Prop} {y : Nat}
theorem CZ_CX (f : CX y h h1) : CZ y h h1 := fun b _ hb => f.1 b hb
theorem CZ_trans (a : CZ y h h1) (b : CZ y h1 h2) : CZ y h h2 := fun x h0 hx => by
  obtain ⟨p1, p2, p3, p4, p5⟩ := a x h0 hx
  obtain ⟨q1, q2, q3, q4, q5⟩ := b x h0 hx
  exact ⟨q1.trans p1, q2.trans p2, q3.trans p3, q4.trans p4, q5.trans p5⟩
theorem CZ_sR {k : Nat} {v : Option Nat} : CZ y h (pz_sR h 0 k v) := fun b h0 _ => ⟨rfl, rfl, rfl, rfl, by funext j; rw [pq_R_sR, if_neg (fun z => by omega)]⟩
theorem CZ_sI {k : Nat} {v : Int32} : CZ y h (pz_sI h 0 k v) := fun b h0 _ => ⟨rfl, rfl, by funext j; rw [pq_I_sI, if_neg (fun z => by omega)], rfl, rfl⟩
theorem ROW_CZ {r a cap : Nat} {l : List Int8} (w : ROW h r a cap l) (f : CZ y h h1) (h0 : 1 ≤ r ∧ 1 ≤ a) (hr : r < y) (ha : a < y) : ROW h1 r a cap l := by
  obtain ⟨w1, w2, w3, w4, w5, w6, w7, w8, w9⟩ := w
  obtain ⟨p1, p2, p3, p4, p5⟩ := f r h0.1 hr
  obtain ⟨q1, q2, q3, q4, q5⟩ := f a h0.2 ha
  exact ⟨p1.trans w1, by rw [p5]; exact w2, q1.trans w3, q2.trans w4, w5, w6, by rw [p3]; exact w7, w8, by rw [q3]; exact w9⟩
theorem SH_CZ (S : SH h) (f : CZ y h h1) (hy : 10 ≤ y) : SH h1 := by
  obtain ⟨p1, p2, p3, p4, p5⟩ := f 7 (by omega) (by omega)
  obtain ⟨a1, a2, _⟩ := f 8 (by omega) (by omega)
  obtain ⟨b1, b2, _⟩ := f 9 (by omega) (by omega)
  unfold SH
  rw [p1, p5, a1, a2, b1, b2]
  exact S
theorem LOA_CZ (S : LOA h) (f : CZ y h h1) (hy : 15 ≤ y) : LOA h1 := by
  obtain ⟨p1, p2, p3, p4, p5⟩ := f 10 (by omega) (by omega)
  obtain ⟨a1, a2, a3, a4, a5⟩ := f 11 (by omega) (by omega)
  obtain ⟨b1, b2, _⟩ := f 14 (by omega) (by omega)
  unfold LOA
  rw [p1, p5, a1, a5, b1, b2]
  exact S
theorem ACT_CZ (S : ACT h) (f : CZ y h h1) (hy : 138 ≤ y) : ACT h1 := by
  obtain ⟨p1, p2, p3, p4, p5⟩ := f 132 (by omega) (by omega)
  obtain ⟨b1, b2, _⟩ := f 137 (by omega) (by omega)
  unfold ACT
  rw [p1, p5, b1, b2]
  exact S
theorem TF_CZ {t : Nat} (T : TF h t) (f : CZ y h h1) (ht : 1 ≤ t) (hy : t + 8 ≤ y) : TF h1 t := by
  obtain ⟨⟨t1, t2, t3, t4, t5, t6⟩, i, w1, w2⟩ := T
  obtain ⟨p1, p2, p3, p4, p5⟩ := f t (by omega) (by omega)
  obtain ⟨a1, a2, _⟩ := f (t + 1) (by omega) (by omega)
  obtain ⟨b1, b2, _⟩ := f (t + 2) (by omega) (by omega)
  obtain ⟨c1, c2, _⟩ := f (t + 3) (by omega) (by omega)
  refine ⟨?_, by rw [p3]; exact i, ROW_CZ w1 f (by omega) (by omega) (by omega), ROW_CZ w2 f (by omega) (by omega) (by omega)⟩
  unfold TOR
  rw [p1, p5, a1, a2, b1, b2, c1, c2]
  exact ⟨t1, t2, t3, t4, t5, t6⟩
theorem NB_CZ (B : NB h) (f : CZ y h h1) (hy : 36 ≤ y) : NB h1 := by
  obtain ⟨⟨n1, n2, n3, n4⟩, r, w, T⟩ := B
  obtain ⟨p1, p2, p3, p4, p5⟩ := f 23 (by omega) (by omega)
  obtain ⟨a1, a2, _⟩ := f 24 (by omega) (by omega)
  obtain ⟨b1, b2, _⟩ := f 25 (by omega) (by omega)
  refine ⟨?_, by rw [p5]; exact r, ROW_CZ w f (by omega) (by omega) (by omega), TF_CZ T f (by omega) (by omega)⟩
  unfold NET
  rw [p1, p5, a1, a2, b1, b2]
  exact ⟨n1, n2, n3, n4⟩
theorem KFs_CZ (B : KFs h 4) (f : CZ y h h1) (hy : 52 ≤ y) : KFs h1 4 := fun j hj => by
  obtain ⟨r, ⟨t1, t2, t3, t4, t5⟩, i, w1⟩ := B j hj
  obtain ⟨p1, p2, p3, p4, p5⟩ := f (36 + 4 * j) (by omega) (by omega)
  obtain ⟨c1, c2, _⟩ := f (36 + 4 * j + 3) (by omega) (by omega)
  refine ⟨by rw [(f 24 (by omega) (by omega)).2.2.2.2]; exact r, ?_, by rw [p3]; exact i, ROW_CZ w1 f (by omega) (by omega) (by omega)⟩
  unfold CLI
  rw [p1, p5, c1, c2]
  exact ⟨t1, t2, t3, t4, t5⟩
theorem LFs_CZ (B : LFs h 25) (f : CZ y h h1) (hy : 132 ≤ y) : LFs h1 25 := fun j hj h6 => by
  obtain ⟨r, ⟨t1, t2, t3, t4, t5⟩, i0, i1, i, jj, w1⟩ := B j hj h6
  have := lkA_in hj h6
  obtain ⟨p1, p2, p3, p4, p5⟩ := f (lkA j) (by omega) (by omega)
  obtain ⟨c1, c2, _⟩ := f (lkA j + 3) (by omega) (by omega)
  refine ⟨by rw [(f 25 (by omega) (by omega)).2.2.2.2]; exact r, ?_, by rw [p3]; exact i0, by rw [p3]; exact i1, by rw [p3]; exact i, by rw [p4]; exact jj, ROW_CZ w1 f (by omega) (by omega) (by omega)⟩
  unfold LNK
  rw [p1, p5, c1, c2]
  exact ⟨t1, t2, t3, t4, t5⟩
theorem i_act (hC : pz_C h 132 = 0) (hN : pz_N h = 133) (K : ∀ h', CX 132 h h' → pz_N h' = 138 → pz_S h' = pz_S h + 276 → ACT h' → ROW h' 133 134 104 [] → ROW h' 135 136 104 [] → Q none h') : pz_M (d + 2) mX0_init [.ref 132, .ref 23, .ref 7] h Q := by
  simp only [enX0_init, uX0_init_0, uX0_init_0o, uX0_init_0f, uX0_init_1, uX0_init_4, uX0_init_4o, uX0_init_4f, uX0_init_5, uX0_init_8, uX0_init_9, uX0_init_11, uX0_init_14, uX0_init_14o, uX0_init_17, uX0_init_17o, uX0_init_17f, uX0_init_18, uX0_init_21, uX0_init_22, uX0_init_24, uX0_init_27, uX0_init_27o, uX0_init_30, uX0_init_30o, uX0_init_30f, uX0_init_31, uX0_init_33, uX0_init_35, uX0_init_35o, uX0_init_38, uX0_init_38o, uX0_init_38f, uX0_init_39, uX0_init_39o, uX0_init_39f, uX0_init_40, uX0_init_40o, uX0_init_43, uX0_init_43o, uX0_init_43f, uX0_init_44, uX0_init_44o, uX0_init_44f, uX0_init_45, uX0_init_45o, uX0_init_48, pq_C_sI, pq_C_sJ, pq_C_sR, pq_C_sA, pq_L_sI, pq_L_sJ, pq_L_sR, pq_L_sA, pq_I_sI, pq_I_sJ, pq_I_sR, pq_I_sA, pq_J_sI, pq_J_sJ, pq_J_sR, pq_J_sA, pq_R_sI, pq_R_sJ, pq_R_sR, pq_R_sA, pq_N_sI, pq_N_sJ, pq_N_sR, pq_N_sA, pq_S_sI, pq_S_sJ, pq_S_sR, pq_S_sA, pz_rf_s, pz_cut_i, pz_cut_r, pz_cut_n, pz_cut_f, pz_cut_u, pz_cut_o, true_and, and_true, true_or, or_true, Option.toList_some, Option.toList_none, List.cons_append, List.nil_append, Nat.add_left_cancel_iff, Nat.left_eq_add, Nat.add_eq_left, Nat.reduceEqDiff, if_true, if_false, ite_true, ite_false, false_and, and_false, false_or, or_false, reduceIte, reduceCtorEq, and_self, z_4, z_5, z_7, z_8, z_10, z_16, z_20, z_64, not_false_eq_true, hN]
  refine n_row (cap := 104) rfl hN (by decide) (fun h1 F1 n1 s1 w1 => ?_)
  have c1 : pz_C h1 132 = 0 := by rw [(F1.1 132 (by decide)).1]; exact hC
  simp only [enX0_init, uX0_init_0, uX0_init_0o, uX0_init_0f, uX0_init_1, uX0_init_4, uX0_init_4o, uX0_init_4f, uX0_init_5, uX0_init_8, uX0_init_9, uX0_init_11, uX0_init_14, uX0_init_14o, uX0_init_17, uX0_init_17o, uX0_init_17f, uX0_init_18, uX0_init_21, uX0_init_22, uX0_init_24, uX0_init_27, uX0_init_27o, uX0_init_30, uX0_init_30o, uX0_init_30f, uX0_init_31, uX0_init_33, uX0_init_35, uX0_init_35o, uX0_init_38, uX0_init_38o, uX0_init_38f, uX0_init_39, uX0_init_39o, uX0_init_39f, uX0_init_40, uX0_init_40o, uX0_init_43, uX0_init_43o, uX0_init_43f, uX0_init_44, uX0_init_44o, uX0_init_44f, uX0_init_45, uX0_init_45o, uX0_init_48, pq_C_sI, pq_C_sJ, pq_C_sR, pq_C_sA, pq_L_sI, pq_L_sJ, pq_L_sR, pq_L_sA, pq_I_sI, pq_I_sJ, pq_I_sR, pq_I_sA, pq_J_sI, pq_J_sJ, pq_J_sR, pq_J_sA, pq_R_sI, pq_R_sJ, pq_R_sR, pq_R_sA, pq_N_sI, pq_N_sJ, pq_N_sR, pq_N_sA, pq_S_sI, pq_S_sJ, pq_S_sR, pq_S_sA, pz_rf_s, pz_cut_i, pz_cut_r, pz_cut_n, pz_cut_f, pz_cut_u, pz_cut_o, true_and, and_true, true_or, or_true, Option.toList_some, Option.toList_none, List.cons_append, List.nil_append, Nat.add_left_cancel_iff, Nat.left_eq_add, Nat.add_eq_left, Nat.reduceEqDiff, if_true, if_false, ite_true, ite_false, false_and, and_false, false_or, or_false, reduceIte, reduceCtorEq, and_self, z_4, z_5, z_7, z_8, z_10, z_16, z_20, z_64, not_false_eq_true, c1, n1]
  have n2 : pz_N (pz_sR h1 132 2 (some 133)) = 135 := n1
  have s2 : pz_S (pz_sR h1 132 2 (some 133)) = pz_S h + 2 + 104 := s1
  have w2 : ROW (pz_sR h1 132 2 (some 133)) 133 134 104 [] := ROW_sR w1 (by decide)
  have c2 : pz_C (pz_sR h1 132 2 (some 133)) 132 = 0 ∧ pz_R (pz_sR h1 132 2 (some 133)) 132 2 = some 133 := ⟨c1, by rw [pq_R_sR, if_pos ⟨rfl, rfl⟩]⟩
  have F2 : CX 132 h (pz_sR h1 132 2 (some 133)) := CX_trans (CX_le F1 (by decide)) (CX_sR (by decide))
  generalize pz_sR h1 132 2 (some 133) = h2 at *
  refine n_row (cap := 104) rfl n2 (by decide) (fun h3 F3 n3 s3 w3 => ?_)
  obtain ⟨p1, p2, p3, p4, p5⟩ := F3.1 132 (by decide)
  have c3 : pz_C h3 132 = 0 := by rw [p1]; exact c2.1
  have r3 : pz_R h3 132 2 = some 133 := by rw [p5]; exact c2.2
  have w4 := ROW_CX w2 F3 (by decide) (by decide)
  simp only [enX0_init, uX0_init_0, uX0_init_0o, uX0_init_0f, uX0_init_1, uX0_init_4, uX0_init_4o, uX0_init_4f, uX0_init_5, uX0_init_8, uX0_init_9, uX0_init_11, uX0_init_14, uX0_init_14o, uX0_init_17, uX0_init_17o, uX0_init_17f, uX0_init_18, uX0_init_21, uX0_init_22, uX0_init_24, uX0_init_27, uX0_init_27o, uX0_init_30, uX0_init_30o, uX0_init_30f, uX0_init_31, uX0_init_33, uX0_init_35, uX0_init_35o, uX0_init_38, uX0_init_38o, uX0_init_38f, uX0_init_39, uX0_init_39o, uX0_init_39f, uX0_init_40, uX0_init_40o, uX0_init_43, uX0_init_43o, uX0_init_43f, uX0_init_44, uX0_init_44o, uX0_init_44f, uX0_init_45, uX0_init_45o, uX0_init_48, pq_C_sI, pq_C_sJ, pq_C_sR, pq_C_sA, pq_L_sI, pq_L_sJ, pq_L_sR, pq_L_sA, pq_I_sI, pq_I_sJ, pq_I_sR, pq_I_sA, pq_J_sI, pq_J_sJ, pq_J_sR, pq_J_sA, pq_R_sI, pq_R_sJ, pq_R_sR, pq_R_sA, pq_N_sI, pq_N_sJ, pq_N_sR, pq_N_sA, pq_S_sI, pq_S_sJ, pq_S_sR, pq_S_sA, pz_rf_s, pz_cut_i, pz_cut_r, pz_cut_n, pz_cut_f, pz_cut_u, pz_cut_o, true_and, and_true, true_or, or_true, Option.toList_some, Option.toList_none, List.cons_append, List.nil_append, Nat.add_left_cancel_iff, Nat.left_eq_add, Nat.add_eq_left, Nat.reduceEqDiff, if_true, if_false, ite_true, ite_false, false_and, and_false, false_or, or_false, reduceIte, reduceCtorEq, and_self, z_4, z_5, z_7, z_8, z_10, z_16, z_20, z_64, not_false_eq_true, c3, n3, pq_C_new, pq_L_new, pq_I_new, pq_J_new, pq_R_new, pq_N_new, pq_S_new, Nat.add_assoc, Nat.reduceAdd, kz_4, kz_5, kz_8, kz_16, kz_20, kz_25, kz_64, kz_80, kz_6000]
  refine ⟨by decide, K _ (CX_trans F2 (CX_trans (CX_le F3 (by decide)) (by repeat (first | exact CX_refl | refine CX_trans ?_ (CX_sR (by omega)) | refine CX_trans ?_ (CX_sI (by omega)) | refine CX_trans ?_ (CX_sJ (by omega)) | refine CX_trans ?_ (CX_new (by first | omega | (simp only [pq_N_sR, pq_N_sI, pq_N_sJ, pq_N_new]; omega))))))) ?_ ?_ ?_ ?_ ?_⟩
  · simp only [pq_C_sI, pq_C_sJ, pq_C_sR, pq_C_sA, pq_L_sI, pq_L_sJ, pq_L_sR, pq_L_sA, pq_I_sI, pq_I_sJ, pq_I_sR, pq_I_sA, pq_J_sI, pq_J_sJ, pq_J_sR, pq_J_sA, pq_R_sI, pq_R_sJ, pq_R_sR, pq_R_sA, pq_N_sI, pq_N_sJ, pq_N_sR, pq_N_sA, pq_S_sI, pq_S_sJ, pq_S_sR, pq_S_sA, pz_rf_s, pz_cut_i, pz_cut_r, pz_cut_n, pz_cut_f, pz_cut_u, pz_cut_o, true_and, and_true, true_or, or_true, Option.toList_some, Option.toList_none, List.cons_append, List.nil_append, Nat.add_left_cancel_iff, Nat.left_eq_add, Nat.add_eq_left, Nat.reduceEqDiff, if_true, if_false, ite_true, ite_false, false_and, and_false, false_or, or_false, reduceIte, reduceCtorEq, and_self, pq_C_new, pq_L_new, pq_I_new, pq_J_new, pq_R_new, pq_N_new, pq_S_new, Nat.add_assoc, Nat.reduceAdd, kz_4, kz_5, kz_8, kz_16, kz_20, kz_25, kz_64, kz_80, kz_6000, n3]
  · simp only [pq_C_sI, pq_C_sJ, pq_C_sR, pq_C_sA, pq_L_sI, pq_L_sJ, pq_L_sR, pq_L_sA, pq_I_sI, pq_I_sJ, pq_I_sR, pq_I_sA, pq_J_sI, pq_J_sJ, pq_J_sR, pq_J_sA, pq_R_sI, pq_R_sJ, pq_R_sR, pq_R_sA, pq_N_sI, pq_N_sJ, pq_N_sR, pq_N_sA, pq_S_sI, pq_S_sJ, pq_S_sR, pq_S_sA, pz_rf_s, pz_cut_i, pz_cut_r, pz_cut_n, pz_cut_f, pz_cut_u, pz_cut_o, true_and, and_true, true_or, or_true, Option.toList_some, Option.toList_none, List.cons_append, List.nil_append, Nat.add_left_cancel_iff, Nat.left_eq_add, Nat.add_eq_left, Nat.reduceEqDiff, if_true, if_false, ite_true, ite_false, false_and, and_false, false_or, or_false, reduceIte, reduceCtorEq, and_self, pq_C_new, pq_L_new, pq_I_new, pq_J_new, pq_R_new, pq_N_new, pq_S_new, Nat.add_assoc, Nat.reduceAdd, kz_4, kz_5, kz_8, kz_16, kz_20, kz_25, kz_64, kz_80, kz_6000, s3, s2]
  · unfold ACT
    simp only [pq_C_sI, pq_C_sJ, pq_C_sR, pq_C_sA, pq_L_sI, pq_L_sJ, pq_L_sR, pq_L_sA, pq_I_sI, pq_I_sJ, pq_I_sR, pq_I_sA, pq_J_sI, pq_J_sJ, pq_J_sR, pq_J_sA, pq_R_sI, pq_R_sJ, pq_R_sR, pq_R_sA, pq_N_sI, pq_N_sJ, pq_N_sR, pq_N_sA, pq_S_sI, pq_S_sJ, pq_S_sR, pq_S_sA, pz_rf_s, pz_cut_i, pz_cut_r, pz_cut_n, pz_cut_f, pz_cut_u, pz_cut_o, true_and, and_true, true_or, or_true, Option.toList_some, Option.toList_none, List.cons_append, List.nil_append, Nat.add_left_cancel_iff, Nat.left_eq_add, Nat.add_eq_left, Nat.reduceEqDiff, if_true, if_false, ite_true, ite_false, false_and, and_false, false_or, or_false, reduceIte, reduceCtorEq, and_self, pq_C_new, pq_L_new, pq_I_new, pq_J_new, pq_R_new, pq_N_new, pq_S_new, Nat.add_assoc, Nat.reduceAdd, kz_4, kz_5, kz_8, kz_16, kz_20, kz_25, kz_64, kz_80, kz_6000, n3, c3, r3]
  · clear w1
    have w1 := w4
    repeat (first | exact w1 | refine ROW_sI ?_ (by omega) (by omega) | refine ROW_sR ?_ (by omega) | refine ROW_sJ ?_ | refine ROW_new ?_ (by first | omega | (simp only [pq_N_sR, pq_N_sI, pq_N_sJ, pq_N_new]; omega)) (by first | omega | (simp only [pq_N_sR, pq_N_sI, pq_N_sJ, pq_N_new]; omega)))
  · clear w1
    have w1 := w3
    repeat (first | exact w1 | refine ROW_sI ?_ (by omega) (by omega) | refine ROW_sR ?_ (by omega) | refine ROW_sJ ?_ | refine ROW_new ?_ (by first | omega | (simp only [pq_N_sR, pq_N_sI, pq_N_sJ, pq_N_new]; omega)) (by first | omega | (simp only [pq_N_sR, pq_N_sI, pq_N_sJ, pq_N_new]; omega)))
/-- a desk, new -/
def DKF (h : PzH) : Prop := DSKO h ∧ pz_I h 0 7 = -1 ∧ (ROW h 1 2 6000 [] ∧ ROW h 3 4 6000 [] ∧ ROW h 5 6 4096 []) ∧ SH h ∧ (LOA h ∧ pz_R h 10 2 = some 15 ∧ TF h 15) ∧ (NB h ∧ KFs h 4 ∧ LFs h 25) ∧ ACT h ∧ ROW h 133 134 104 [] ∧ ROW h 135 136 104 []
theorem r_nx {v : Option Nat} {k x : Nat} (f : CX x h1 h2) (hx : 0 < x) : (pz_C (pz_sR h2 0 k v) 0 = pz_C h1 0) ∧ (∀ j, j ≠ k → pz_R (pz_sR h2 0 k v) 0 j = pz_R h1 0 j) ∧ pz_R (pz_sR h2 0 k v) 0 k = v := by
  obtain ⟨p1, p2, p3, p4, p5⟩ := f.1 0 hx
  refine ⟨p1, fun j hj => ?_, by rw [pq_R_sR, if_pos ⟨rfl, rfl⟩]⟩
  rw [pq_R_sR, if_neg (fun z => hj z.2), p5]
end
