/-! ===== the reference: what is told ===== -/
def cnt (f : Nat → Prop) [DecidablePred f] : Nat → Nat
  | 0 => 0
  | n + 1 => cnt f n + (if f n then 1 else 0)
def TN (A : St) (l c p : Nat) : Prop := sB A 0 18 = nI l ∧ sB A 0 19 = nI c ∧ sB A 0 20 = nI p ∧ l ≤ 4096 ∧ c ≤ 1024 ∧ p ≤ 64 ∧ (1 ≤ p → 32 ≤ c ∧ (p - 1) * c < l ∧ l ≤ p * c)
def psz (l c p i : Nat) : Nat := if i + 1 < p then c else l - i * c
def nbl (l c p i : Nat) : Nat := (psz l c p i + 63) / 64
def bsz (l c p i k : Nat) : Nat := if psz l c p i - 64 * k < 64 then psz l c p i - 64 * k else 64
theorem TN_i {A : St} {l c p i : Nat} (T : TN A l c p) (h : i < p) : i * c + psz l c p i ≤ l ∧ 1 ≤ psz l c p i ∧ psz l c p i ≤ c ∧ i * c < l := by
  obtain ⟨t1, t2, t3, t4, t5, t6, t7⟩ := T
  obtain ⟨u1, u2, u3⟩ := t7 (by omega)
  have m1 : i * c ≤ (p - 1) * c := Nat.mul_le_mul_right c (by omega)
  unfold psz
  by_cases q : i + 1 < p
  · rw [if_pos q]
    have m2 : (i + 1) * c ≤ (p - 1) * c := Nat.mul_le_mul_right c (by omega)
    rw [Nat.add_mul, Nat.one_mul] at m2
    omega
  · rw [if_neg q]
    have e : i + 1 = p := by omega
    have m3 : p * c = i * c + c := by rw [← e, Nat.add_mul, Nat.one_mul]
    omega
def bz (v : Int32) : Int32 := if v = 0 then 0 else 1
def filA (A : St) (k w : Int32) : Int32 := if sB A 0 16 = 0 then -1 else match vI k (sF A).length with
  | some j => if w = 0 then nI ((sF A).getD j (0, 0)).1 else if w = 1 then nI (fsum ((sF A).take j)) else if w = 2 then nI ((sF A).getD j (0, 0)).2 else -1
  | none => -1
def hasA (A : St) : Int32 × St := if sB A 0 16 = 0 then (-1, A) else (20, stV A 1 (sV A 2))
def dskA (A : St) (a i : Int32) : Int32 := match vI a 4 with
  | some x => if sB A 18 x = 0 then -1 else (match vI i (sD A x).length with
    | some j => nI (ub ((sD A x).getD j 0))
    | none => -1)
  | none => -1
def tolA (A : St) (a b p : Int32) (n : Nat) : Int32 := match vI a 4, vI b 5, vI p n with
  | some x, some y, some j => if sB A 18 x = 0 ∨ sB A 23 (5 * x + y) = 0 then -1 else bz (sB A 30 (64 * (5 * x + y) + j))
  | _, _, _ => -1
section
variable {d : Nat} {h : PzH} {Q : Option Value → PzH → Prop} {mo : Nat} {g : Tb} {A : St} {l c p : Nat}
theorem g_pieceSize (H : MO h mo) (F : FLE g (sB A)) (T : TN A l c p) {i : Nat} (hi : i < p) : pz_M (d + 1) mX10_pieceSize [.ref mo, .int (nI i)] (mh h mo g) Q ↔ Q (some (.int (nI (psz l c p i)))) (mh h mo g) := by
  obtain ⟨u1, u2, u3, u4⟩ := TN_i T hi
  obtain ⟨t1, t2, t3, t4, t5, t6, t7⟩ := T
  simp only [enX10_pieceSize, uX10_pieceSize_0, uX10_pieceSize_1, uX10_pieceSize_2, uX10_pieceSize_3, uX10_pieceSize_3o, uX10_pieceSize_3f, uX10_pieceSize_4, uX10_pieceSize_7, uX10_pieceSize_10, uX10_pieceSize_10o, uX10_pieceSize_10f, uX10_pieceSize_11, uX10_pieceSize_14, uX10_pieceSize_17, uX10_pieceSize_17o, uX10_pieceSize_17f, uX10_pieceSize_18, uX10_pieceSize_21, uX10_pieceSize_22, uX10_pieceSize_22o, uX10_pieceSize_22f, uX10_pieceSize_23, uX10_pieceSize_26, uX10_pieceSize_27, uX10_pieceSize_28, mo_C H, mo_R_there H, mo_C_there H, mo_L_there H, pq_C_sI, pq_C_sJ, pq_C_sR, pq_C_sA, pq_L_sI, pq_L_sJ, pq_L_sR, pq_L_sA, pq_I_sI, pq_I_sJ, pq_I_sR, pq_I_sA, pq_J_sI, pq_J_sJ, pq_J_sR, pq_J_sA, pq_R_sI, pq_R_sJ, pq_R_sR, pq_R_sA, pq_N_sI, pq_N_sJ, pq_N_sR, pq_N_sA, pq_S_sI, pq_S_sJ, pq_S_sR, pq_S_sA, pz_rf_s, pz_cut_i, pz_cut_r, pz_cut_n, pz_cut_f, pz_cut_u, pz_cut_o, true_and, and_true, true_or, or_true, Option.toList_some, Option.toList_none, List.cons_append, List.nil_append, Nat.add_left_cancel_iff, Nat.left_eq_add, Nat.add_eq_left, Nat.reduceEqDiff, if_true, if_false, ite_true, ite_false, false_and, and_false, false_or, or_false, reduceIte, reduceCtorEq, and_self, mh_C, mh_L, mh_R, mh_J, mh_I0, mh_I, mh_Ir, mh_sI0, mh_sI, mh_sA, gu_11, gu_22, gu_r, gu_21s, gu_21c, gu_22s, gu_11s, gu_11c, gu_22c, Nat.reduceLeDiff, Nat.reduceLT, ne_eq, not_false_eq_true, not_true_eq_false, Nat.reduceEqDiff, Nat.lt_irrefl, eq_self, z_4, z_5, z_7, z_8, z_10, z_16, z_20, z_64, (F 0 18 (Or.inr ⟨rfl, by decide⟩)).trans t1, (F 0 19 (Or.inr ⟨rfl, by decide⟩)).trans t2, (F 0 20 (Or.inr ⟨rfl, by decide⟩)).trans t3, nI_1, pk_mul]
  unfold psz
  by_cases q : i + 1 < p
  · rw [if_neg (nI_ge q (by omega)), if_pos q]
  · rw [if_pos (nI_le (by omega) (by omega)), if_neg q, pk_sub (by omega)]
theorem g_blocks (H : MO h mo) (F : FLE g (sB A)) (T : TN A l c p) {i : Nat} (hi : i < p) : pz_M (d + 2) mX10_blocks [.ref mo, .int (nI i)] (mh h mo g) Q ↔ Q (some (.int (nI (nbl l c p i)))) (mh h mo g) := by
  obtain ⟨u1, u2, u3, u4⟩ := TN_i T hi
  have t5 := T.2.2.2.2.1
  simp only [enX10_blocks, uX10_blocks_0, uX10_blocks_0o, uX10_blocks_0f, uX10_blocks_1, uX10_blocks_2, uX10_blocks_5, uX10_blocks_7, uX10_blocks_8, uX10_blocks_9, uX10_blocks_10, uX10_blocks_12, uX10_blocks_13, mo_C H, mo_R_there H, mo_C_there H, mo_L_there H, pq_C_sI, pq_C_sJ, pq_C_sR, pq_C_sA, pq_L_sI, pq_L_sJ, pq_L_sR, pq_L_sA, pq_I_sI, pq_I_sJ, pq_I_sR, pq_I_sA, pq_J_sI, pq_J_sJ, pq_J_sR, pq_J_sA, pq_R_sI, pq_R_sJ, pq_R_sR, pq_R_sA, pq_N_sI, pq_N_sJ, pq_N_sR, pq_N_sA, pq_S_sI, pq_S_sJ, pq_S_sR, pq_S_sA, pz_rf_s, pz_cut_i, pz_cut_r, pz_cut_n, pz_cut_f, pz_cut_u, pz_cut_o, true_and, and_true, true_or, or_true, Option.toList_some, Option.toList_none, List.cons_append, List.nil_append, Nat.add_left_cancel_iff, Nat.left_eq_add, Nat.add_eq_left, Nat.reduceEqDiff, if_true, if_false, ite_true, ite_false, false_and, and_false, false_or, or_false, reduceIte, reduceCtorEq, and_self, mh_C, mh_L, mh_R, mh_J, mh_I0, mh_I, mh_Ir, mh_sI0, mh_sI, mh_sA, gu_11, gu_22, gu_r, gu_21s, gu_21c, gu_22s, gu_11s, gu_11c, gu_22c, Nat.reduceLeDiff, Nat.reduceLT, ne_eq, not_false_eq_true, not_true_eq_false, Nat.reduceEqDiff, Nat.lt_irrefl, eq_self, z_4, z_5, z_7, z_8, z_10, z_16, z_20, z_64, g_pieceSize H F T hi]
  unfold nbl
  simp only [show (64 : Int32) = nI 64 from rfl, nI_add]
  rw [show psz l c p i + 64 = psz l c p i + 63 + 1 from rfl, nI_pred, pk_div (by omega) (by decide) (by decide)]
theorem g_blockSize (H : MO h mo) (F : FLE g (sB A)) (T : TN A l c p) {i k : Nat} (hi : i < p) (hk : 64 * k ≤ psz l c p i) : pz_M (d + 2) mX10_blockSize [.ref mo, .int (nI i), .int (nI k)] (mh h mo g) Q ↔ Q (some (.int (nI (bsz l c p i k)))) (mh h mo g) := by
  obtain ⟨u1, u2, u3, u4⟩ := TN_i T hi
  have t5 := T.2.2.2.2.1
  simp only [enX10_blockSize, uX10_blockSize_0, uX10_blockSize_0o, uX10_blockSize_0f, uX10_blockSize_1, uX10_blockSize_2, uX10_blockSize_5, uX10_blockSize_7, uX10_blockSize_8, uX10_blockSize_9, uX10_blockSize_10, uX10_blockSize_11, uX10_blockSize_12, uX10_blockSize_14, uX10_blockSize_17, uX10_blockSize_18, uX10_blockSize_21, uX10_blockSize_23, mo_C H, mo_R_there H, mo_C_there H, mo_L_there H, pq_C_sI, pq_C_sJ, pq_C_sR, pq_C_sA, pq_L_sI, pq_L_sJ, pq_L_sR, pq_L_sA, pq_I_sI, pq_I_sJ, pq_I_sR, pq_I_sA, pq_J_sI, pq_J_sJ, pq_J_sR, pq_J_sA, pq_R_sI, pq_R_sJ, pq_R_sR, pq_R_sA, pq_N_sI, pq_N_sJ, pq_N_sR, pq_N_sA, pq_S_sI, pq_S_sJ, pq_S_sR, pq_S_sA, pz_rf_s, pz_cut_i, pz_cut_r, pz_cut_n, pz_cut_f, pz_cut_u, pz_cut_o, true_and, and_true, true_or, or_true, Option.toList_some, Option.toList_none, List.cons_append, List.nil_append, Nat.add_left_cancel_iff, Nat.left_eq_add, Nat.add_eq_left, Nat.reduceEqDiff, if_true, if_false, ite_true, ite_false, false_and, and_false, false_or, or_false, reduceIte, reduceCtorEq, and_self, mh_C, mh_L, mh_R, mh_J, mh_I0, mh_I, mh_Ir, mh_sI0, mh_sI, mh_sA, gu_11, gu_22, gu_r, gu_21s, gu_21c, gu_22s, gu_11s, gu_11c, gu_22c, Nat.reduceLeDiff, Nat.reduceLT, ne_eq, not_false_eq_true, not_true_eq_false, Nat.reduceEqDiff, Nat.lt_irrefl, eq_self, z_4, z_5, z_7, z_8, z_10, z_16, z_20, z_64, g_pieceSize H F T hi]
  unfold bsz
  simp only [show (64 : Int32) = nI 64 from rfl, pk_mul, pk_sub hk]
  by_cases q : psz l c p i - 64 * k < 64
  · rw [if_neg (nI_ge q (by decide)), if_pos q]
  · rw [if_pos (nI_le (by omega) (by omega)), if_neg q]
theorem r_place (H : MO h mo) (R : RM g A []) (K : Q (some (.int (sB A 0 27))) (mh h mo g)) : pz_M (d + 1) mX10_place [.ref mo] (mh h mo g) Q := by
  rw [g_place H, RM_fl R 0 27 (Or.inr ⟨rfl, by decide⟩)]
  exact K
def torA (A : St) (w : Int32) : Int32 := if sB A 0 16 = 0 then -1 else if w = 0 then sB A 0 18 else if w = 1 then sB A 0 19 else if w = 2 then sB A 0 20 else if w = 3 then sB A 0 21 else -1
theorem r_torrent (H : MO h mo) (R : RM g A []) {w : Int32} (K : Q (some (.int (torA A w))) (mh h mo g)) : pz_M (d + 1) mX10_torrent [.ref mo, .int w] (mh h mo g) Q := by
  have F := RM_fl R
  rw [g_torrent H, F 0 16 (Or.inr ⟨rfl, by decide⟩), F 0 18 (Or.inr ⟨rfl, by decide⟩), F 0 19 (Or.inr ⟨rfl, by decide⟩), F 0 20 (Or.inr ⟨rfl, by decide⟩), F 0 21 (Or.inr ⟨rfl, by decide⟩)]
  exact K
theorem r_hash (H : MO h mo) (R : RM g A []) (hn : sB A 0 16 ≠ 0 → (sV A 2).length = 20) (K : ∀ g', RM g' (hasA A).2 [] → Q (some (.int (hasA A).1)) (mh h mo g')) : pz_M (d + 1) mX10_hash [.ref mo] (mh h mo g) Q := by
  have F := RM_fl R
  simp only [enX10_hash, uX10_hash_0, uX10_hash_0o, uX10_hash_0f, uX10_hash_1, uX10_hash_4, uX10_hash_7, uX10_hash_8, uX10_hash_9, uX10_hash_10, uX10_hash_12, uX10_hash_14, uX10_hash_17, uX10_hash_17o, uX10_hash_17f, uX10_hash_18, uX10_hash_21, uX10_hash_22, uX10_hash_22o, uX10_hash_22f, uX10_hash_23, uX10_hash_26, uX10_hash_27, uX10_hash_28, uX10_hash_29, uX10_hash_32, uX10_hash_35, uX10_hash_35o, uX10_hash_35f, uX10_hash_36, uX10_hash_38, uX10_hash_41, uX10_hash_43, mo_C H, mo_R_there H, mo_C_there H, mo_L_there H, pq_C_sI, pq_C_sJ, pq_C_sR, pq_C_sA, pq_L_sI, pq_L_sJ, pq_L_sR, pq_L_sA, pq_I_sI, pq_I_sJ, pq_I_sR, pq_I_sA, pq_J_sI, pq_J_sJ, pq_J_sR, pq_J_sA, pq_R_sI, pq_R_sJ, pq_R_sR, pq_R_sA, pq_N_sI, pq_N_sJ, pq_N_sR, pq_N_sA, pq_S_sI, pq_S_sJ, pq_S_sR, pq_S_sA, pz_rf_s, pz_cut_i, pz_cut_r, pz_cut_n, pz_cut_f, pz_cut_u, pz_cut_o, true_and, and_true, true_or, or_true, Option.toList_some, Option.toList_none, List.cons_append, List.nil_append, Nat.add_left_cancel_iff, Nat.left_eq_add, Nat.add_eq_left, Nat.reduceEqDiff, if_true, if_false, ite_true, ite_false, false_and, and_false, false_or, or_false, reduceIte, reduceCtorEq, and_self, mh_C, mh_L, mh_R, mh_J, mh_I0, mh_I, mh_Ir, mh_sI0, mh_sI, mh_sA, gu_11, gu_22, gu_r, gu_21s, gu_21c, gu_22s, gu_11s, gu_11c, gu_22c, Nat.reduceLeDiff, Nat.reduceLT, ne_eq, not_false_eq_true, not_true_eq_false, Nat.reduceEqDiff, Nat.lt_irrefl, eq_self, z_4, z_5, z_7, z_8, z_10, z_16, z_20, z_64, F 0 16 (Or.inr ⟨rfl, by decide⟩)]
  unfold hasA at K
  by_cases q : sB A 0 16 = 0
  · rw [if_pos q] at K
    rw [if_neg (fun z => z q)]
    exact K _ R
  · rw [if_neg q] at K
    rw [if_pos q]
    have hn' := hn q
    have h14 := R.1.1.2.2.2.1
    have key := wp_for (d := d) (m := mX10_hash) (pc := 11) (Q := Q) (fun i => mh h mo (pz_u1 g 2 (put (g 2) 0 i (g 14)))) (fun i => [.ref mo, .int (nI i)]) 20 (fun i hi => by
      rw [uX10_hash_11]
      simp only [enX10_hash, uX10_hash_0, uX10_hash_0o, uX10_hash_0f, uX10_hash_1, uX10_hash_4, uX10_hash_7, uX10_hash_8, uX10_hash_9, uX10_hash_10, uX10_hash_12, uX10_hash_14, uX10_hash_17, uX10_hash_17o, uX10_hash_17f, uX10_hash_18, uX10_hash_21, uX10_hash_22, uX10_hash_22o, uX10_hash_22f, uX10_hash_23, uX10_hash_26, uX10_hash_27, uX10_hash_28, uX10_hash_29, uX10_hash_32, uX10_hash_36, uX10_hash_38, uX10_hash_41, uX10_hash_43, mo_C H, mo_R_name H, mo_C_name H, mo_L_name H, mo_R_out H, mo_C_out H, mo_L_out H, pq_C_sI, pq_C_sJ, pq_C_sR, pq_C_sA, pq_L_sI, pq_L_sJ, pq_L_sR, pq_L_sA, pq_I_sI, pq_I_sJ, pq_I_sR, pq_I_sA, pq_J_sI, pq_J_sJ, pq_J_sR, pq_J_sA, pq_R_sI, pq_R_sJ, pq_R_sR, pq_R_sA, pq_N_sI, pq_N_sJ, pq_N_sR, pq_N_sA, pq_S_sI, pq_S_sJ, pq_S_sR, pq_S_sA, pz_rf_s, pz_cut_i, pz_cut_r, pz_cut_n, pz_cut_f, pz_cut_u, pz_cut_o, true_and, and_true, true_or, or_true, Option.toList_some, Option.toList_none, List.cons_append, List.nil_append, Nat.add_left_cancel_iff, Nat.left_eq_add, Nat.add_eq_left, Nat.reduceEqDiff, if_true, if_false, ite_true, ite_false, false_and, and_false, false_or, or_false, reduceIte, reduceCtorEq, and_self, mh_C, mh_L, mh_R, mh_J, mh_I0, mh_I, mh_Ir, mh_sI0, mh_sI, mh_sA, gu_11, gu_22, gu_r, gu_21s, gu_21c, gu_22s, gu_11s, gu_11c, gu_22c, Nat.reduceLeDiff, Nat.reduceLT, ne_eq, not_false_eq_true, not_true_eq_false, Nat.reduceEqDiff, Nat.lt_irrefl, eq_self, z_4, z_5, z_7, z_8, z_10, z_16, z_20, z_64]
      rw [if_neg (show ¬ (20 : Int32) ≤ nI i from nI_ge hi (by decide))]
      have e := h14 i (by omega)
      rw [Nat.zero_add] at e
      simp (disch := omega) only [nI_clamp, pz_in_nI, true_and, nI_1, e, vb8]
      have e2 := put_s (f := g 2) (a := 0) (m := i) (u := g 14)
      rw [Nat.zero_add, e] at e2
      rw [← e2])
    refine (Iff.trans (show _ ↔ _ from ?_) key).mpr ?_
    · rw [put_0, gu_1e]
      exact Iff.rfl
    · rw [uX10_hash_11]
      simp only [enX10_hash, uX10_hash_0, uX10_hash_0o, uX10_hash_0f, uX10_hash_1, uX10_hash_4, uX10_hash_7, uX10_hash_8, uX10_hash_9, uX10_hash_10, uX10_hash_12, uX10_hash_14, uX10_hash_17, uX10_hash_17o, uX10_hash_17f, uX10_hash_18, uX10_hash_21, uX10_hash_22, uX10_hash_22o, uX10_hash_22f, uX10_hash_23, uX10_hash_26, uX10_hash_27, uX10_hash_28, uX10_hash_29, uX10_hash_32, uX10_hash_35, uX10_hash_35o, uX10_hash_35f, uX10_hash_36, uX10_hash_38, uX10_hash_41, uX10_hash_43, mo_C H, mo_R_name H, mo_C_name H, mo_L_name H, mo_R_out H, mo_C_out H, mo_L_out H, pq_C_sI, pq_C_sJ, pq_C_sR, pq_C_sA, pq_L_sI, pq_L_sJ, pq_L_sR, pq_L_sA, pq_I_sI, pq_I_sJ, pq_I_sR, pq_I_sA, pq_J_sI, pq_J_sJ, pq_J_sR, pq_J_sA, pq_R_sI, pq_R_sJ, pq_R_sR, pq_R_sA, pq_N_sI, pq_N_sJ, pq_N_sR, pq_N_sA, pq_S_sI, pq_S_sJ, pq_S_sR, pq_S_sA, pz_rf_s, pz_cut_i, pz_cut_r, pz_cut_n, pz_cut_f, pz_cut_u, pz_cut_o, true_and, and_true, true_or, or_true, Option.toList_some, Option.toList_none, List.cons_append, List.nil_append, Nat.add_left_cancel_iff, Nat.left_eq_add, Nat.add_eq_left, Nat.reduceEqDiff, if_true, if_false, ite_true, ite_false, false_and, and_false, false_or, or_false, reduceIte, reduceCtorEq, and_self, mh_C, mh_L, mh_R, mh_J, mh_I0, mh_I, mh_Ir, mh_sI0, mh_sI, mh_sA, gu_11, gu_22, gu_r, gu_21s, gu_21c, gu_22s, gu_11s, gu_11c, gu_22c, Nat.reduceLeDiff, Nat.reduceLT, ne_eq, not_false_eq_true, not_true_eq_false, Nat.reduceEqDiff, Nat.lt_irrefl, eq_self, z_4, z_5, z_7, z_8, z_10, z_16, z_20, z_64]
      rw [if_pos (show (20 : Int32) ≤ nI 20 by decide)]
      refine K _ ?_
      have := RM_out (t := put (g 2) 0 20 (g 14)) (l := sV A 2) R (fun i hi => by rw [put_in (by omega)]; have := h14 i hi; rwa [Nat.zero_add] at this)
      rw [hn'] at this
      exact this
theorem r_disk (H : MO h mo) (R : RM g A []) (T : TN A l c p) (hD : ∀ a, a < 4 → sB A 18 a ≠ 0 → (sD A a).length = l) {a i : Int32} (K : Q (some (.int (dskA A a i))) (mh h mo g)) : pz_M (d + 2) mX10_disk [.ref mo, .int a, .int i] (mh h mo g) Q := by
  have F := RM_fl R
  obtain ⟨t1, t2, t3, t4, t5, t6, t7⟩ := T
  simp only [enX10_disk, uX10_disk_0, uX10_disk_1, uX10_disk_2, uX10_disk_5, uX10_disk_8, uX10_disk_8o, uX10_disk_8f, uX10_disk_9, uX10_disk_12, uX10_disk_13, uX10_disk_14, uX10_disk_17, uX10_disk_18, uX10_disk_18o, uX10_disk_18f, uX10_disk_19, uX10_disk_22, uX10_disk_25, uX10_disk_28, uX10_disk_29, uX10_disk_32, uX10_disk_32o, uX10_disk_32f, uX10_disk_33, uX10_disk_36, uX10_disk_39, uX10_disk_40, uX10_disk_41, uX10_disk_42, uX10_disk_43, uX10_disk_44, uX10_disk_47, uX10_disk_48, mo_C H, mo_R_there H, mo_C_there H, mo_L_there H, mo_R_disk H, mo_C_disk H, mo_L_disk H, pq_C_sI, pq_C_sJ, pq_C_sR, pq_C_sA, pq_L_sI, pq_L_sJ, pq_L_sR, pq_L_sA, pq_I_sI, pq_I_sJ, pq_I_sR, pq_I_sA, pq_J_sI, pq_J_sJ, pq_J_sR, pq_J_sA, pq_R_sI, pq_R_sJ, pq_R_sR, pq_R_sA, pq_N_sI, pq_N_sJ, pq_N_sR, pq_N_sA, pq_S_sI, pq_S_sJ, pq_S_sR, pq_S_sA, pz_rf_s, pz_cut_i, pz_cut_r, pz_cut_n, pz_cut_f, pz_cut_u, pz_cut_o, true_and, and_true, true_or, or_true, Option.toList_some, Option.toList_none, List.cons_append, List.nil_append, Nat.add_left_cancel_iff, Nat.left_eq_add, Nat.add_eq_left, Nat.reduceEqDiff, if_true, if_false, ite_true, ite_false, false_and, and_false, false_or, or_false, reduceIte, reduceCtorEq, and_self, mh_C, mh_L, mh_R, mh_J, mh_I0, mh_I, mh_Ir, mh_sI0, mh_sI, mh_sA, gu_11, gu_22, gu_r, gu_21s, gu_21c, gu_22s, gu_11s, gu_11c, gu_22c, Nat.reduceLeDiff, Nat.reduceLT, ne_eq, not_false_eq_true, not_true_eq_false, Nat.reduceEqDiff, Nat.lt_irrefl, eq_self, z_4, z_5, z_7, z_8, z_10, z_16, z_20, z_64, g_isIn, (F 0 18 (Or.inr ⟨rfl, by decide⟩)).trans t1, show (4 : Int32) = nI 4 from rfl, vI_is, FLE_row F (show 18 ∈ FLr by decide)]
  unfold dskA at K
  cases e : vI a 4 with
  | none =>
    rw [e] at K
    simp only [Option.isSome_none, Bool.false_eq_true, if_false, if_true]
    exact K
  | some x =>
    rw [e] at K
    obtain ⟨x1, rfl⟩ := vI_some (by decide) e
    simp (disch := omega) only [Option.isSome_some, if_true, show ¬ (1 : Int32) = 0 by decide, if_false, nI_clamp, pz_in_nI, true_and]
    dsimp only at K
    by_cases q : sB A 18 x = 0
    · rw [if_pos q] at K ⊢
      exact K
    · rw [if_neg q] at K ⊢
      have hl := hD x x1 q
      rw [hl] at K
      cases ei : vI i l with
      | none =>
        rw [ei] at K
        simp only [Option.isSome_none, Bool.false_eq_true, if_false, if_true, not_true_eq_false]
        exact K
      | some j =>
        rw [ei] at K
        obtain ⟨j1, rfl⟩ := vI_some (by omega) ei
        simp (disch := omega) only [Option.isSome_some, if_true, show ¬ (1 : Int32) = 0 by decide, not_false_eq_true, show (4096 : Int32) = nI 4096 from rfl, pk_mul, nI_add, nI_clamp, pz_in_nI, true_and]
        rw [R.1.1.2.2.2.2.2.2.1 x x1 j (by omega), ub_and]
        exact K
theorem r_told (H : MO h mo) (R : RM g A []) (T : TN A l c p) {a b v : Int32} (K : Q (some (.int (tolA A a b v p))) (mh h mo g)) : pz_M (d + 3) mX10_told [.ref mo, .int a, .int b, .int v] (mh h mo g) Q := by
  have F := RM_fl R
  obtain ⟨t1, t2, t3, t4, t5, t6, t7⟩ := T
  simp only [enX10_told, uX10_told_0, uX10_told_1, uX10_told_2, uX10_told_5, uX10_told_8, uX10_told_8o, uX10_told_8f, uX10_told_9, uX10_told_12, uX10_told_13, uX10_told_14, uX10_told_17, uX10_told_17o, uX10_told_17f, uX10_told_18, uX10_told_19, uX10_told_20, uX10_told_23, uX10_told_26, uX10_told_27, uX10_told_27o, uX10_told_27f, uX10_told_28, uX10_told_31, uX10_told_34, uX10_told_37, uX10_told_38, uX10_told_39, uX10_told_39o, uX10_told_39f, uX10_told_40, uX10_told_43, uX10_told_45, uX10_told_46, uX10_told_47, uX10_told_48, uX10_told_49, uX10_told_50, uX10_told_51, uX10_told_52, uX10_told_53, uX10_told_54, uX10_told_57, uX10_told_58, uX10_told_61, uX10_told_62, mo_C H, mo_R_there H, mo_C_there H, mo_L_there H, mo_R_theirs H, mo_C_theirs H, mo_L_theirs H, pq_C_sI, pq_C_sJ, pq_C_sR, pq_C_sA, pq_L_sI, pq_L_sJ, pq_L_sR, pq_L_sA, pq_I_sI, pq_I_sJ, pq_I_sR, pq_I_sA, pq_J_sI, pq_J_sJ, pq_J_sR, pq_J_sA, pq_R_sI, pq_R_sJ, pq_R_sR, pq_R_sA, pq_N_sI, pq_N_sJ, pq_N_sR, pq_N_sA, pq_S_sI, pq_S_sJ, pq_S_sR, pq_S_sA, pz_rf_s, pz_cut_i, pz_cut_r, pz_cut_n, pz_cut_f, pz_cut_u, pz_cut_o, true_and, and_true, true_or, or_true, Option.toList_some, Option.toList_none, List.cons_append, List.nil_append, Nat.add_left_cancel_iff, Nat.left_eq_add, Nat.add_eq_left, Nat.reduceEqDiff, if_true, if_false, ite_true, ite_false, false_and, and_false, false_or, or_false, reduceIte, reduceCtorEq, and_self, mh_C, mh_L, mh_R, mh_J, mh_I0, mh_I, mh_Ir, mh_sI0, mh_sI, mh_sA, gu_11, gu_22, gu_r, gu_21s, gu_21c, gu_22s, gu_11s, gu_11c, gu_22c, Nat.reduceLeDiff, Nat.reduceLT, ne_eq, not_false_eq_true, not_true_eq_false, Nat.reduceEqDiff, Nat.lt_irrefl, eq_self, z_4, z_5, z_7, z_8, z_10, z_16, z_20, z_64, g_isIn, g_areJoined H, FLE_aj F, (F 0 20 (Or.inr ⟨rfl, by decide⟩)).trans t3, show (4 : Int32) = nI 4 from rfl, vI_is, FLE_row F (show 18 ∈ FLr by decide), FLE_row F (show 30 ∈ FLr by decide)]
  unfold tolA at K
  cases e : vI a 4 with
  | none =>
    rw [e] at K
    simp only [Option.isSome_none, Bool.false_eq_true, if_false, if_true]
    exact K
  | some x =>
    rw [e] at K
    obtain ⟨x1, rfl⟩ := vI_some (by decide) e
    simp (disch := omega) only [Option.isSome_some, if_true, show ¬ (1 : Int32) = 0 by decide, if_false, nI_clamp, pz_in_nI, true_and]
    cases eb : vI b 5 with
    | none =>
      rw [eb] at K
      have : ajB (sB A) (nI x) b = none := by unfold ajB; rw [eb]; split <;> simp_all
      simp only [this, Option.isSome_none, Bool.false_eq_true, if_false, if_true]
      split <;> exact K
    | some y =>
      rw [eb] at K
      obtain ⟨y1, rfl⟩ := vI_some (by decide) eb
      rw [ajB_no (by omega) y1]
      cases ep : vI v p with
      | none =>
        rw [ep] at K
        simp only [Option.isSome_none, Bool.false_eq_true, if_false, if_true, not_true_eq_false]
        split
        · exact K
        · split <;> exact K
      | some j =>
        rw [ep] at K
        obtain ⟨j1, rfl⟩ := vI_some (by omega) ep
        dsimp only at K
        by_cases q : sB A 18 x = 0
        · rw [if_pos (Or.inl q)] at K
          rw [if_pos q]
          exact K
        · rw [if_neg q]
          by_cases q2 : sB A 23 (5 * x + y) = 0
          · rw [if_pos (Or.inr q2)] at K
            simp only [q2, if_true, Option.isSome_none, Bool.false_eq_true, if_false]
            exact K
          · rw [if_neg (fun z => z.elim q q2)] at K
            simp (disch := omega) only [q2, if_false, Option.isSome_some, if_true, show ¬ (1 : Int32) = 0 by decide, not_false_eq_true, show (64 : Int32) = nI 64 from rfl, show (5 : Int32) = nI 5 from rfl, pk_mul, nI_add, nI_clamp, pz_in_nI, true_and]
            unfold bz at K
            by_cases q3 : sB A 30 (64 * (5 * x + y) + j) = 0
            · rw [if_pos q3] at K ⊢; exact K
            · rw [if_neg q3] at K ⊢; exact K
end
