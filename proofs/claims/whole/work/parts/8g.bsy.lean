/-! ===== the class: what is busy ===== -/
def BZ (f : Nat → Int32) (S : Nat → Prop) : Prop := ∀ P, P < 64 → ∃ m : Nat, m < 65536 ∧ f P = nI m ∧ ∀ q, q < 16 → (m.testBit q = true ↔ S (16 * P + q))
theorem BZ_iff {f : Nat → Int32} {S S' : Nat → Prop} (b : BZ f S) (e : ∀ v, v < 1024 → (S v ↔ S' v)) : BZ f S' := by
  intro P hP
  obtain ⟨m, m1, m2, m3⟩ := b P hP
  exact ⟨m, m1, m2, fun q hq => (m3 q hq).trans (e _ (by omega))⟩
theorem sh1 {q : Nat} (hq : q < 16) : (1 : Int32) <<< (nI q &&& 31) = nI (2 ^ q) := by
  have p : 2 ^ q < 2 ^ 32 := Nat.pow_lt_pow_right (by decide) (by omega)
  have := pk_shlN (n := 1) (nI q &&& 31) q (s_l _ (by omega)) (by omega)
  rw [Nat.one_mul] at this
  exact this
theorem BZ_set {f : Nat → Int32} {S : Nat → Prop} {P q : Nat} (b : BZ f S) (hP : P < 64) (hq : q < 16) : BZ (upd f P (f P ||| (1 : Int32) <<< (nI q &&& 31))) (fun v => S v ∨ v = 16 * P + q) := by
  intro X hX
  by_cases e : X = P
  · subst e
    obtain ⟨m, m1, m2, m3⟩ := b X hX
    refine ⟨m ||| 2 ^ q, Nat.or_lt_two_pow (n := 16) m1 (Nat.pow_lt_pow_right (by decide) hq), ?_, fun z hz => ?_⟩
    · rw [pk_us, m2, sh1 hq, nx_or]
    · rw [Nat.testBit_or, Bool.or_eq_true, m3 z hz, Nat.testBit_two_pow, decide_eq_true_eq]
      constructor
      · rintro (w | w)
        · exact Or.inl w
        · exact Or.inr (by omega)
      · rintro (w | w)
        · exact Or.inl w
        · exact Or.inr (by omega)
  · obtain ⟨m, m1, m2, m3⟩ := b X hX
    refine ⟨m, m1, by rw [pk_un e]; exact m2, fun z hz => (m3 z hz).trans ?_⟩
    constructor
    · exact Or.inl
    · rintro (w | w)
      · exact w
      · omega
theorem bit_s {m q : Nat} (hm : m < 65536) (hq : q < 16) : (nI m >>> (nI q &&& 31)) &&& 1 = 0 ↔ m.testBit q = false := by
  rw [pk_shrN (by omega) _ q (s_l _ (by omega))]
  have hle : m / 2 ^ q ≤ m := Nat.div_le_self _ _
  rw [show nI (m / 2 ^ q) &&& 1 = nI (m / 2 ^ q % 2) from pk_andN (by omega) 1 (by decide)]
  have h2 : m / 2 ^ q % 2 < 2 := Nat.mod_lt _ (by decide)
  rw [show (0 : Int32) = nI 0 from rfl, nI_eq (by omega) (by decide), Nat.testBit_eq_decide_div_mod_eq]
  simp
section
variable {d : Nat} {h : PzH} {Q : Option Value → PzH → Prop} {A : St} {l c p : Nat}
theorem c_firstFree {m : Nat} (hm : m < 65536) {f : Nat} (hf : f < 16) (h0 : m.testBit f = false) (h1 : ∀ q, q < f → m.testBit q = true) : pz_M (d + 1) mX0_firstFree [.int (nI m)] h Q ↔ Q (some (.int (nI f))) h := by
  simp only [enX0_firstFree, uX0_firstFree_0, uX0_firstFree_1, uX0_firstFree_3, uX0_firstFree_5, uX0_firstFree_8, uX0_firstFree_9, uX0_firstFree_10, uX0_firstFree_11, uX0_firstFree_12, uX0_firstFree_13, uX0_firstFree_16, uX0_firstFree_19, uX0_firstFree_22, uX0_firstFree_23, pq_C_sI, pq_C_sJ, pq_C_sR, pq_C_sA, pq_L_sI, pq_L_sJ, pq_L_sR, pq_L_sA, pq_I_sI, pq_I_sJ, pq_I_sR, pq_I_sA, pq_J_sI, pq_J_sJ, pq_J_sR, pq_J_sA, pq_R_sI, pq_R_sJ, pq_R_sR, pq_R_sA, pq_N_sI, pq_N_sJ, pq_N_sR, pq_N_sA, pq_S_sI, pq_S_sJ, pq_S_sR, pq_S_sA, pz_rf_s, pz_cut_i, pz_cut_r, pz_cut_n, pz_cut_f, pz_cut_u, pz_cut_o, true_and, and_true, true_or, or_true, Option.toList_some, Option.toList_none, List.cons_append, List.nil_append, Nat.add_left_cancel_iff, Nat.left_eq_add, Nat.add_eq_left, Nat.reduceEqDiff, if_true, if_false, ite_true, ite_false, false_and, and_false, false_or, or_false, reduceIte, reduceCtorEq, and_self, z_4, z_5, z_7, z_8, z_10, z_16, z_20, z_64, not_false_eq_true]
  have key := wp_for (d := d) (m := mX0_firstFree) (pc := 2) (Q := Q) (fun _ => h) (fun i => [.int (nI m), .int (nI i)]) f (fun i hi => by
    rw [uX0_firstFree_2]
    simp only [enX0_firstFree, uX0_firstFree_0, uX0_firstFree_1, uX0_firstFree_3, uX0_firstFree_5, uX0_firstFree_8, uX0_firstFree_9, uX0_firstFree_10, uX0_firstFree_11, uX0_firstFree_12, uX0_firstFree_13, uX0_firstFree_16, uX0_firstFree_19, uX0_firstFree_22, uX0_firstFree_23, pq_C_sI, pq_C_sJ, pq_C_sR, pq_C_sA, pq_L_sI, pq_L_sJ, pq_L_sR, pq_L_sA, pq_I_sI, pq_I_sJ, pq_I_sR, pq_I_sA, pq_J_sI, pq_J_sJ, pq_J_sR, pq_J_sA, pq_R_sI, pq_R_sJ, pq_R_sR, pq_R_sA, pq_N_sI, pq_N_sJ, pq_N_sR, pq_N_sA, pq_S_sI, pq_S_sJ, pq_S_sR, pq_S_sA, pz_rf_s, pz_cut_i, pz_cut_r, pz_cut_n, pz_cut_f, pz_cut_u, pz_cut_o, true_and, and_true, true_or, or_true, Option.toList_some, Option.toList_none, List.cons_append, List.nil_append, Nat.add_left_cancel_iff, Nat.left_eq_add, Nat.add_eq_left, Nat.reduceEqDiff, if_true, if_false, ite_true, ite_false, false_and, and_false, false_or, or_false, reduceIte, reduceCtorEq, and_self, z_4, z_5, z_7, z_8, z_10, z_16, z_20, z_64, not_false_eq_true, nI_1]
    rw [if_neg (show ¬ (16 : Int32) ≤ nI i from nI_ge (b := 16) (by omega) (by decide)), if_neg (fun z => by rw [bit_s hm (by omega), h1 i hi] at z; exact absurd z (by simp))])
  refine Iff.trans (show _ ↔ _ from key) ?_
  rw [uX0_firstFree_2]
  simp only [enX0_firstFree, uX0_firstFree_0, uX0_firstFree_1, uX0_firstFree_3, uX0_firstFree_5, uX0_firstFree_8, uX0_firstFree_9, uX0_firstFree_10, uX0_firstFree_11, uX0_firstFree_12, uX0_firstFree_13, uX0_firstFree_16, uX0_firstFree_19, uX0_firstFree_22, uX0_firstFree_23, pq_C_sI, pq_C_sJ, pq_C_sR, pq_C_sA, pq_L_sI, pq_L_sJ, pq_L_sR, pq_L_sA, pq_I_sI, pq_I_sJ, pq_I_sR, pq_I_sA, pq_J_sI, pq_J_sJ, pq_J_sR, pq_J_sA, pq_R_sI, pq_R_sJ, pq_R_sR, pq_R_sA, pq_N_sI, pq_N_sJ, pq_N_sR, pq_N_sA, pq_S_sI, pq_S_sJ, pq_S_sR, pq_S_sA, pz_rf_s, pz_cut_i, pz_cut_r, pz_cut_n, pz_cut_f, pz_cut_u, pz_cut_o, true_and, and_true, true_or, or_true, Option.toList_some, Option.toList_none, List.cons_append, List.nil_append, Nat.add_left_cancel_iff, Nat.left_eq_add, Nat.add_eq_left, Nat.reduceEqDiff, if_true, if_false, ite_true, ite_false, false_and, and_false, false_or, or_false, reduceIte, reduceCtorEq, and_self, z_4, z_5, z_7, z_8, z_10, z_16, z_20, z_64, not_false_eq_true]
  rw [if_neg (show ¬ (16 : Int32) ≤ nI f from nI_ge (b := 16) (by omega) (by decide)), if_pos ((bit_s hm hf).mpr h0)]
theorem bt_l {x : Int64} {q : Nat} (hq : q < 64) : ((x.toUInt64 >>> ((nI q).toInt64.toUInt64 &&& Int64.toUInt64 63)).toInt64 &&& 1) = 0 ↔ x.toBitVec.getLsbD q = false := ts_bit hq (by rw [wb_cu q hq]; exact u_tn (by omega))
theorem c_tellsOf {a b q : Nat} (K : LNK h (lkA (5 * a + b))) (L : LR h A a b) (hq : q < 64) : pz_M (d + 1) mX3_tellsOf [.ref (lkA (5 * a + b)), .int (nI q)] h Q ↔ Q (some (.int (bz (sB A 30 (64 * (5 * a + b) + q))))) h := by
  have r10 := L.2.2.2.2.2.2.2.2.2.1 q hq
  simp only [enX3_tellsOf, uX3_tellsOf_0, uX3_tellsOf_0o, uX3_tellsOf_0f, uX3_tellsOf_1, uX3_tellsOf_4, uX3_tellsOf_5, uX3_tellsOf_6, uX3_tellsOf_7, uX3_tellsOf_8, uX3_tellsOf_9, uX3_tellsOf_10, uX3_tellsOf_13, uX3_tellsOf_14, uX3_tellsOf_17, uX3_tellsOf_18, pq_C_sI, pq_C_sJ, pq_C_sR, pq_C_sA, pq_L_sI, pq_L_sJ, pq_L_sR, pq_L_sA, pq_I_sI, pq_I_sJ, pq_I_sR, pq_I_sA, pq_J_sI, pq_J_sJ, pq_J_sR, pq_J_sA, pq_R_sI, pq_R_sJ, pq_R_sR, pq_R_sA, pq_N_sI, pq_N_sJ, pq_N_sR, pq_N_sA, pq_S_sI, pq_S_sJ, pq_S_sR, pq_S_sA, pz_rf_s, pz_cut_i, pz_cut_r, pz_cut_n, pz_cut_f, pz_cut_u, pz_cut_o, true_and, and_true, true_or, or_true, Option.toList_some, Option.toList_none, List.cons_append, List.nil_append, Nat.add_left_cancel_iff, Nat.left_eq_add, Nat.add_eq_left, Nat.reduceEqDiff, if_true, if_false, ite_true, ite_false, false_and, and_false, false_or, or_false, reduceIte, reduceCtorEq, and_self, z_4, z_5, z_7, z_8, z_10, z_16, z_20, z_64, not_false_eq_true, K.1, lg_cmp_eq]
  unfold bz
  by_cases z : sB A 30 (64 * (5 * a + b) + q) = 0
  · rw [if_pos ((bt_l hq).mpr (by rw [r10]; simpa using z)), if_pos z]
  · rw [if_neg (fun y => by rw [bt_l hq, r10] at y; simp at y; exact z y), if_neg z]
theorem c_hasPiece {a q : Nat} (C : CLI h (36 + 4 * a)) (B : BTS (pz_J h (36 + 4 * a) 2) (fun q => sB A 20 (64 * a + q))) (hq : q < 64) : pz_M (d + 1) mX2_hasPiece [.ref (36 + 4 * a), .int (nI q)] h Q ↔ Q (some (.int (bz (sB A 20 (64 * a + q))))) h := by
  have r10 := B q hq
  simp only [enX2_hasPiece, uX2_hasPiece_0, uX2_hasPiece_0o, uX2_hasPiece_0f, uX2_hasPiece_1, uX2_hasPiece_4, uX2_hasPiece_5, uX2_hasPiece_6, uX2_hasPiece_7, uX2_hasPiece_8, uX2_hasPiece_9, uX2_hasPiece_10, uX2_hasPiece_13, uX2_hasPiece_14, uX2_hasPiece_17, uX2_hasPiece_18, pq_C_sI, pq_C_sJ, pq_C_sR, pq_C_sA, pq_L_sI, pq_L_sJ, pq_L_sR, pq_L_sA, pq_I_sI, pq_I_sJ, pq_I_sR, pq_I_sA, pq_J_sI, pq_J_sJ, pq_J_sR, pq_J_sA, pq_R_sI, pq_R_sJ, pq_R_sR, pq_R_sA, pq_N_sI, pq_N_sJ, pq_N_sR, pq_N_sA, pq_S_sI, pq_S_sJ, pq_S_sR, pq_S_sA, pz_rf_s, pz_cut_i, pz_cut_r, pz_cut_n, pz_cut_f, pz_cut_u, pz_cut_o, true_and, and_true, true_or, or_true, Option.toList_some, Option.toList_none, List.cons_append, List.nil_append, Nat.add_left_cancel_iff, Nat.left_eq_add, Nat.add_eq_left, Nat.reduceEqDiff, if_true, if_false, ite_true, ite_false, false_and, and_false, false_or, or_false, reduceIte, reduceCtorEq, and_self, z_4, z_5, z_7, z_8, z_10, z_16, z_20, z_64, not_false_eq_true, C.1, lg_cmp_eq]
  unfold bz
  by_cases z : sB A 20 (64 * a + q) = 0
  · rw [if_pos ((bt_l hq).mpr (by rw [r10]; simpa using z)), if_pos z]
  · rw [if_neg (fun y => by rw [bt_l hq, r10] at y; simp at y; exact z y), if_neg z]
theorem c_countHolders (R : RC h A) (I : OI A l c p) {a q : Nat} (ha : a < 4) (hq : q < 64) : pz_M (d + 2) mX0_countHolders [.ref 132, .int (nI a), .int (nI q)] h Q ↔ Q (some (.int (nI (hld A a q)))) h := by
  obtain ⟨a1, a2, a3, a4, a5, a6, a7, a8⟩ := ACT_of R
  have n1 := R.1.2.2.2.2.2.1.1
  simp only [enX0_countHolders, uX0_countHolders_0, uX0_countHolders_1, uX0_countHolders_2, uX0_countHolders_3, uX0_countHolders_7, uX0_countHolders_8, uX0_countHolders_11, uX0_countHolders_11o, uX0_countHolders_11f, uX0_countHolders_12, uX0_countHolders_15, uX0_countHolders_16, uX0_countHolders_18, uX0_countHolders_21, uX0_countHolders_21o, uX0_countHolders_23, uX0_countHolders_23o, uX0_countHolders_23f, uX0_countHolders_25, uX0_countHolders_25a, uX0_countHolders_28, uX0_countHolders_28o, uX0_countHolders_28f, uX0_countHolders_30, uX0_countHolders_33, uX0_countHolders_36, uX0_countHolders_36o, uX0_countHolders_36f, uX0_countHolders_38, uX0_countHolders_39, uX0_countHolders_42, uX0_countHolders_45, uX0_countHolders_48, uX0_countHolders_51, uX0_countHolders_54, uX0_countHolders_55, pq_C_sI, pq_C_sJ, pq_C_sR, pq_C_sA, pq_L_sI, pq_L_sJ, pq_L_sR, pq_L_sA, pq_I_sI, pq_I_sJ, pq_I_sR, pq_I_sA, pq_J_sI, pq_J_sJ, pq_J_sR, pq_J_sA, pq_R_sI, pq_R_sJ, pq_R_sR, pq_R_sA, pq_N_sI, pq_N_sJ, pq_N_sR, pq_N_sA, pq_S_sI, pq_S_sJ, pq_S_sR, pq_S_sA, pz_rf_s, pz_cut_i, pz_cut_r, pz_cut_n, pz_cut_f, pz_cut_u, pz_cut_o, true_and, and_true, true_or, or_true, Option.toList_some, Option.toList_none, List.cons_append, List.nil_append, Nat.add_left_cancel_iff, Nat.left_eq_add, Nat.add_eq_left, Nat.reduceEqDiff, if_true, if_false, ite_true, ite_false, false_and, and_false, false_or, or_false, reduceIte, reduceCtorEq, and_self, z_4, z_5, z_7, z_8, z_10, z_16, z_20, z_64, not_false_eq_true]
  have key := wp_loop (d := d + 1) (m := mX0_countHolders) (pc := 5) (Q := Q) 5 (fun i ls h' => h' = h ∧ ∃ v5, ls = [.ref 132, .int (nI a), .int (nI q), .int (nI (cnt (fun c => sB A 24 (5 * a + c) ≠ 0 ∧ sB A 30 (64 * (5 * a + c) + q) ≠ 0) i)), .int (nI i), v5]) (by
    rintro i ls h' hi ⟨rfl, v5, rfl⟩
    have stp : cnt (fun c => sB A 24 (5 * a + c) ≠ 0 ∧ sB A 30 (64 * (5 * a + c) + q) ≠ 0) (i + 1) = cnt (fun c => sB A 24 (5 * a + c) ≠ 0 ∧ sB A 30 (64 * (5 * a + c) + q) ≠ 0) i + (if sB A 24 (5 * a + i) ≠ 0 ∧ sB A 30 (64 * (5 * a + i) + q) ≠ 0 then 1 else 0) := rfl
    refine ⟨_, _, ⟨rfl, pz_rf (lkO (nI a) (nI i)), rfl⟩, ?_⟩
    rw [uX0_countHolders_5]
    by_cases e : a = i
    · subst e
      simp only [enX0_countHolders, uX0_countHolders_0, uX0_countHolders_1, uX0_countHolders_2, uX0_countHolders_3, uX0_countHolders_7, uX0_countHolders_8, uX0_countHolders_11, uX0_countHolders_11o, uX0_countHolders_11f, uX0_countHolders_12, uX0_countHolders_15, uX0_countHolders_16, uX0_countHolders_18, uX0_countHolders_21, uX0_countHolders_21o, uX0_countHolders_23, uX0_countHolders_23o, uX0_countHolders_23f, uX0_countHolders_25, uX0_countHolders_25a, uX0_countHolders_28, uX0_countHolders_28o, uX0_countHolders_28f, uX0_countHolders_30, uX0_countHolders_33, uX0_countHolders_36, uX0_countHolders_36o, uX0_countHolders_36f, uX0_countHolders_38, uX0_countHolders_39, uX0_countHolders_42, uX0_countHolders_45, uX0_countHolders_48, uX0_countHolders_51, uX0_countHolders_54, uX0_countHolders_55, pq_C_sI, pq_C_sJ, pq_C_sR, pq_C_sA, pq_L_sI, pq_L_sJ, pq_L_sR, pq_L_sA, pq_I_sI, pq_I_sJ, pq_I_sR, pq_I_sA, pq_J_sI, pq_J_sJ, pq_J_sR, pq_J_sA, pq_R_sI, pq_R_sJ, pq_R_sR, pq_R_sA, pq_N_sI, pq_N_sJ, pq_N_sR, pq_N_sA, pq_S_sI, pq_S_sJ, pq_S_sR, pq_S_sA, pz_rf_s, pz_cut_i, pz_cut_r, pz_cut_n, pz_cut_f, pz_cut_u, pz_cut_o, true_and, and_true, true_or, or_true, Option.toList_some, Option.toList_none, List.cons_append, List.nil_append, Nat.add_left_cancel_iff, Nat.left_eq_add, Nat.add_eq_left, Nat.reduceEqDiff, if_true, if_false, ite_true, ite_false, false_and, and_false, false_or, or_false, reduceIte, reduceCtorEq, and_self, z_4, z_5, z_7, z_8, z_10, z_16, z_20, z_64, not_false_eq_true, a1, a2, n1, c_linkOf R.1, lkO_eq (show a < 5 by omega), nI_1]
      rw [if_neg (show ¬ (5 : Int32) ≤ nI a from nI_ge hi (by decide)), stp]
      have z : sB A 24 (5 * a + a) = 0 := Classical.byContradiction (fun z => ((I.2.1 a a (by omega) (by omega)).1 (LI_j (by omega) (by omega) I.2 z)).1 rfl)
      rw [if_neg (fun w => w.1 z)]
      exact Iff.rfl
    · have LN := LN_of R (show a < 5 by omega) hi e
      have r4 := LN.2.2.2.2.1
      have k1 := LN.1.1
      simp only [enX0_countHolders, uX0_countHolders_0, uX0_countHolders_1, uX0_countHolders_2, uX0_countHolders_3, uX0_countHolders_7, uX0_countHolders_8, uX0_countHolders_11, uX0_countHolders_11o, uX0_countHolders_11f, uX0_countHolders_12, uX0_countHolders_15, uX0_countHolders_16, uX0_countHolders_18, uX0_countHolders_21, uX0_countHolders_21o, uX0_countHolders_23, uX0_countHolders_23o, uX0_countHolders_23f, uX0_countHolders_25, uX0_countHolders_25a, uX0_countHolders_28, uX0_countHolders_28o, uX0_countHolders_28f, uX0_countHolders_30, uX0_countHolders_33, uX0_countHolders_36, uX0_countHolders_36o, uX0_countHolders_36f, uX0_countHolders_38, uX0_countHolders_39, uX0_countHolders_42, uX0_countHolders_45, uX0_countHolders_48, uX0_countHolders_51, uX0_countHolders_54, uX0_countHolders_55, pq_C_sI, pq_C_sJ, pq_C_sR, pq_C_sA, pq_L_sI, pq_L_sJ, pq_L_sR, pq_L_sA, pq_I_sI, pq_I_sJ, pq_I_sR, pq_I_sA, pq_J_sI, pq_J_sJ, pq_J_sR, pq_J_sA, pq_R_sI, pq_R_sJ, pq_R_sR, pq_R_sA, pq_N_sI, pq_N_sJ, pq_N_sR, pq_N_sA, pq_S_sI, pq_S_sJ, pq_S_sR, pq_S_sA, pz_rf_s, pz_cut_i, pz_cut_r, pz_cut_n, pz_cut_f, pz_cut_u, pz_cut_o, true_and, and_true, true_or, or_true, Option.toList_some, Option.toList_none, List.cons_append, List.nil_append, Nat.add_left_cancel_iff, Nat.left_eq_add, Nat.add_eq_left, Nat.reduceEqDiff, if_true, if_false, ite_true, ite_false, false_and, and_false, false_or, or_false, reduceIte, reduceCtorEq, and_self, z_4, z_5, z_7, z_8, z_10, z_16, z_20, z_64, not_false_eq_true, a1, a2, n1, c_linkOf R.1, lkO_of (show a < 5 by omega) hi e, k1, r4, nI_1, c_tellsOf LN.1 LN.2 hq]
      rw [if_neg (show ¬ (5 : Int32) ≤ nI i from nI_ge hi (by decide)), stp]
      unfold bz
      by_cases z : sB A 24 (5 * a + i) = 0
      · simp [z]
      · by_cases z2 : sB A 30 (64 * (5 * a + i) + q) = 0
        · simp [z, z2]
        · simp [z, z2]) _ _ ⟨rfl, .retAddr 0, rfl⟩
  obtain ⟨ls, h', ⟨rfl, v5, rfl⟩, key⟩ := key
  refine Iff.trans (show _ ↔ _ from key) ?_
  rw [uX0_countHolders_5]
  simp only [enX0_countHolders, uX0_countHolders_0, uX0_countHolders_1, uX0_countHolders_2, uX0_countHolders_3, uX0_countHolders_7, uX0_countHolders_8, uX0_countHolders_11, uX0_countHolders_11o, uX0_countHolders_11f, uX0_countHolders_12, uX0_countHolders_15, uX0_countHolders_16, uX0_countHolders_18, uX0_countHolders_21, uX0_countHolders_21o, uX0_countHolders_23, uX0_countHolders_23o, uX0_countHolders_23f, uX0_countHolders_25, uX0_countHolders_25a, uX0_countHolders_28, uX0_countHolders_28o, uX0_countHolders_28f, uX0_countHolders_30, uX0_countHolders_33, uX0_countHolders_36, uX0_countHolders_36o, uX0_countHolders_36f, uX0_countHolders_38, uX0_countHolders_39, uX0_countHolders_42, uX0_countHolders_45, uX0_countHolders_48, uX0_countHolders_51, uX0_countHolders_54, uX0_countHolders_55, pq_C_sI, pq_C_sJ, pq_C_sR, pq_C_sA, pq_L_sI, pq_L_sJ, pq_L_sR, pq_L_sA, pq_I_sI, pq_I_sJ, pq_I_sR, pq_I_sA, pq_J_sI, pq_J_sJ, pq_J_sR, pq_J_sA, pq_R_sI, pq_R_sJ, pq_R_sR, pq_R_sA, pq_N_sI, pq_N_sJ, pq_N_sR, pq_N_sA, pq_S_sI, pq_S_sJ, pq_S_sR, pq_S_sA, pz_rf_s, pz_cut_i, pz_cut_r, pz_cut_n, pz_cut_f, pz_cut_u, pz_cut_o, true_and, and_true, true_or, or_true, Option.toList_some, Option.toList_none, List.cons_append, List.nil_append, Nat.add_left_cancel_iff, Nat.left_eq_add, Nat.add_eq_left, Nat.reduceEqDiff, if_true, if_false, ite_true, ite_false, false_and, and_false, false_or, or_false, reduceIte, reduceCtorEq, and_self, z_4, z_5, z_7, z_8, z_10, z_16, z_20, z_64, not_false_eq_true]
  rw [if_pos (show (5 : Int32) ≤ nI 5 by decide)]
  exact Iff.rfl
end
