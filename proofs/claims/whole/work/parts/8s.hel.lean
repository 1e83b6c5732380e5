/-! ===== the class: isHello, noteBitfield, heedHello ===== -/
/-- a loop that ends early -/
theorem wp_chk {d : Nat} {m : PzM} {pc : Nat} {h : PzH} {Q : Option Value → PzH → Prop} (n : Nat) (S : Nat → Prop) [DecidablePred S] (L : Nat → List Value) (E : Prop) (step : ∀ i, i < n → (wp d m pc (L i) [] h Q ↔ if S i then wp d m pc (L (i + 1)) [] h Q else E)) : wp d m pc (L 0) [] h Q ↔ if allN S n = true then wp d m pc (L n) [] h Q else E := by
  induction n with
  | zero => rw [if_pos (show allN S 0 = true from rfl)]
  | succ n ih =>
    rw [ih (fun i hi => step i (by omega)), step n (by omega)]
    show _ ↔ if (allN S n && decide (S n)) = true then _ else _
    cases hz : allN S n with
    | false => simp
    | true =>
      by_cases q : S n
      · simp [q]
      · simp [q]
theorem ub_inj {x y : Int8} : nI (ub x) = nI (ub y) ↔ x = y := by
  constructor
  · intro e
    have := (nI_eq (by have := ub_lt x; omega) (by have := ub_lt y; omega)).mp e
    rw [← ub_8 x, ← ub_8 y, this]
  · intro e
    rw [e]
theorem gr_ch : ∀ i, i < 19 → pz_ch 12 i = nI (ub ((nI (grB (1 + i))).toInt8)) := by decide +kernel
theorem gr_c0 : (19 : Int32) = nI (ub ((nI (grB 0)).toInt8)) := by decide +kernel
theorem at_i {l : List Int8} {i : Nat} (hi : i < l.length) (hl : l.length < 2 ^ 31) : atL l (nI i) = nI (ub (l.getD i 0)) := by
  unfold atL
  rw [vI_of hl hi]
section
variable {d : Nat} {h : PzH} {Q : Option Value → PzH → Prop} {A : St} {l c p : Nat}
theorem c_isHello {t r a cap : Nat} {w : List Int8} (hC : pz_C h t = 8) (hR : pz_R h t 7 = some (t + 4)) (T : TR h A t) (hn : (sV A 2).length = 20) (W : ROW h r a cap w) (hl : w.length = 68) : pz_M (d + 2) mX8_isHello [.ref t, .ref r] h Q ↔ Q (some (.int (if hgd w (sV A 2) = true then 1 else 0))) h := by
  have N := T.2.2.2.2.2.1
  have W1 := W.1
  have N1 := N.1
  have e0 : atL w 0 = nI (ub (w.getD 0 0)) := at_i (i := 0) (by omega) (by omega)
  have es : pz_sl.getD 12 0 = 19 := by decide
  have es2 : 12 < pz_sn := by decide
  have e12 : (12 : UInt32).toNat = 12 := by decide
  have s1 : ∀ {Q : Option Value → PzH → Prop}, wp (d + 1) mX8_isHello 17 [.ref t, .ref r, .int 0] [] h Q ↔ if allN (fun i => w.getD (1 + i) 0 = (nI (grB (1 + i))).toInt8) 19 = true then wp (d + 1) mX8_isHello 17 [.ref t, .ref r, .int (nI 19)] [] h Q else Q (some (.int 0)) h := fun {Q} => by
    refine wp_chk 19 (fun i => w.getD (1 + i) 0 = (nI (grB (1 + i))).toInt8) (fun i => [.ref t, .ref r, .int (nI i)]) _ (fun i hi => ?_)
    have hin : pz_in (nI i) 19 = true := pz_in_nI hi (by decide)
    rw [uX8_isHello_17]
    simp only [enX8_isHello, uX8_isHello_0, uX8_isHello_0o, uX8_isHello_0f, uX8_isHello_1, uX8_isHello_2, uX8_isHello_5, uX8_isHello_7, uX8_isHello_10, uX8_isHello_13, uX8_isHello_14, uX8_isHello_15, uX8_isHello_16, uX8_isHello_18, uX8_isHello_20, uX8_isHello_23, uX8_isHello_26, uX8_isHello_26o, uX8_isHello_26f, uX8_isHello_27, uX8_isHello_28, uX8_isHello_29, uX8_isHello_30, uX8_isHello_33, uX8_isHello_35, uX8_isHello_36, uX8_isHello_39, uX8_isHello_42, uX8_isHello_43, uX8_isHello_44, uX8_isHello_47, uX8_isHello_50, uX8_isHello_51, uX8_isHello_53, uX8_isHello_55, uX8_isHello_58, uX8_isHello_58o, uX8_isHello_58f, uX8_isHello_59, uX8_isHello_61, uX8_isHello_62, uX8_isHello_63, uX8_isHello_66, uX8_isHello_66o, uX8_isHello_66f, uX8_isHello_67, uX8_isHello_70, uX8_isHello_71, uX8_isHello_74, uX8_isHello_77, uX8_isHello_78, uX8_isHello_79, uX8_isHello_82, uX8_isHello_85, uX8_isHello_86, pq_C_sI, pq_C_sJ, pq_C_sR, pq_C_sA, pq_L_sI, pq_L_sJ, pq_L_sR, pq_L_sA, pq_I_sI, pq_I_sJ, pq_I_sR, pq_I_sA, pq_J_sI, pq_J_sJ, pq_J_sR, pq_J_sA, pq_R_sI, pq_R_sJ, pq_R_sR, pq_R_sA, pq_N_sI, pq_N_sJ, pq_N_sR, pq_N_sA, pq_S_sI, pq_S_sJ, pq_S_sR, pq_S_sA, pz_rf_s, pz_cut_i, pz_cut_r, pz_cut_n, pz_cut_f, pz_cut_u, pz_cut_o, true_and, and_true, true_or, or_true, Option.toList_some, Option.toList_none, List.cons_append, List.nil_append, Nat.add_left_cancel_iff, Nat.left_eq_add, Nat.add_eq_left, Nat.reduceEqDiff, if_true, if_false, ite_true, ite_false, false_and, and_false, false_or, or_false, reduceIte, reduceCtorEq, and_self, z_4, z_5, z_7, z_8, z_10, z_16, z_20, z_64, not_false_eq_true, W1, c_at W, es, es2, e12, hin, nI_clamp (show i < 2 ^ 31 by omega), show (1 : Int32) + nI i = nI (1 + i) from nI_add 1 i, at_i (show 1 + i < w.length by omega) (show w.length < 2 ^ 31 by omega), gr_ch i hi, ub_inj, nI_1]
    rw [if_neg (nI_ge hi (by decide))]
  have s2 : ∀ {Q : Option Value → PzH → Prop}, wp (d + 1) mX8_isHello 52 [.ref t, .ref r, .int 0] [] h Q ↔ if allN (fun i => w.getD (28 + i) 0 = (sV A 2).getD i 0) 20 = true then wp (d + 1) mX8_isHello 52 [.ref t, .ref r, .int (nI 20)] [] h Q else Q (some (.int 0)) h := fun {Q} => by
    refine wp_chk 20 (fun i => w.getD (28 + i) 0 = (sV A 2).getD i 0) (fun i => [.ref t, .ref r, .int (nI i)]) _ (fun i hi => ?_)
    rw [uX8_isHello_52]
    simp only [enX8_isHello, uX8_isHello_0, uX8_isHello_0o, uX8_isHello_0f, uX8_isHello_1, uX8_isHello_2, uX8_isHello_5, uX8_isHello_7, uX8_isHello_10, uX8_isHello_13, uX8_isHello_14, uX8_isHello_15, uX8_isHello_16, uX8_isHello_18, uX8_isHello_20, uX8_isHello_23, uX8_isHello_26, uX8_isHello_26o, uX8_isHello_26f, uX8_isHello_27, uX8_isHello_28, uX8_isHello_29, uX8_isHello_30, uX8_isHello_33, uX8_isHello_35, uX8_isHello_36, uX8_isHello_39, uX8_isHello_42, uX8_isHello_43, uX8_isHello_44, uX8_isHello_47, uX8_isHello_50, uX8_isHello_51, uX8_isHello_53, uX8_isHello_55, uX8_isHello_58, uX8_isHello_58o, uX8_isHello_58f, uX8_isHello_59, uX8_isHello_61, uX8_isHello_62, uX8_isHello_63, uX8_isHello_66, uX8_isHello_66o, uX8_isHello_66f, uX8_isHello_67, uX8_isHello_70, uX8_isHello_71, uX8_isHello_74, uX8_isHello_77, uX8_isHello_78, uX8_isHello_79, uX8_isHello_82, uX8_isHello_85, uX8_isHello_86, pq_C_sI, pq_C_sJ, pq_C_sR, pq_C_sA, pq_L_sI, pq_L_sJ, pq_L_sR, pq_L_sA, pq_I_sI, pq_I_sJ, pq_I_sR, pq_I_sA, pq_J_sI, pq_J_sJ, pq_J_sR, pq_J_sA, pq_R_sI, pq_R_sJ, pq_R_sR, pq_R_sA, pq_N_sI, pq_N_sJ, pq_N_sR, pq_N_sA, pq_S_sI, pq_S_sJ, pq_S_sR, pq_S_sA, pz_rf_s, pz_cut_i, pz_cut_r, pz_cut_n, pz_cut_f, pz_cut_u, pz_cut_o, true_and, and_true, true_or, or_true, Option.toList_some, Option.toList_none, List.cons_append, List.nil_append, Nat.add_left_cancel_iff, Nat.left_eq_add, Nat.add_eq_left, Nat.reduceEqDiff, if_true, if_false, ite_true, ite_false, false_and, and_false, false_or, or_false, reduceIte, reduceCtorEq, and_self, z_4, z_5, z_7, z_8, z_10, z_16, z_20, z_64, not_false_eq_true, hC, hR, W1, N1, c_at W, c_at N, show (28 : Int32) + nI i = nI (28 + i) from nI_add 28 i, at_i (show 28 + i < w.length by omega) (show w.length < 2 ^ 31 by omega), at_i (show i < (sV A 2).length by omega) (show (sV A 2).length < 2 ^ 31 by omega), ub_inj, nI_1]
    rw [if_neg (show ¬ (20 : Int32) ≤ nI i from nI_ge hi (by decide))]
  simp only [enX8_isHello, uX8_isHello_0, uX8_isHello_0o, uX8_isHello_0f, uX8_isHello_1, uX8_isHello_2, uX8_isHello_5, uX8_isHello_7, uX8_isHello_10, uX8_isHello_13, uX8_isHello_14, uX8_isHello_15, uX8_isHello_16, uX8_isHello_18, uX8_isHello_20, uX8_isHello_23, uX8_isHello_26, uX8_isHello_26o, uX8_isHello_26f, uX8_isHello_27, uX8_isHello_28, uX8_isHello_29, uX8_isHello_30, uX8_isHello_33, uX8_isHello_35, uX8_isHello_36, uX8_isHello_39, uX8_isHello_42, uX8_isHello_43, uX8_isHello_44, uX8_isHello_47, uX8_isHello_50, uX8_isHello_51, uX8_isHello_53, uX8_isHello_55, uX8_isHello_58, uX8_isHello_58o, uX8_isHello_58f, uX8_isHello_59, uX8_isHello_61, uX8_isHello_62, uX8_isHello_63, uX8_isHello_66, uX8_isHello_66o, uX8_isHello_66f, uX8_isHello_67, uX8_isHello_70, uX8_isHello_71, uX8_isHello_74, uX8_isHello_77, uX8_isHello_78, uX8_isHello_79, uX8_isHello_82, uX8_isHello_85, uX8_isHello_86, pq_C_sI, pq_C_sJ, pq_C_sR, pq_C_sA, pq_L_sI, pq_L_sJ, pq_L_sR, pq_L_sA, pq_I_sI, pq_I_sJ, pq_I_sR, pq_I_sA, pq_J_sI, pq_J_sJ, pq_J_sR, pq_J_sA, pq_R_sI, pq_R_sJ, pq_R_sR, pq_R_sA, pq_N_sI, pq_N_sJ, pq_N_sR, pq_N_sA, pq_S_sI, pq_S_sJ, pq_S_sR, pq_S_sA, pz_rf_s, pz_cut_i, pz_cut_r, pz_cut_n, pz_cut_f, pz_cut_u, pz_cut_o, true_and, and_true, true_or, or_true, Option.toList_some, Option.toList_none, List.cons_append, List.nil_append, Nat.add_left_cancel_iff, Nat.left_eq_add, Nat.add_eq_left, Nat.reduceEqDiff, if_true, if_false, ite_true, ite_false, false_and, and_false, false_or, or_false, reduceIte, reduceCtorEq, and_self, z_4, z_5, z_7, z_8, z_10, z_16, z_20, z_64, not_false_eq_true, W1, c_at W, e0, e12, es, es2]
  rw [show nI 19 = nI (ub ((nI (grB 0)).toInt8)) from gr_c0]
  simp only [ub_inj]
  have key : hgd w (sV A 2) = true ↔ w.getD 0 0 = (nI (grB 0)).toInt8 ∧ allN (fun i => w.getD (1 + i) 0 = (nI (grB (1 + i))).toInt8) 19 = true ∧ allN (fun i => w.getD (28 + i) 0 = (sV A 2).getD i 0) 20 = true := by
    unfold hgd
    rw [allN_iff, allN_iff, allN_iff]
    constructor
    · exact fun z => ⟨(z 0 (by decide)).1, fun i hi => (z (1 + i) (by omega)).1, fun i hi => (z i hi).2⟩
    · rintro ⟨z0, z1, z2⟩ i hi
      refine ⟨?_, z2 i hi⟩
      by_cases e : i = 0
      · subst e; exact z0
      · have := z1 (i - 1) (by omega)
        rwa [show 1 + (i - 1) = i by omega] at this
  by_cases q0 : w.getD 0 0 = (nI (grB 0)).toInt8
  · rw [if_pos q0, s1]
    by_cases q1 : allN (fun i => w.getD (1 + i) 0 = (nI (grB (1 + i))).toInt8) 19 = true
    · rw [if_pos q1, uX8_isHello_17]
      simp only [enX8_isHello, uX8_isHello_0, uX8_isHello_0o, uX8_isHello_0f, uX8_isHello_1, uX8_isHello_2, uX8_isHello_5, uX8_isHello_7, uX8_isHello_10, uX8_isHello_13, uX8_isHello_14, uX8_isHello_15, uX8_isHello_16, uX8_isHello_18, uX8_isHello_20, uX8_isHello_23, uX8_isHello_26, uX8_isHello_26o, uX8_isHello_26f, uX8_isHello_27, uX8_isHello_28, uX8_isHello_29, uX8_isHello_30, uX8_isHello_33, uX8_isHello_35, uX8_isHello_36, uX8_isHello_39, uX8_isHello_42, uX8_isHello_43, uX8_isHello_44, uX8_isHello_47, uX8_isHello_50, uX8_isHello_51, uX8_isHello_53, uX8_isHello_55, uX8_isHello_58, uX8_isHello_58o, uX8_isHello_58f, uX8_isHello_59, uX8_isHello_61, uX8_isHello_62, uX8_isHello_63, uX8_isHello_66, uX8_isHello_66o, uX8_isHello_66f, uX8_isHello_67, uX8_isHello_70, uX8_isHello_71, uX8_isHello_74, uX8_isHello_77, uX8_isHello_78, uX8_isHello_79, uX8_isHello_82, uX8_isHello_85, uX8_isHello_86, pq_C_sI, pq_C_sJ, pq_C_sR, pq_C_sA, pq_L_sI, pq_L_sJ, pq_L_sR, pq_L_sA, pq_I_sI, pq_I_sJ, pq_I_sR, pq_I_sA, pq_J_sI, pq_J_sJ, pq_J_sR, pq_J_sA, pq_R_sI, pq_R_sJ, pq_R_sR, pq_R_sA, pq_N_sI, pq_N_sJ, pq_N_sR, pq_N_sA, pq_S_sI, pq_S_sJ, pq_S_sR, pq_S_sA, pz_rf_s, pz_cut_i, pz_cut_r, pz_cut_n, pz_cut_f, pz_cut_u, pz_cut_o, true_and, and_true, true_or, or_true, Option.toList_some, Option.toList_none, List.cons_append, List.nil_append, Nat.add_left_cancel_iff, Nat.left_eq_add, Nat.add_eq_left, Nat.reduceEqDiff, if_true, if_false, ite_true, ite_false, false_and, and_false, false_or, or_false, reduceIte, reduceCtorEq, and_self, z_4, z_5, z_7, z_8, z_10, z_16, z_20, z_64, not_false_eq_true, e12, es, es2]
      rw [if_pos (nI_le (Nat.le_refl _) (by decide)), s2]
      by_cases q2 : allN (fun i => w.getD (28 + i) 0 = (sV A 2).getD i 0) 20 = true
      · rw [if_pos q2, if_pos (key.mpr ⟨q0, q1, q2⟩), uX8_isHello_52]
        simp only [enX8_isHello, uX8_isHello_0, uX8_isHello_0o, uX8_isHello_0f, uX8_isHello_1, uX8_isHello_2, uX8_isHello_5, uX8_isHello_7, uX8_isHello_10, uX8_isHello_13, uX8_isHello_14, uX8_isHello_15, uX8_isHello_16, uX8_isHello_18, uX8_isHello_20, uX8_isHello_23, uX8_isHello_26, uX8_isHello_26o, uX8_isHello_26f, uX8_isHello_27, uX8_isHello_28, uX8_isHello_29, uX8_isHello_30, uX8_isHello_33, uX8_isHello_35, uX8_isHello_36, uX8_isHello_39, uX8_isHello_42, uX8_isHello_43, uX8_isHello_44, uX8_isHello_47, uX8_isHello_50, uX8_isHello_51, uX8_isHello_53, uX8_isHello_55, uX8_isHello_58, uX8_isHello_58o, uX8_isHello_58f, uX8_isHello_59, uX8_isHello_61, uX8_isHello_62, uX8_isHello_63, uX8_isHello_66, uX8_isHello_66o, uX8_isHello_66f, uX8_isHello_67, uX8_isHello_70, uX8_isHello_71, uX8_isHello_74, uX8_isHello_77, uX8_isHello_78, uX8_isHello_79, uX8_isHello_82, uX8_isHello_85, uX8_isHello_86, pq_C_sI, pq_C_sJ, pq_C_sR, pq_C_sA, pq_L_sI, pq_L_sJ, pq_L_sR, pq_L_sA, pq_I_sI, pq_I_sJ, pq_I_sR, pq_I_sA, pq_J_sI, pq_J_sJ, pq_J_sR, pq_J_sA, pq_R_sI, pq_R_sJ, pq_R_sR, pq_R_sA, pq_N_sI, pq_N_sJ, pq_N_sR, pq_N_sA, pq_S_sI, pq_S_sJ, pq_S_sR, pq_S_sA, pz_rf_s, pz_cut_i, pz_cut_r, pz_cut_n, pz_cut_f, pz_cut_u, pz_cut_o, true_and, and_true, true_or, or_true, Option.toList_some, Option.toList_none, List.cons_append, List.nil_append, Nat.add_left_cancel_iff, Nat.left_eq_add, Nat.add_eq_left, Nat.reduceEqDiff, if_true, if_false, ite_true, ite_false, false_and, and_false, false_or, or_false, reduceIte, reduceCtorEq, and_self, z_4, z_5, z_7, z_8, z_10, z_16, z_20, z_64, not_false_eq_true]
        rw [if_pos (show (20 : Int32) ≤ nI 20 by decide)]
      · rw [if_neg q2, if_neg (fun z => q2 (key.mp z).2.2)]
    · rw [if_neg q1, if_neg (fun z => q1 (key.mp z).2.1)]
  · rw [if_neg q0, if_neg (fun z => q0 (key.mp z).1)]
theorem bt_1 {x : Int64} {P i : Nat} (hP : P < 64) (hi : i < 32) : bt ((x.toUInt64 >>> ((nI P).toInt64.toUInt64 &&& Int64.toUInt64 63)).toInt64 &&& 1).toInt32 i = (decide (i = 0) && x.toBitVec.getLsbD P) := by
  obtain ⟨n, hn, rfl⟩ := wb_of x
  rw [wb_bit hn hP, lN_i, wb_tb, BitVec.getLsbD_ofNat, decide_eq_true hP, Bool.true_and, Nat.testBit_eq_decide_div_mod_eq]
  have k1 : ∀ i, i < 32 → bt (nI 1) i = decide (i = 0) := by decide +kernel
  have hc : n / 2 ^ P % 2 = 0 ∨ n / 2 ^ P % 2 = 1 := by omega
  rcases hc with e | e
  · rw [e]
    simp [show nI 0 = 0 from rfl, b_0]
  · rw [e, k1 i hi]
    simp
theorem bfv_bt {a i : Nat} : ∀ n, n ≤ 8 → ∀ j, j < 8 → bt (bfv A a p i n) j = (decide (7 - j < n) && decide (8 * i + (7 - j) < p ∧ sB A 20 (64 * a + 8 * i + (7 - j)) ≠ 0))
  | 0, _, j, hj => by
    unfold bfv
    rw [b_0]
    simp
  | n + 1, hn, j, hj => by
    have k1 : ∀ n, n < 8 → ∀ j, j < 8 → bt ((128 : Int32) >>> (nI n &&& 31)) j = decide (7 - j = n) := by decide +kernel
    unfold bfv
    rw [b_or, bfv_bt n (by omega) j hj]
    by_cases q : 8 * i + n < p ∧ sB A 20 (64 * a + 8 * i + n) ≠ 0
    · rw [if_pos q, k1 n (by omega) j hj]
      by_cases e : 7 - j = n
      · subst e
        rw [decide_eq_true (show 8 * i + (7 - j) < p ∧ sB A 20 (64 * a + 8 * i + (7 - j)) ≠ 0 from q)]
        simp
      · rw [decide_eq_false e, Bool.or_false]
        congr 1
        exact decide_eq_decide.mpr ⟨fun z => by omega, fun z => by omega⟩
    · rw [if_neg q, b_0, Bool.or_false]
      by_cases e : 7 - j = n
      · subst e
        rw [decide_eq_false q, Bool.and_false, Bool.and_false]
      · congr 1
        exact decide_eq_decide.mpr ⟨fun z => by omega, fun z => by omega⟩
theorem c_noteBitfield (R : RC h A) (T : TN A l c p) {a : Nat} {x : Int64} (hx : BTS x (fun q => sB A 20 (64 * a + q))) (hq : ∀ q, q < 64 → sB A 20 (64 * a + q) ≠ 0 → q < p) (K : ∀ h', HF [135, 136] h h' → ROW h' 135 136 104 (bfL A a p) → Q none h') : pz_M (d + 3) mX0_noteBitfield [.ref 132, .long x] h Q := by
  obtain ⟨a1, a2, a3, a4, a5, a6, a7, a8⟩ := ACT_of R
  obtain ⟨_, _, ⟨l0, N⟩⟩ := R.2.2.2.2.2
  obtain ⟨t, ht, tr, tc, TT⟩ := TS_of R
  have n1 := R.1.2.2.2.2.2.1.1
  have t6 := T.2.2.2.2.2.1
  have N1 := N.1
  simp only [enX0_noteBitfield, uX0_noteBitfield_0, uX0_noteBitfield_0o, uX0_noteBitfield_0f, uX0_noteBitfield_1, uX0_noteBitfield_4, uX0_noteBitfield_7, uX0_noteBitfield_10, uX0_noteBitfield_11, uX0_noteBitfield_11o, uX0_noteBitfield_11f, uX0_noteBitfield_12, uX0_noteBitfield_15, uX0_noteBitfield_16, uX0_noteBitfield_19, uX0_noteBitfield_19o, uX0_noteBitfield_19f, uX0_noteBitfield_20, uX0_noteBitfield_23, uX0_noteBitfield_24, uX0_noteBitfield_25, uX0_noteBitfield_26, uX0_noteBitfield_29, uX0_noteBitfield_29o, uX0_noteBitfield_29f, uX0_noteBitfield_30, uX0_noteBitfield_33, uX0_noteBitfield_34, uX0_noteBitfield_37, uX0_noteBitfield_38, uX0_noteBitfield_40, uX0_noteBitfield_41, uX0_noteBitfield_45, uX0_noteBitfield_47, uX0_noteBitfield_48, uX0_noteBitfield_49, uX0_noteBitfield_52, uX0_noteBitfield_54, uX0_noteBitfield_55, uX0_noteBitfield_56, uX0_noteBitfield_57, uX0_noteBitfield_59, uX0_noteBitfield_60, uX0_noteBitfield_61, uX0_noteBitfield_62, uX0_noteBitfield_63, uX0_noteBitfield_64, uX0_noteBitfield_66, uX0_noteBitfield_68, uX0_noteBitfield_70, uX0_noteBitfield_71, uX0_noteBitfield_73, uX0_noteBitfield_76, uX0_noteBitfield_76o, uX0_noteBitfield_76f, uX0_noteBitfield_77, uX0_noteBitfield_80, uX0_noteBitfield_82, uX0_noteBitfield_85, uX0_noteBitfield_88, uX0_noteBitfield_91, pq_C_sI, pq_C_sJ, pq_C_sR, pq_C_sA, pq_L_sI, pq_L_sJ, pq_L_sR, pq_L_sA, pq_I_sI, pq_I_sJ, pq_I_sR, pq_I_sA, pq_J_sI, pq_J_sJ, pq_J_sR, pq_J_sA, pq_R_sI, pq_R_sJ, pq_R_sR, pq_R_sA, pq_N_sI, pq_N_sJ, pq_N_sR, pq_N_sA, pq_S_sI, pq_S_sJ, pq_S_sR, pq_S_sA, pz_rf_s, pz_cut_i, pz_cut_r, pz_cut_n, pz_cut_f, pz_cut_u, pz_cut_o, true_and, and_true, true_or, or_true, Option.toList_some, Option.toList_none, List.cons_append, List.nil_append, Nat.add_left_cancel_iff, Nat.left_eq_add, Nat.add_eq_left, Nat.reduceEqDiff, if_true, if_false, ite_true, ite_false, false_and, and_false, false_or, or_false, reduceIte, reduceCtorEq, and_self, z_4, z_5, z_7, z_8, z_10, z_16, z_20, z_64, not_false_eq_true, a1, a2, a5, n1, tr, tc, N1, c_bitfieldBytes tc TT T]
  refine c_cut0 N (fun h1 F1 W1 => ?_)
  have A1 : pz_C h1 132 = 0 ∧ pz_R h1 132 3 = some 135 := by rw [F1.1, F1.2.2.1]; exact ⟨a1, a5⟩
  have N1 := W1.1
  simp only [enX0_noteBitfield, uX0_noteBitfield_0, uX0_noteBitfield_0o, uX0_noteBitfield_0f, uX0_noteBitfield_1, uX0_noteBitfield_4, uX0_noteBitfield_7, uX0_noteBitfield_10, uX0_noteBitfield_11, uX0_noteBitfield_11o, uX0_noteBitfield_11f, uX0_noteBitfield_12, uX0_noteBitfield_15, uX0_noteBitfield_16, uX0_noteBitfield_19, uX0_noteBitfield_19o, uX0_noteBitfield_19f, uX0_noteBitfield_20, uX0_noteBitfield_23, uX0_noteBitfield_24, uX0_noteBitfield_25, uX0_noteBitfield_26, uX0_noteBitfield_29, uX0_noteBitfield_29o, uX0_noteBitfield_29f, uX0_noteBitfield_30, uX0_noteBitfield_33, uX0_noteBitfield_34, uX0_noteBitfield_37, uX0_noteBitfield_38, uX0_noteBitfield_40, uX0_noteBitfield_41, uX0_noteBitfield_45, uX0_noteBitfield_47, uX0_noteBitfield_48, uX0_noteBitfield_49, uX0_noteBitfield_52, uX0_noteBitfield_54, uX0_noteBitfield_55, uX0_noteBitfield_56, uX0_noteBitfield_57, uX0_noteBitfield_59, uX0_noteBitfield_60, uX0_noteBitfield_61, uX0_noteBitfield_62, uX0_noteBitfield_63, uX0_noteBitfield_64, uX0_noteBitfield_66, uX0_noteBitfield_68, uX0_noteBitfield_70, uX0_noteBitfield_71, uX0_noteBitfield_73, uX0_noteBitfield_76, uX0_noteBitfield_76o, uX0_noteBitfield_76f, uX0_noteBitfield_77, uX0_noteBitfield_80, uX0_noteBitfield_82, uX0_noteBitfield_85, uX0_noteBitfield_88, uX0_noteBitfield_91, pq_C_sI, pq_C_sJ, pq_C_sR, pq_C_sA, pq_L_sI, pq_L_sJ, pq_L_sR, pq_L_sA, pq_I_sI, pq_I_sJ, pq_I_sR, pq_I_sA, pq_J_sI, pq_J_sJ, pq_J_sR, pq_J_sA, pq_R_sI, pq_R_sJ, pq_R_sR, pq_R_sA, pq_N_sI, pq_N_sJ, pq_N_sR, pq_N_sA, pq_S_sI, pq_S_sJ, pq_S_sR, pq_S_sA, pz_rf_s, pz_cut_i, pz_cut_r, pz_cut_n, pz_cut_f, pz_cut_u, pz_cut_o, true_and, and_true, true_or, or_true, Option.toList_some, Option.toList_none, List.cons_append, List.nil_append, Nat.add_left_cancel_iff, Nat.left_eq_add, Nat.add_eq_left, Nat.reduceEqDiff, if_true, if_false, ite_true, ite_false, false_and, and_false, false_or, or_false, reduceIte, reduceCtorEq, and_self, z_4, z_5, z_7, z_8, z_10, z_16, z_20, z_64, not_false_eq_true, A1, N1, show (1 : Int32) + nI ((p + 7) / 8) = nI (1 + (p + 7) / 8) from nI_add 1 _]
  refine c_addNumber W1 (by simp) (fun h2 F2 W2 => ?_)
  have A2 : pz_C h2 132 = 0 ∧ pz_R h2 132 3 = some 135 := by rw [F2.1, F2.2.2.1]; exact A1
  have N2 := W2.1
  simp only [enX0_noteBitfield, uX0_noteBitfield_0, uX0_noteBitfield_0o, uX0_noteBitfield_0f, uX0_noteBitfield_1, uX0_noteBitfield_4, uX0_noteBitfield_7, uX0_noteBitfield_10, uX0_noteBitfield_11, uX0_noteBitfield_11o, uX0_noteBitfield_11f, uX0_noteBitfield_12, uX0_noteBitfield_15, uX0_noteBitfield_16, uX0_noteBitfield_19, uX0_noteBitfield_19o, uX0_noteBitfield_19f, uX0_noteBitfield_20, uX0_noteBitfield_23, uX0_noteBitfield_24, uX0_noteBitfield_25, uX0_noteBitfield_26, uX0_noteBitfield_29, uX0_noteBitfield_29o, uX0_noteBitfield_29f, uX0_noteBitfield_30, uX0_noteBitfield_33, uX0_noteBitfield_34, uX0_noteBitfield_37, uX0_noteBitfield_38, uX0_noteBitfield_40, uX0_noteBitfield_41, uX0_noteBitfield_45, uX0_noteBitfield_47, uX0_noteBitfield_48, uX0_noteBitfield_49, uX0_noteBitfield_52, uX0_noteBitfield_54, uX0_noteBitfield_55, uX0_noteBitfield_56, uX0_noteBitfield_57, uX0_noteBitfield_59, uX0_noteBitfield_60, uX0_noteBitfield_61, uX0_noteBitfield_62, uX0_noteBitfield_63, uX0_noteBitfield_64, uX0_noteBitfield_66, uX0_noteBitfield_68, uX0_noteBitfield_70, uX0_noteBitfield_71, uX0_noteBitfield_73, uX0_noteBitfield_76, uX0_noteBitfield_76o, uX0_noteBitfield_76f, uX0_noteBitfield_77, uX0_noteBitfield_80, uX0_noteBitfield_82, uX0_noteBitfield_85, uX0_noteBitfield_88, uX0_noteBitfield_91, pq_C_sI, pq_C_sJ, pq_C_sR, pq_C_sA, pq_L_sI, pq_L_sJ, pq_L_sR, pq_L_sA, pq_I_sI, pq_I_sJ, pq_I_sR, pq_I_sA, pq_J_sI, pq_J_sJ, pq_J_sR, pq_J_sA, pq_R_sI, pq_R_sJ, pq_R_sR, pq_R_sA, pq_N_sI, pq_N_sJ, pq_N_sR, pq_N_sA, pq_S_sI, pq_S_sJ, pq_S_sR, pq_S_sA, pz_rf_s, pz_cut_i, pz_cut_r, pz_cut_n, pz_cut_f, pz_cut_u, pz_cut_o, true_and, and_true, true_or, or_true, Option.toList_some, Option.toList_none, List.cons_append, List.nil_append, Nat.add_left_cancel_iff, Nat.left_eq_add, Nat.add_eq_left, Nat.reduceEqDiff, if_true, if_false, ite_true, ite_false, false_and, and_false, false_or, or_false, reduceIte, reduceCtorEq, and_self, z_4, z_5, z_7, z_8, z_10, z_16, z_20, z_64, not_false_eq_true, A2, N2]
  refine c_add W2 (by simp [be4]) (fun h3 F3 W3 => ?_)
  have A3 : pz_C h3 132 = 0 ∧ pz_R h3 132 3 = some 135 := by rw [F3.1, F3.2.2.1]; exact A2
  simp only [enX0_noteBitfield, uX0_noteBitfield_0, uX0_noteBitfield_0o, uX0_noteBitfield_0f, uX0_noteBitfield_1, uX0_noteBitfield_4, uX0_noteBitfield_7, uX0_noteBitfield_10, uX0_noteBitfield_11, uX0_noteBitfield_11o, uX0_noteBitfield_11f, uX0_noteBitfield_12, uX0_noteBitfield_15, uX0_noteBitfield_16, uX0_noteBitfield_19, uX0_noteBitfield_19o, uX0_noteBitfield_19f, uX0_noteBitfield_20, uX0_noteBitfield_23, uX0_noteBitfield_24, uX0_noteBitfield_25, uX0_noteBitfield_26, uX0_noteBitfield_29, uX0_noteBitfield_29o, uX0_noteBitfield_29f, uX0_noteBitfield_30, uX0_noteBitfield_33, uX0_noteBitfield_34, uX0_noteBitfield_37, uX0_noteBitfield_38, uX0_noteBitfield_40, uX0_noteBitfield_41, uX0_noteBitfield_45, uX0_noteBitfield_47, uX0_noteBitfield_48, uX0_noteBitfield_49, uX0_noteBitfield_52, uX0_noteBitfield_54, uX0_noteBitfield_55, uX0_noteBitfield_56, uX0_noteBitfield_57, uX0_noteBitfield_59, uX0_noteBitfield_60, uX0_noteBitfield_61, uX0_noteBitfield_62, uX0_noteBitfield_63, uX0_noteBitfield_64, uX0_noteBitfield_66, uX0_noteBitfield_68, uX0_noteBitfield_70, uX0_noteBitfield_71, uX0_noteBitfield_73, uX0_noteBitfield_76, uX0_noteBitfield_76o, uX0_noteBitfield_76f, uX0_noteBitfield_77, uX0_noteBitfield_80, uX0_noteBitfield_82, uX0_noteBitfield_85, uX0_noteBitfield_88, uX0_noteBitfield_91, pq_C_sI, pq_C_sJ, pq_C_sR, pq_C_sA, pq_L_sI, pq_L_sJ, pq_L_sR, pq_L_sA, pq_I_sI, pq_I_sJ, pq_I_sR, pq_I_sA, pq_J_sI, pq_J_sJ, pq_J_sR, pq_J_sA, pq_R_sI, pq_R_sJ, pq_R_sR, pq_R_sA, pq_N_sI, pq_N_sJ, pq_N_sR, pq_N_sA, pq_S_sI, pq_S_sJ, pq_S_sR, pq_S_sA, pz_rf_s, pz_cut_i, pz_cut_r, pz_cut_n, pz_cut_f, pz_cut_u, pz_cut_o, true_and, and_true, true_or, or_true, Option.toList_some, Option.toList_none, List.cons_append, List.nil_append, Nat.add_left_cancel_iff, Nat.left_eq_add, Nat.add_eq_left, Nat.reduceEqDiff, if_true, if_false, ite_true, ite_false, false_and, and_false, false_or, or_false, reduceIte, reduceCtorEq, and_self, z_4, z_5, z_7, z_8, z_10, z_16, z_20, z_64, not_false_eq_true]
  have F03 : HF [135, 136] h h3 := HF_trans F1 (HF_trans F2 F3)
  rw [List.nil_append] at W3
  generalize hpre : be4 (nI (1 + (p + 7) / 8)) = pre at W3
  have lpre : pre.length = 4 := by rw [← hpre]; rfl
  refine wp_up (8 * ((p + 7) / 8)) (fun P ls h' => ∃ y : Int32, ls = [.ref 132, .long x, .retAddr 0, .int (nI ((p + 7) / 8)), .int y, .int (nI P)] ∧ HF [135, 136] h h' ∧ (pz_C h' 132 = 0 ∧ pz_R h' 132 3 = some 135) ∧ ROW h' 135 136 104 (pre ++ ([(5 : Int32).toInt8] ++ ofF (fun i => (bfv A a p i 8).toInt8) (P / 8))) ∧ ∀ j, j < 8 → j < P → bt y j = x.toBitVec.getLsbD (P - 1 - j)) ?_ ?_ _ _ ⟨0, rfl, F03, A3, by rw [ofF_0, List.append_nil]; exact W3, fun j _ hj => by omega⟩
  · rintro P ls h' hP ⟨y, rfl, F, A', W, hy⟩ K'
    have W1 := W.1
    have hP64 : P < 64 := by omega
    have er : nI P - nI P / 8 * 8 = nI (P % 8) := pk_rem (d := 8) (by omega) (by decide) (by decide)
    have e8 : (8 : Int32) * nI ((p + 7) / 8) = nI (8 * ((p + 7) / 8)) := pk_mul 8 _
    have hy' : ∀ j, j < 8 → j < P + 1 → bt (y <<< ((1 : Int32) &&& 31) ||| ((x.toUInt64 >>> ((nI P).toInt64.toUInt64 &&& Int64.toUInt64 63)).toInt64 &&& 1).toInt32) j = x.toBitVec.getLsbD (P + 1 - 1 - j) := by
      intro j hj hjP
      have s1 := b_shl 1 (by decide) y (show j < 32 by omega)
      rw [b_or, show (1 : Int32) = nI 1 from rfl, s1, bt_1 hP64 (by omega)]
      by_cases e : j = 0
      · subst e
        simp
      · rw [decide_eq_true (show 1 ≤ j by omega), decide_eq_false e, Bool.true_and, Bool.false_and, Bool.or_false, hy (j - 1) (by omega) (by omega), show P - 1 - (j - 1) = P + 1 - 1 - j by omega]
    rw [uX0_noteBitfield_43]
    simp only [enX0_noteBitfield, uX0_noteBitfield_0, uX0_noteBitfield_0o, uX0_noteBitfield_0f, uX0_noteBitfield_1, uX0_noteBitfield_4, uX0_noteBitfield_7, uX0_noteBitfield_10, uX0_noteBitfield_11, uX0_noteBitfield_11o, uX0_noteBitfield_11f, uX0_noteBitfield_12, uX0_noteBitfield_15, uX0_noteBitfield_16, uX0_noteBitfield_19, uX0_noteBitfield_19o, uX0_noteBitfield_19f, uX0_noteBitfield_20, uX0_noteBitfield_23, uX0_noteBitfield_24, uX0_noteBitfield_25, uX0_noteBitfield_26, uX0_noteBitfield_29, uX0_noteBitfield_29o, uX0_noteBitfield_29f, uX0_noteBitfield_30, uX0_noteBitfield_33, uX0_noteBitfield_34, uX0_noteBitfield_37, uX0_noteBitfield_38, uX0_noteBitfield_40, uX0_noteBitfield_41, uX0_noteBitfield_45, uX0_noteBitfield_47, uX0_noteBitfield_48, uX0_noteBitfield_49, uX0_noteBitfield_52, uX0_noteBitfield_54, uX0_noteBitfield_55, uX0_noteBitfield_56, uX0_noteBitfield_57, uX0_noteBitfield_59, uX0_noteBitfield_60, uX0_noteBitfield_61, uX0_noteBitfield_62, uX0_noteBitfield_63, uX0_noteBitfield_64, uX0_noteBitfield_66, uX0_noteBitfield_68, uX0_noteBitfield_70, uX0_noteBitfield_71, uX0_noteBitfield_73, uX0_noteBitfield_76, uX0_noteBitfield_76o, uX0_noteBitfield_76f, uX0_noteBitfield_77, uX0_noteBitfield_80, uX0_noteBitfield_82, uX0_noteBitfield_85, uX0_noteBitfield_88, uX0_noteBitfield_91, pq_C_sI, pq_C_sJ, pq_C_sR, pq_C_sA, pq_L_sI, pq_L_sJ, pq_L_sR, pq_L_sA, pq_I_sI, pq_I_sJ, pq_I_sR, pq_I_sA, pq_J_sI, pq_J_sJ, pq_J_sR, pq_J_sA, pq_R_sI, pq_R_sJ, pq_R_sR, pq_R_sA, pq_N_sI, pq_N_sJ, pq_N_sR, pq_N_sA, pq_S_sI, pq_S_sJ, pq_S_sR, pq_S_sA, pz_rf_s, pz_cut_i, pz_cut_r, pz_cut_n, pz_cut_f, pz_cut_u, pz_cut_o, true_and, and_true, true_or, or_true, Option.toList_some, Option.toList_none, List.cons_append, List.nil_append, Nat.add_left_cancel_iff, Nat.left_eq_add, Nat.add_eq_left, Nat.reduceEqDiff, if_true, if_false, ite_true, ite_false, false_and, and_false, false_or, or_false, reduceIte, reduceCtorEq, and_self, z_4, z_5, z_7, z_8, z_10, z_16, z_20, z_64, not_false_eq_true, A', W1, e8, er]
    rw [if_neg (nI_ge hP (by omega))]
    generalize y <<< ((1 : Int32) &&& 31) ||| ((x.toUInt64 >>> ((nI P).toInt64.toUInt64 &&& Int64.toUInt64 63)).toInt64 &&& 1).toInt32 = y' at hy'
    by_cases q : P % 8 = 7
    · rw [if_neg (fun z => z (by rw [q]; rfl))]
      refine c_add W (by simp only [List.length_append, ofF_len, lpre, List.length_cons, List.length_nil]; omega) (fun h4 F4 W4 => ?_)
      simp only [enX0_noteBitfield, uX0_noteBitfield_0, uX0_noteBitfield_0o, uX0_noteBitfield_0f, uX0_noteBitfield_1, uX0_noteBitfield_4, uX0_noteBitfield_7, uX0_noteBitfield_10, uX0_noteBitfield_11, uX0_noteBitfield_11o, uX0_noteBitfield_11f, uX0_noteBitfield_12, uX0_noteBitfield_15, uX0_noteBitfield_16, uX0_noteBitfield_19, uX0_noteBitfield_19o, uX0_noteBitfield_19f, uX0_noteBitfield_20, uX0_noteBitfield_23, uX0_noteBitfield_24, uX0_noteBitfield_25, uX0_noteBitfield_26, uX0_noteBitfield_29, uX0_noteBitfield_29o, uX0_noteBitfield_29f, uX0_noteBitfield_30, uX0_noteBitfield_33, uX0_noteBitfield_34, uX0_noteBitfield_37, uX0_noteBitfield_38, uX0_noteBitfield_40, uX0_noteBitfield_41, uX0_noteBitfield_45, uX0_noteBitfield_47, uX0_noteBitfield_48, uX0_noteBitfield_49, uX0_noteBitfield_52, uX0_noteBitfield_54, uX0_noteBitfield_55, uX0_noteBitfield_56, uX0_noteBitfield_57, uX0_noteBitfield_59, uX0_noteBitfield_60, uX0_noteBitfield_61, uX0_noteBitfield_62, uX0_noteBitfield_63, uX0_noteBitfield_64, uX0_noteBitfield_66, uX0_noteBitfield_68, uX0_noteBitfield_70, uX0_noteBitfield_71, uX0_noteBitfield_73, uX0_noteBitfield_76, uX0_noteBitfield_76o, uX0_noteBitfield_76f, uX0_noteBitfield_77, uX0_noteBitfield_80, uX0_noteBitfield_82, uX0_noteBitfield_85, uX0_noteBitfield_88, uX0_noteBitfield_91, pq_C_sI, pq_C_sJ, pq_C_sR, pq_C_sA, pq_L_sI, pq_L_sJ, pq_L_sR, pq_L_sA, pq_I_sI, pq_I_sJ, pq_I_sR, pq_I_sA, pq_J_sI, pq_J_sJ, pq_J_sR, pq_J_sA, pq_R_sI, pq_R_sJ, pq_R_sR, pq_R_sA, pq_N_sI, pq_N_sJ, pq_N_sR, pq_N_sA, pq_S_sI, pq_S_sJ, pq_S_sR, pq_S_sA, pz_rf_s, pz_cut_i, pz_cut_r, pz_cut_n, pz_cut_f, pz_cut_u, pz_cut_o, true_and, and_true, true_or, or_true, Option.toList_some, Option.toList_none, List.cons_append, List.nil_append, Nat.add_left_cancel_iff, Nat.left_eq_add, Nat.add_eq_left, Nat.reduceEqDiff, if_true, if_false, ite_true, ite_false, false_and, and_false, false_or, or_false, reduceIte, reduceCtorEq, and_self, z_4, z_5, z_7, z_8, z_10, z_16, z_20, z_64, not_false_eq_true, nI_1]
      refine K' _ _ ⟨y', rfl, HF_trans F F4, by rw [F4.1, F4.2.2.1]; exact A', ?_, hy'⟩
      have e1 : (P + 1) / 8 = P / 8 + 1 := by omega
      rw [e1, ofF_s]
      have e2 : (bfv A a p (P / 8) 8).toInt8 = y'.toInt8 := i8_ext (fun j hj => by
        rw [bfv_bt 8 (Nat.le_refl _) j hj, hy' j hj (by omega), hx _ (by omega), decide_eq_true (show 7 - j < 8 by omega), Bool.true_and]
        have e3 : P + 1 - 1 - j = 8 * (P / 8) + (7 - j) := by omega
        rw [e3]
        refine decide_eq_decide.mpr ?_
        show _ ↔ sB A 20 (64 * a + (8 * (P / 8) + (7 - j))) ≠ 0
        rw [← Nat.add_assoc]
        exact ⟨fun z => z.2, fun z => ⟨hq _ (by omega) (by rw [← Nat.add_assoc]; exact z), z⟩⟩)
      rw [e2]
      simp only [List.append_assoc] at W4 ⊢
      exact W4
    · rw [if_pos (show ¬ nI (P % 8) = 7 from fun z => q ((nI_eq (b := 7) (by omega) (by decide)).mp z))]
      simp only [nI_1]
      refine K' _ _ ⟨y', rfl, F, A', ?_, hy'⟩
      rw [show (P + 1) / 8 = P / 8 by omega]
      exact W
  · rintro ls h' ⟨y, rfl, F, A', W, hy⟩
    have e8 : (8 : Int32) * nI ((p + 7) / 8) = nI (8 * ((p + 7) / 8)) := pk_mul 8 _
    rw [uX0_noteBitfield_43]
    simp only [enX0_noteBitfield, uX0_noteBitfield_0, uX0_noteBitfield_0o, uX0_noteBitfield_0f, uX0_noteBitfield_1, uX0_noteBitfield_4, uX0_noteBitfield_7, uX0_noteBitfield_10, uX0_noteBitfield_11, uX0_noteBitfield_11o, uX0_noteBitfield_11f, uX0_noteBitfield_12, uX0_noteBitfield_15, uX0_noteBitfield_16, uX0_noteBitfield_19, uX0_noteBitfield_19o, uX0_noteBitfield_19f, uX0_noteBitfield_20, uX0_noteBitfield_23, uX0_noteBitfield_24, uX0_noteBitfield_25, uX0_noteBitfield_26, uX0_noteBitfield_29, uX0_noteBitfield_29o, uX0_noteBitfield_29f, uX0_noteBitfield_30, uX0_noteBitfield_33, uX0_noteBitfield_34, uX0_noteBitfield_37, uX0_noteBitfield_38, uX0_noteBitfield_40, uX0_noteBitfield_41, uX0_noteBitfield_45, uX0_noteBitfield_47, uX0_noteBitfield_48, uX0_noteBitfield_49, uX0_noteBitfield_52, uX0_noteBitfield_54, uX0_noteBitfield_55, uX0_noteBitfield_56, uX0_noteBitfield_57, uX0_noteBitfield_59, uX0_noteBitfield_60, uX0_noteBitfield_61, uX0_noteBitfield_62, uX0_noteBitfield_63, uX0_noteBitfield_64, uX0_noteBitfield_66, uX0_noteBitfield_68, uX0_noteBitfield_70, uX0_noteBitfield_71, uX0_noteBitfield_73, uX0_noteBitfield_76, uX0_noteBitfield_76o, uX0_noteBitfield_76f, uX0_noteBitfield_77, uX0_noteBitfield_80, uX0_noteBitfield_82, uX0_noteBitfield_85, uX0_noteBitfield_88, uX0_noteBitfield_91, pq_C_sI, pq_C_sJ, pq_C_sR, pq_C_sA, pq_L_sI, pq_L_sJ, pq_L_sR, pq_L_sA, pq_I_sI, pq_I_sJ, pq_I_sR, pq_I_sA, pq_J_sI, pq_J_sJ, pq_J_sR, pq_J_sA, pq_R_sI, pq_R_sJ, pq_R_sR, pq_R_sA, pq_N_sI, pq_N_sJ, pq_N_sR, pq_N_sA, pq_S_sI, pq_S_sJ, pq_S_sR, pq_S_sA, pz_rf_s, pz_cut_i, pz_cut_r, pz_cut_n, pz_cut_f, pz_cut_u, pz_cut_o, true_and, and_true, true_or, or_true, Option.toList_some, Option.toList_none, List.cons_append, List.nil_append, Nat.add_left_cancel_iff, Nat.left_eq_add, Nat.add_eq_left, Nat.reduceEqDiff, if_true, if_false, ite_true, ite_false, false_and, and_false, false_or, or_false, reduceIte, reduceCtorEq, and_self, z_4, z_5, z_7, z_8, z_10, z_16, z_20, z_64, not_false_eq_true, e8]
    rw [if_pos (nI_le (Nat.le_refl _) (by omega))]
    refine K h' F ?_
    unfold bfL
    rw [hpre]
    rwa [show 8 * ((p + 7) / 8) / 8 = (p + 7) / 8 by omega] at W
def helC (A : St) (a b p : Nat) (w : List Int8) : Int32 × St := if hgd w (sV A 2) = true then (0, (hl2 A a b p).2) else (1, A)
theorem has_0 {x : Int64} {f : Nat → Int32} (hx : BTS x f) (hp : p ≤ 64) (hq : ∀ q, q < 64 → f q ≠ 0 → q < p) : x = 0 ↔ ¬ anyN (fun q => f q ≠ 0) p = true := by
  rw [anyN_iff]
  constructor
  · rintro e ⟨q, q1, q2⟩
    have := hx q (by omega)
    rw [e, decide_eq_true q2] at this
    have z : (0 : Int64).toBitVec.getLsbD q = false := by
      show (0#64).getLsbD q = false
      simp
    rw [z] at this
    exact absurd this (by decide)
  · intro e
    apply wb_inj
    apply BitVec.eq_of_getLsbD_eq
    intro q q1
    have z : (0 : Int64).toBitVec.getLsbD q = false := by
      show (0#64).getLsbD q = false
      simp
    rw [z, hx q q1, decide_eq_false (fun y => e ⟨q, hq q q1 y, y⟩)]
theorem c_heedHello (R : RC h A) (I : OI A l c p) {a b : Nat} {w : List Int8} (ha : a < 4) (hb : b < 5) (hab : a ≠ b) (hj : sB A 23 (5 * a + b) ≠ 0) (M : ROW h 133 134 104 w) (hl : w.length = 68) (K : ∀ h', HC h h' → RC h' (helC A a b p w).2 → Q (some (.int (helC A a b p w).1)) h') : pz_M (d + 5) mX0_heedHello [.ref 132, .ref (36 + 4 * a), .ref (lkA (5 * a + b))] h Q := by
  obtain ⟨a1, a2, a3, a4, a5, a6, a7, a8⟩ := ACT_of R
  obtain ⟨⟨k1, k2, k3, k4, k5⟩, L⟩ := LN_of R (show a < 5 by omega) hb hab
  obtain ⟨t, ht, tr, tc, T⟩ := TS_of R
  have hth : sB A 18 a ≠ 0 := by
    rcases ((I.2.1 a b (by omega) hb).1 hj).2.1 with z | z
    · omega
    · exact z
  have hj2 := ((I.2.1 a b (by omega) hb).1 hj).2.2
  have n1 := R.1.2.2.2.2.2.1.1
  have t6 := I.1.1.2.2.2.2.2.1
  have M1 := M.1
  have lin := lkA_in (k := 5 * a + b) (by omega) (by omega)
  have hR7 : pz_R h t 7 = some (t + 4) := by
    rcases ht with rfl | rfl
    · exact R.1.2.2.2.1.2.2.2.2.1
    · exact R.1.2.2.2.2.1.2.2.2.2.1
  simp only [enX0_heedHello, uX0_heedHello_0, uX0_heedHello_0o, uX0_heedHello_0f, uX0_heedHello_1, uX0_heedHello_4, uX0_heedHello_7, uX0_heedHello_7o, uX0_heedHello_7f, uX0_heedHello_8, uX0_heedHello_11, uX0_heedHello_14, uX0_heedHello_17, uX0_heedHello_18, uX0_heedHello_19, uX0_heedHello_19o, uX0_heedHello_19f, uX0_heedHello_20, uX0_heedHello_21, uX0_heedHello_24, uX0_heedHello_24o, uX0_heedHello_24f, uX0_heedHello_25, uX0_heedHello_28, uX0_heedHello_29, uX0_heedHello_30, uX0_heedHello_33, uX0_heedHello_33o, uX0_heedHello_33f, uX0_heedHello_34, uX0_heedHello_34o, uX0_heedHello_34f, uX0_heedHello_35, uX0_heedHello_38, uX0_heedHello_41, uX0_heedHello_41o, uX0_heedHello_41f, uX0_heedHello_42, uX0_heedHello_45, uX0_heedHello_45o, uX0_heedHello_45f, uX0_heedHello_46, uX0_heedHello_46o, uX0_heedHello_46f, uX0_heedHello_47, uX0_heedHello_50, uX0_heedHello_53, uX0_heedHello_54, pq_C_sI, pq_C_sJ, pq_C_sR, pq_C_sA, pq_L_sI, pq_L_sJ, pq_L_sR, pq_L_sA, pq_I_sI, pq_I_sJ, pq_I_sR, pq_I_sA, pq_J_sI, pq_J_sJ, pq_J_sR, pq_J_sA, pq_R_sI, pq_R_sJ, pq_R_sR, pq_R_sA, pq_N_sI, pq_N_sJ, pq_N_sR, pq_N_sA, pq_S_sI, pq_S_sJ, pq_S_sR, pq_S_sA, pz_rf_s, pz_cut_i, pz_cut_r, pz_cut_n, pz_cut_f, pz_cut_u, pz_cut_o, true_and, and_true, true_or, or_true, Option.toList_some, Option.toList_none, List.cons_append, List.nil_append, Nat.add_left_cancel_iff, Nat.left_eq_add, Nat.add_eq_left, Nat.reduceEqDiff, if_true, if_false, ite_true, ite_false, false_and, and_false, false_or, or_false, reduceIte, reduceCtorEq, and_self, z_4, z_5, z_7, z_8, z_10, z_16, z_20, z_64, not_false_eq_true, a1, a2, a4, n1, tr, tc, M1, c_isHello tc hR7 T I.1.2.2.2.2.1 M hl]
  unfold helC at K
  by_cases q : hgd w (sV A 2) = true
  · rw [if_pos q] at K ⊢
    rw [if_pos (show ¬ (1 : Int32) = 0 by decide)]
    have R1 := RC_fl (j := 4) (r := 24) (v := 1) R (show a < 5 by omega) hb hab hj (by decide)
    have I1 := OI_u2 (r := 24) (k := 5 * a + b) (v := 1) I (by decide) hj
    have H1 : HC h (pz_sI h (lkA (5 * a + b)) 4 1) := HC_HF (cs := [lkA (5 * a + b)]) (HF_sI (by simp)) (fun x hx => by simp at hx; omega)
    simp only [k1, true_and, or_true]
    unfold hl2 at K
    have eb : bfL ((pz_u2 (sB A) 24 (5 * a + b) 1, A.2) : St) a p = bfL A a p := by
      unfold bfL
      have : ∀ i n, bfv ((pz_u2 (sB A) 24 (5 * a + b) 1, A.2) : St) a p i n = bfv A a p i n := by
        intro i n
        induction n with
        | zero => rfl
        | succ n ih =>
          unfold bfv
          rw [ih]
          rfl
      simp only [this]
    have h20 : sB ((pz_u2 (sB A) 24 (5 * a + b) 1, A.2) : St) 20 = sB A 20 := rfl
    have th1 : sB ((pz_u2 (sB A) 24 (5 * a + b) 1, A.2) : St) 18 a ≠ 0 := hth
    have j1 : sB ((pz_u2 (sB A) 24 (5 * a + b) 1, A.2) : St) 23 (5 * b + a) ≠ 0 := hj2
    have eJ : pz_J h (36 + 4 * a) 2 = pz_J (pz_sI h (lkA (5 * a + b)) 4 1) (36 + 4 * a) 2 := rfl
    have c0 := (CL_of R ha).1.1
    generalize pz_sI h (lkA (5 * a + b)) 4 1 = h1 at R1 H1 eJ
    generalize ((pz_u2 (sB A) 24 (5 * a + b) 1, A.2) : St) = A1 at R1 I1 K eb h20 th1 j1
    obtain ⟨b1, b2, b3, b4, b5, b6, b7, b8⟩ := ACT_of R1
    obtain ⟨⟨c1, c2, c3, c4, c5⟩, CR1⟩ := CL_of R1 ha
    obtain ⟨_, bits, _⟩ := CR1.2.2 th1
    have hck := (I1.2.2 a ha th1).1
    simp only [enX0_heedHello, uX0_heedHello_0, uX0_heedHello_0o, uX0_heedHello_0f, uX0_heedHello_1, uX0_heedHello_4, uX0_heedHello_7, uX0_heedHello_7o, uX0_heedHello_7f, uX0_heedHello_8, uX0_heedHello_11, uX0_heedHello_14, uX0_heedHello_17, uX0_heedHello_18, uX0_heedHello_19, uX0_heedHello_19o, uX0_heedHello_19f, uX0_heedHello_20, uX0_heedHello_21, uX0_heedHello_24, uX0_heedHello_24o, uX0_heedHello_24f, uX0_heedHello_25, uX0_heedHello_28, uX0_heedHello_29, uX0_heedHello_30, uX0_heedHello_33, uX0_heedHello_33o, uX0_heedHello_33f, uX0_heedHello_34, uX0_heedHello_34o, uX0_heedHello_34f, uX0_heedHello_35, uX0_heedHello_38, uX0_heedHello_41, uX0_heedHello_41o, uX0_heedHello_41f, uX0_heedHello_42, uX0_heedHello_45, uX0_heedHello_45o, uX0_heedHello_45f, uX0_heedHello_46, uX0_heedHello_46o, uX0_heedHello_46f, uX0_heedHello_47, uX0_heedHello_50, uX0_heedHello_53, uX0_heedHello_54, pq_C_sI, pq_C_sJ, pq_C_sR, pq_C_sA, pq_L_sI, pq_L_sJ, pq_L_sR, pq_L_sA, pq_I_sI, pq_I_sJ, pq_I_sR, pq_I_sA, pq_J_sI, pq_J_sJ, pq_J_sR, pq_J_sA, pq_R_sI, pq_R_sJ, pq_R_sR, pq_R_sA, pq_N_sI, pq_N_sJ, pq_N_sR, pq_N_sA, pq_S_sI, pq_S_sJ, pq_S_sR, pq_S_sA, pz_rf_s, pz_cut_i, pz_cut_r, pz_cut_n, pz_cut_f, pz_cut_u, pz_cut_o, true_and, and_true, true_or, or_true, Option.toList_some, Option.toList_none, List.cons_append, List.nil_append, Nat.add_left_cancel_iff, Nat.left_eq_add, Nat.add_eq_left, Nat.reduceEqDiff, if_true, if_false, ite_true, ite_false, false_and, and_false, false_or, or_false, reduceIte, reduceCtorEq, and_self, z_4, z_5, z_7, z_8, z_10, z_16, z_20, z_64, not_false_eq_true, c0, eJ, c1, b1, b2, b5, lg_cmp_eq]
    have hz := has_0 bits t6 hck
    rw [h20] at hz
    by_cases q2 : anyN (fun q => sB A 20 (64 * a + q) ≠ 0) p = true
    · rw [if_pos q2] at K
      rw [if_neg (fun z => hz.mp z q2)]
      refine c_noteBitfield R1 I1.1.1 bits hck (fun h2 F2 N2 => ?_)
      have R2 := RC_note R1 F2 N2
      obtain ⟨d1, d2, d3, d4, d5, d6, d7, d8⟩ := ACT_of R2
      have n2 := R2.1.2.2.2.2.2.1.1
      simp only [enX0_heedHello, uX0_heedHello_0, uX0_heedHello_0o, uX0_heedHello_0f, uX0_heedHello_1, uX0_heedHello_4, uX0_heedHello_7, uX0_heedHello_7o, uX0_heedHello_7f, uX0_heedHello_8, uX0_heedHello_11, uX0_heedHello_14, uX0_heedHello_17, uX0_heedHello_18, uX0_heedHello_19, uX0_heedHello_19o, uX0_heedHello_19f, uX0_heedHello_20, uX0_heedHello_21, uX0_heedHello_24, uX0_heedHello_24o, uX0_heedHello_24f, uX0_heedHello_25, uX0_heedHello_28, uX0_heedHello_29, uX0_heedHello_30, uX0_heedHello_33, uX0_heedHello_33o, uX0_heedHello_33f, uX0_heedHello_34, uX0_heedHello_34o, uX0_heedHello_34f, uX0_heedHello_35, uX0_heedHello_38, uX0_heedHello_41, uX0_heedHello_41o, uX0_heedHello_41f, uX0_heedHello_42, uX0_heedHello_45, uX0_heedHello_45o, uX0_heedHello_45f, uX0_heedHello_46, uX0_heedHello_46o, uX0_heedHello_46f, uX0_heedHello_47, uX0_heedHello_50, uX0_heedHello_53, uX0_heedHello_54, pq_C_sI, pq_C_sJ, pq_C_sR, pq_C_sA, pq_L_sI, pq_L_sJ, pq_L_sR, pq_L_sA, pq_I_sI, pq_I_sJ, pq_I_sR, pq_I_sA, pq_J_sI, pq_J_sJ, pq_J_sR, pq_J_sA, pq_R_sI, pq_R_sJ, pq_R_sR, pq_R_sA, pq_N_sI, pq_N_sJ, pq_N_sR, pq_N_sA, pq_S_sI, pq_S_sJ, pq_S_sR, pq_S_sA, pz_rf_s, pz_cut_i, pz_cut_r, pz_cut_n, pz_cut_f, pz_cut_u, pz_cut_o, true_and, and_true, true_or, or_true, Option.toList_some, Option.toList_none, List.cons_append, List.nil_append, Nat.add_left_cancel_iff, Nat.left_eq_add, Nat.add_eq_left, Nat.reduceEqDiff, if_true, if_false, ite_true, ite_false, false_and, and_false, false_or, or_false, reduceIte, reduceCtorEq, and_self, z_4, z_5, z_7, z_8, z_10, z_16, z_20, z_64, not_false_eq_true, d1, d2, d5, n2]
      rw [eb] at N2
      refine c_send R2 (show a < 5 by omega) hb hab j1 (I1.1.2.1 _ (by omega)) N2 (fun h3 F3 R3 => ?_)
      simp only [enX0_heedHello, uX0_heedHello_0, uX0_heedHello_0o, uX0_heedHello_0f, uX0_heedHello_1, uX0_heedHello_4, uX0_heedHello_7, uX0_heedHello_7o, uX0_heedHello_7f, uX0_heedHello_8, uX0_heedHello_11, uX0_heedHello_14, uX0_heedHello_17, uX0_heedHello_18, uX0_heedHello_19, uX0_heedHello_19o, uX0_heedHello_19f, uX0_heedHello_20, uX0_heedHello_21, uX0_heedHello_24, uX0_heedHello_24o, uX0_heedHello_24f, uX0_heedHello_25, uX0_heedHello_28, uX0_heedHello_29, uX0_heedHello_30, uX0_heedHello_33, uX0_heedHello_33o, uX0_heedHello_33f, uX0_heedHello_34, uX0_heedHello_34o, uX0_heedHello_34f, uX0_heedHello_35, uX0_heedHello_38, uX0_heedHello_41, uX0_heedHello_41o, uX0_heedHello_41f, uX0_heedHello_42, uX0_heedHello_45, uX0_heedHello_45o, uX0_heedHello_45f, uX0_heedHello_46, uX0_heedHello_46o, uX0_heedHello_46f, uX0_heedHello_47, uX0_heedHello_50, uX0_heedHello_53, uX0_heedHello_54, pq_C_sI, pq_C_sJ, pq_C_sR, pq_C_sA, pq_L_sI, pq_L_sJ, pq_L_sR, pq_L_sA, pq_I_sI, pq_I_sJ, pq_I_sR, pq_I_sA, pq_J_sI, pq_J_sJ, pq_J_sR, pq_J_sA, pq_R_sI, pq_R_sJ, pq_R_sR, pq_R_sA, pq_N_sI, pq_N_sJ, pq_N_sR, pq_N_sA, pq_S_sI, pq_S_sJ, pq_S_sR, pq_S_sA, pz_rf_s, pz_cut_i, pz_cut_r, pz_cut_n, pz_cut_f, pz_cut_u, pz_cut_o, true_and, and_true, true_or, or_true, Option.toList_some, Option.toList_none, List.cons_append, List.nil_append, Nat.add_left_cancel_iff, Nat.left_eq_add, Nat.add_eq_left, Nat.reduceEqDiff, if_true, if_false, ite_true, ite_false, false_and, and_false, false_or, or_false, reduceIte, reduceCtorEq, and_self, z_4, z_5, z_7, z_8, z_10, z_16, z_20, z_64, not_false_eq_true]
      exact K h3 (HC_trans H1 (HC_trans (HC_note F2) (HC_HL F3))) R3
    · rw [if_neg q2] at K
      rw [if_pos (hz.mpr q2)]
      exact K h1 H1 R1
  · rw [if_neg q] at K ⊢
    rw [if_neg (fun z => z rfl)]
    exact K h HC_refl R
end
