/-! ===== the class: numberAt, pathLength ===== -/
theorem vlk_pos {x : Nat → Nat} {p : Nat} : ∀ k, DR x p (k + 1) → x p ≠ 48 → 1 ≤ vlk x p (k + 1)
  | 0, hd, h0 => by
    have := (hd 0 (by omega)).1
    show 1 ≤ 10 * 0 + (x (p + 0) - 48)
    rw [Nat.add_zero] at this ⊢
    omega
  | k + 1, hd, h0 => by
    have ih := vlk_pos k (fun i hi => hd i (by omega)) h0
    show 1 ≤ 10 * vlk x p (k + 1) + (x (p + (k + 1)) - 48)
    omega
section
variable {d : Nat} {h h' : PzH} {Q : Option Value → PzH → Prop} {r a cap : Nat} {V : List Int8}
theorem c_numberAt {r' : Option Nat} (B : BT h r a cap V) (hr : ∀ i, r' = some i → ∃ u, VL (tx V) V.length none i u) (K : ∀ v, ((∃ m, natO (tx V) r' = some m ∧ m < 1000000000 ∧ v = nI m) ∨ (natO (tx V) r' = none ∧ v < 0)) → Q (some (.int v)) h) : pz_M (d + 3) mX1_numberAt [.ref 11, .int (kyOf r')] h Q := by
  have B' := B
  obtain ⟨⟨b1, b2, b3, b4, b5⟩, W, n1, n2, n3, n4⟩ := B
  have W1 := W.1
  have w6 := W.2.2.2.2.2.1
  have w8 := W.2.2.2.2.2.2.2.1
  cases r' with
  | none =>
    have at0 : ∀ {Q : Option Value → PzH → Prop}, pz_M (d + 2) mX6_at [.ref r, .int (kyOf none)] h Q ↔ Q (some (.int (-1))) h := fun {Q} => c_atO (r' := none) W (fun i z => absurd z (by simp))
    simp only [enX1_numberAt, uX1_numberAt_0, uX1_numberAt_0o, uX1_numberAt_0f, uX1_numberAt_1, uX1_numberAt_4, uX1_numberAt_5, uX1_numberAt_8, uX1_numberAt_10, uX1_numberAt_13, uX1_numberAt_14, uX1_numberAt_15, uX1_numberAt_15o, uX1_numberAt_15f, uX1_numberAt_16, uX1_numberAt_19, uX1_numberAt_20, uX1_numberAt_21, uX1_numberAt_22, uX1_numberAt_25, uX1_numberAt_27, uX1_numberAt_30, uX1_numberAt_30o, uX1_numberAt_30f, uX1_numberAt_31, uX1_numberAt_32, uX1_numberAt_33, uX1_numberAt_34, uX1_numberAt_37, uX1_numberAt_38, uX1_numberAt_41, uX1_numberAt_41o, uX1_numberAt_41f, uX1_numberAt_42, uX1_numberAt_43, uX1_numberAt_44, uX1_numberAt_45, uX1_numberAt_48, pq_C_sI, pq_C_sJ, pq_C_sR, pq_C_sA, pq_L_sI, pq_L_sJ, pq_L_sR, pq_L_sA, pq_I_sI, pq_I_sJ, pq_I_sR, pq_I_sA, pq_J_sI, pq_J_sJ, pq_J_sR, pq_J_sA, pq_R_sI, pq_R_sJ, pq_R_sR, pq_R_sA, pq_N_sI, pq_N_sJ, pq_N_sR, pq_N_sA, pq_S_sI, pq_S_sJ, pq_S_sR, pq_S_sA, pz_rf_s, pz_cut_i, pz_cut_r, pz_cut_n, pz_cut_f, pz_cut_u, pz_cut_o, true_and, and_true, true_or, or_true, Option.toList_some, Option.toList_none, List.cons_append, List.nil_append, Nat.add_left_cancel_iff, Nat.left_eq_add, Nat.add_eq_left, Nat.reduceEqDiff, if_true, if_false, ite_true, ite_false, false_and, and_false, false_or, or_false, reduceIte, reduceCtorEq, and_self, z_4, z_5, z_7, z_8, z_10, z_16, z_20, z_64, not_false_eq_true, b1, b2, W1, at0, show ¬ (-1 : Int32) = 105 by decide]
    exact K (-1) (Or.inr ⟨rfl, by decide⟩)
  | some i =>
    obtain ⟨u, hu⟩ := hr i rfl
    have hi := tx_in (V := V) (i := i) (by have := VL_128 hu; omega)
    have at0 : ∀ {Q : Option Value → PzH → Prop}, pz_M (d + 2) mX6_at [.ref r, .int (kyOf (some i))] h Q ↔ Q (some (.int (bI (tx V i)))) h := fun {Q} => c_atO (r' := some i) W (fun j z => by have := Option.some.inj z; omega)
    have e1 : kyOf (some i) + 1 = nI (i + 1) := nI_1 ..
    have e2 : kyOf (some i) + 2 = nI (i + 2) := nI_add i 2
    by_cases q : tx V i = 105
    · have hn : nuF (tx V) i = none := by
        rcases VL_kind hu with z | z | z
        · have := z.1.2; omega
        · exact z.2.1
        · omega
      simp only [enX1_numberAt, uX1_numberAt_0, uX1_numberAt_0o, uX1_numberAt_0f, uX1_numberAt_1, uX1_numberAt_4, uX1_numberAt_5, uX1_numberAt_8, uX1_numberAt_10, uX1_numberAt_13, uX1_numberAt_14, uX1_numberAt_15, uX1_numberAt_15o, uX1_numberAt_15f, uX1_numberAt_16, uX1_numberAt_19, uX1_numberAt_20, uX1_numberAt_21, uX1_numberAt_22, uX1_numberAt_25, uX1_numberAt_27, uX1_numberAt_30, uX1_numberAt_30o, uX1_numberAt_30f, uX1_numberAt_31, uX1_numberAt_32, uX1_numberAt_33, uX1_numberAt_34, uX1_numberAt_37, uX1_numberAt_38, uX1_numberAt_41, uX1_numberAt_41o, uX1_numberAt_41f, uX1_numberAt_42, uX1_numberAt_43, uX1_numberAt_44, uX1_numberAt_45, uX1_numberAt_48, pq_C_sI, pq_C_sJ, pq_C_sR, pq_C_sA, pq_L_sI, pq_L_sJ, pq_L_sR, pq_L_sA, pq_I_sI, pq_I_sJ, pq_I_sR, pq_I_sA, pq_J_sI, pq_J_sJ, pq_J_sR, pq_J_sA, pq_R_sI, pq_R_sJ, pq_R_sR, pq_R_sA, pq_N_sI, pq_N_sJ, pq_N_sR, pq_N_sA, pq_S_sI, pq_S_sJ, pq_S_sR, pq_S_sA, pz_rf_s, pz_cut_i, pz_cut_r, pz_cut_n, pz_cut_f, pz_cut_u, pz_cut_o, true_and, and_true, true_or, or_true, Option.toList_some, Option.toList_none, List.cons_append, List.nil_append, Nat.add_left_cancel_iff, Nat.left_eq_add, Nat.add_eq_left, Nat.reduceEqDiff, if_true, if_false, ite_true, ite_false, false_and, and_false, false_or, or_false, reduceIte, reduceCtorEq, and_self, z_4, z_5, z_7, z_8, z_10, z_16, z_20, z_64, not_false_eq_true, b1, b2, W1, at0, show bI (tx V i) = 105 by rw [q]; rfl, e1, c_bAt W (show i + 1 < 2 ^ 31 by omega)]
      by_cases q1 : tx V (i + 1) = 45
      · rw [if_neg (show ¬ ¬ bI (tx V (i + 1)) = 45 from fun z => z (by rw [q1]; rfl))]
        unfold nuF at hn
        by_cases q2 : tx V (i + 2) = 48
        · rw [if_pos ⟨q1, q2⟩] at hn; exact absurd hn (by simp)
        · rw [if_neg (fun z => q2 z.2)] at hn
          have eq : nuQ (tx V) i = i + 2 := if_pos q1
          rw [eq] at hn
          by_cases q3 : dgo (tx V) (i + 2) 9 101 = true
          · obtain ⟨s1, s2, s3, s4⟩ := dgo_SK (by decide) q3
            have dc : ∀ {Q : Option Value → PzH → Prop}, pz_M (d + 2) mX1_decimal [.ref 11, .int (nI (i + 2))] h Q ↔ Q (some (.int (nI (vlk (tx V) (i + 2) (dgq (tx V) (i + 2) 9 - (i + 2)))))) h := fun {Q} => by
              refine c_decimal B' (by omega) s3 (Or.inr ?_) (by omega)
              rw [show i + 2 + (dgq (tx V) (i + 2) 9 - (i + 2)) = dgq (tx V) (i + 2) 9 by omega, s4]
              decide
            simp only [enX1_numberAt, uX1_numberAt_0, uX1_numberAt_0o, uX1_numberAt_0f, uX1_numberAt_1, uX1_numberAt_4, uX1_numberAt_5, uX1_numberAt_8, uX1_numberAt_10, uX1_numberAt_13, uX1_numberAt_14, uX1_numberAt_15, uX1_numberAt_15o, uX1_numberAt_15f, uX1_numberAt_16, uX1_numberAt_19, uX1_numberAt_20, uX1_numberAt_21, uX1_numberAt_22, uX1_numberAt_25, uX1_numberAt_27, uX1_numberAt_30, uX1_numberAt_30o, uX1_numberAt_30f, uX1_numberAt_31, uX1_numberAt_32, uX1_numberAt_33, uX1_numberAt_34, uX1_numberAt_37, uX1_numberAt_38, uX1_numberAt_41, uX1_numberAt_41o, uX1_numberAt_41f, uX1_numberAt_42, uX1_numberAt_43, uX1_numberAt_44, uX1_numberAt_45, uX1_numberAt_48, pq_C_sI, pq_C_sJ, pq_C_sR, pq_C_sA, pq_L_sI, pq_L_sJ, pq_L_sR, pq_L_sA, pq_I_sI, pq_I_sJ, pq_I_sR, pq_I_sA, pq_J_sI, pq_J_sJ, pq_J_sR, pq_J_sA, pq_R_sI, pq_R_sJ, pq_R_sR, pq_R_sA, pq_N_sI, pq_N_sJ, pq_N_sR, pq_N_sA, pq_S_sI, pq_S_sJ, pq_S_sR, pq_S_sA, pz_rf_s, pz_cut_i, pz_cut_r, pz_cut_n, pz_cut_f, pz_cut_u, pz_cut_o, true_and, and_true, true_or, or_true, Option.toList_some, Option.toList_none, List.cons_append, List.nil_append, Nat.add_left_cancel_iff, Nat.left_eq_add, Nat.add_eq_left, Nat.reduceEqDiff, if_true, if_false, ite_true, ite_false, false_and, and_false, false_or, or_false, reduceIte, reduceCtorEq, and_self, z_4, z_5, z_7, z_8, z_10, z_16, z_20, z_64, not_false_eq_true, b1, e2, dc]
            refine K _ (Or.inr ⟨?_, ?_⟩)
            · rw [natO_s, if_neg (fun z => z.2 q1)]
            · have vp : 1 ≤ vlk (tx V) (i + 2) (dgq (tx V) (i + 2) 9 - (i + 2)) := by
                have := vlk_pos (x := tx V) (p := i + 2) (dgq (tx V) (i + 2) 9 - (i + 2) - 1) (by rw [show dgq (tx V) (i + 2) 9 - (i + 2) - 1 + 1 = dgq (tx V) (i + 2) 9 - (i + 2) by omega]; exact s3) q2
                rwa [show dgq (tx V) (i + 2) 9 - (i + 2) - 1 + 1 = dgq (tx V) (i + 2) 9 - (i + 2) by omega] at this
              have vl := vlk_lt s3
              have v9 := pow_9 (k := dgq (tx V) (i + 2) 9 - (i + 2)) (by omega)
              generalize vlk (tx V) (i + 2) (dgq (tx V) (i + 2) 9 - (i + 2)) = m at vp vl
              rw [Int32.lt_iff_toInt_lt, Int32.toInt_neg, nI_toInt (by omega)]
              have e0 : (0 : Int32).toInt = 0 := by decide
              rw [e0, Int.bmod_eq_of_le (by omega) (by omega)]
              omega
          · rw [if_neg q3] at hn; exact absurd hn (by simp)
      · rw [if_pos (show ¬ bI (tx V (i + 1)) = 45 from fun z => q1 ((bI_eq tx_le (k := 45) (by decide)).mp z))]
        obtain ⟨s1, s2, s3⟩ := nu_dr q1 hn
        obtain ⟨_, m2, m3⟩ := nuF_e q hn
        have dc : ∀ {Q : Option Value → PzH → Prop}, pz_M (d + 2) mX1_decimal [.ref 11, .int (nI (i + 1))] h Q ↔ Q (some (.int (nI (vlk (tx V) (i + 1) (nuEnd (tx V) i - 1 - (i + 1)))))) h := fun {Q} => by
          refine c_decimal B' (by omega) s3 (Or.inr ?_) (by omega)
          rw [show i + 1 + (nuEnd (tx V) i - 1 - (i + 1)) = nuEnd (tx V) i - 1 by omega, m2]
          decide
        simp only [enX1_numberAt, uX1_numberAt_0, uX1_numberAt_0o, uX1_numberAt_0f, uX1_numberAt_1, uX1_numberAt_4, uX1_numberAt_5, uX1_numberAt_8, uX1_numberAt_10, uX1_numberAt_13, uX1_numberAt_14, uX1_numberAt_15, uX1_numberAt_15o, uX1_numberAt_15f, uX1_numberAt_16, uX1_numberAt_19, uX1_numberAt_20, uX1_numberAt_21, uX1_numberAt_22, uX1_numberAt_25, uX1_numberAt_27, uX1_numberAt_30, uX1_numberAt_30o, uX1_numberAt_30f, uX1_numberAt_31, uX1_numberAt_32, uX1_numberAt_33, uX1_numberAt_34, uX1_numberAt_37, uX1_numberAt_38, uX1_numberAt_41, uX1_numberAt_41o, uX1_numberAt_41f, uX1_numberAt_42, uX1_numberAt_43, uX1_numberAt_44, uX1_numberAt_45, uX1_numberAt_48, pq_C_sI, pq_C_sJ, pq_C_sR, pq_C_sA, pq_L_sI, pq_L_sJ, pq_L_sR, pq_L_sA, pq_I_sI, pq_I_sJ, pq_I_sR, pq_I_sA, pq_J_sI, pq_J_sJ, pq_J_sR, pq_J_sA, pq_R_sI, pq_R_sJ, pq_R_sR, pq_R_sA, pq_N_sI, pq_N_sJ, pq_N_sR, pq_N_sA, pq_S_sI, pq_S_sJ, pq_S_sR, pq_S_sA, pz_rf_s, pz_cut_i, pz_cut_r, pz_cut_n, pz_cut_f, pz_cut_u, pz_cut_o, true_and, and_true, true_or, or_true, Option.toList_some, Option.toList_none, List.cons_append, List.nil_append, Nat.add_left_cancel_iff, Nat.left_eq_add, Nat.add_eq_left, Nat.reduceEqDiff, if_true, if_false, ite_true, ite_false, false_and, and_false, false_or, or_false, reduceIte, reduceCtorEq, and_self, z_4, z_5, z_7, z_8, z_10, z_16, z_20, z_64, not_false_eq_true, b1, e1, dc]
        have vl := vlk_lt s3
        have v9 := pow_9 (k := nuEnd (tx V) i - 1 - (i + 1)) (by omega)
        exact K _ (Or.inl ⟨_, by rw [natO_s, if_pos ⟨q, q1⟩], by omega, rfl⟩)
    · simp only [enX1_numberAt, uX1_numberAt_0, uX1_numberAt_0o, uX1_numberAt_0f, uX1_numberAt_1, uX1_numberAt_4, uX1_numberAt_5, uX1_numberAt_8, uX1_numberAt_10, uX1_numberAt_13, uX1_numberAt_14, uX1_numberAt_15, uX1_numberAt_15o, uX1_numberAt_15f, uX1_numberAt_16, uX1_numberAt_19, uX1_numberAt_20, uX1_numberAt_21, uX1_numberAt_22, uX1_numberAt_25, uX1_numberAt_27, uX1_numberAt_30, uX1_numberAt_30o, uX1_numberAt_30f, uX1_numberAt_31, uX1_numberAt_32, uX1_numberAt_33, uX1_numberAt_34, uX1_numberAt_37, uX1_numberAt_38, uX1_numberAt_41, uX1_numberAt_41o, uX1_numberAt_41f, uX1_numberAt_42, uX1_numberAt_43, uX1_numberAt_44, uX1_numberAt_45, uX1_numberAt_48, pq_C_sI, pq_C_sJ, pq_C_sR, pq_C_sA, pq_L_sI, pq_L_sJ, pq_L_sR, pq_L_sA, pq_I_sI, pq_I_sJ, pq_I_sR, pq_I_sA, pq_J_sI, pq_J_sJ, pq_J_sR, pq_J_sA, pq_R_sI, pq_R_sJ, pq_R_sR, pq_R_sA, pq_N_sI, pq_N_sJ, pq_N_sR, pq_N_sA, pq_S_sI, pq_S_sJ, pq_S_sR, pq_S_sA, pz_rf_s, pz_cut_i, pz_cut_r, pz_cut_n, pz_cut_f, pz_cut_u, pz_cut_o, true_and, and_true, true_or, or_true, Option.toList_some, Option.toList_none, List.cons_append, List.nil_append, Nat.add_left_cancel_iff, Nat.left_eq_add, Nat.add_eq_left, Nat.reduceEqDiff, if_true, if_false, ite_true, ite_false, false_and, and_false, false_or, or_false, reduceIte, reduceCtorEq, and_self, z_4, z_5, z_7, z_8, z_10, z_16, z_20, z_64, not_false_eq_true, b1, b2, W1, at0]
      rw [if_neg (show ¬ bI (tx V i) = 105 from fun z => q ((bI_eq tx_le (k := 105) (by decide)).mp z))]
      exact K (-1) (Or.inr ⟨by rw [natO_s, if_neg (fun z => q z.1)], by decide⟩)
/-- the loader, its draft -/
def LD (h : PzH) (dr : Nat) : Prop := (pz_C h 10 = 4 ∧ pz_R h 10 0 = some 7 ∧ pz_R h 10 1 = some 11 ∧ pz_R h 10 2 = some dr) ∧ TOR h dr ∧ (dr = 15 ∨ dr = 28)
theorem LD_fr {cs : List Nat} {dr : Nat} (L : LD h dr) (f : HF cs h h') : LD h' dr := by
  unfold LD TOR at L ⊢
  rw [f.1, f.2.1, f.2.2.1]
  exact L
def plF (c : Nat) : Option Nat → Option Nat
  | some j => if 1 ≤ c + j ∧ c + j ≤ 8 then some (c + j) else none
  | none => none
theorem tl_nm {q u : Nat} (hu : VL (tx V) V.length none q u) : (1 ≤ tlO V (some q) ∧ tlO V (some q) ≤ 60) ↔ isNm (tx V) (some q) = true := by
  have et : tlO V (some q) = if dg (tx V q) then nI (stN (tx V) q) else -1 := rfl
  rw [et, isNm_s, Bool.and_eq_true, Bool.and_eq_true, decide_eq_true_eq, decide_eq_true_eq, decide_eq_true_eq]
  by_cases z : dg (tx V q)
  · have hs : stF (tx V) V.length q = none := by
      rcases VL_kind hu with y | y | y
      · exact y.2.1
      · have := z.2; omega
      · have := z.2; omega
    have sN := (stF_SK hs).2.2
    rw [if_pos z]
    have e1 := nI_leI (a := 1) (b := stN (tx V) q) (by decide) (by omega)
    have e2 := nI_leI (a := stN (tx V) q) (b := 60) (by omega) (by decide)
    exact ⟨fun y => ⟨z, e1.mp y.1, e2.mp y.2⟩, fun y => ⟨e1.mpr y.2.1, e2.mpr y.2.2⟩⟩
  · rw [if_neg z]
    exact ⟨fun y => absurd y.1 (by decide), fun y => absurd y.1 z⟩
theorem pl_l (B : BT h r a cap V) {dr : Nat} (L : LD h dr) {v1 : Int32} : ∀ (m q F cn e : Nat), V.length - q ≤ m → DE h V (some (false, none)) q e → cn ≤ 8 → 2 * (V.length - q) + 2 ≤ F → (wp (d + 4) mX4_pathLength 21 [.ref 10, .int v1, .int (nI q), .int (nI cn)] [] h Q ↔ Q (some (.int (kyOf (plF cn (pcnt (tx V) V.length F q))))) h) := by
  have B' := B
  obtain ⟨⟨b1, b2, b3, b4, b5⟩, W, n1, n2, n3, n4⟩ := B
  obtain ⟨⟨l1, l2, l3, l4⟩, _, _⟩ := L
  have w6 := W.2.2.2.2.2.1
  have w8 := W.2.2.2.2.2.2.2.1
  intro m
  induction m with
  | zero =>
    intro q F cn e hm HD
    have := DE_lt HD
    omega
  | succ m ih =>
    intro q F cn e hm HD hcn hF
    have ql := DE_lt HD
    obtain ⟨F, rfl⟩ : ∃ F', F = F' + 1 := ⟨F - 1, by omega⟩
    have ik : ∀ {Q : Option Value → PzH → Prop}, pz_M (d + 4) mX1_isKind [.ref 11, .int (nI q), .int 101] h Q ↔ Q (some (.int (if decide (tx V q = 101) = true then 1 else 0))) h := fun {Q} => c_isKind (r' := some q) (k := 101) B' (fun i z => by have := Option.some.inj z; omega) (by decide)
    rw [pcnt_s]
    -- at the loop's end
    have fin : wp (d + 4) mX4_pathLength 59 [.ref 10, .int v1, .int (nI q), .int (nI cn)] [] h Q ↔ Q (some (.int (kyOf (if tx V q = 101 ∧ 1 ≤ cn then some cn else none)))) h := by
      simp only [enX4_pathLength, uX4_pathLength_0, uX4_pathLength_0o, uX4_pathLength_0f, uX4_pathLength_1, uX4_pathLength_4, uX4_pathLength_5, uX4_pathLength_7, uX4_pathLength_10, uX4_pathLength_13, uX4_pathLength_14, uX4_pathLength_15, uX4_pathLength_16, uX4_pathLength_17, uX4_pathLength_18, uX4_pathLength_19, uX4_pathLength_20, uX4_pathLength_22, uX4_pathLength_24, uX4_pathLength_27, uX4_pathLength_27o, uX4_pathLength_27f, uX4_pathLength_28, uX4_pathLength_31, uX4_pathLength_32, uX4_pathLength_35, uX4_pathLength_36, uX4_pathLength_38, uX4_pathLength_41, uX4_pathLength_44, uX4_pathLength_44o, uX4_pathLength_44f, uX4_pathLength_45, uX4_pathLength_48, uX4_pathLength_49, uX4_pathLength_52, uX4_pathLength_53, uX4_pathLength_56, uX4_pathLength_59, uX4_pathLength_60, uX4_pathLength_63, uX4_pathLength_63o, uX4_pathLength_63f, uX4_pathLength_64, uX4_pathLength_67, uX4_pathLength_68, uX4_pathLength_70, uX4_pathLength_73, uX4_pathLength_76, uX4_pathLength_77, uX4_pathLength_80, uX4_pathLength_81, pq_C_sI, pq_C_sJ, pq_C_sR, pq_C_sA, pq_L_sI, pq_L_sJ, pq_L_sR, pq_L_sA, pq_I_sI, pq_I_sJ, pq_I_sR, pq_I_sA, pq_J_sI, pq_J_sJ, pq_J_sR, pq_J_sA, pq_R_sI, pq_R_sJ, pq_R_sR, pq_R_sA, pq_N_sI, pq_N_sJ, pq_N_sR, pq_N_sA, pq_S_sI, pq_S_sJ, pq_S_sR, pq_S_sA, pz_rf_s, pz_cut_i, pz_cut_r, pz_cut_n, pz_cut_f, pz_cut_u, pz_cut_o, true_and, and_true, true_or, or_true, Option.toList_some, Option.toList_none, List.cons_append, List.nil_append, Nat.add_left_cancel_iff, Nat.left_eq_add, Nat.add_eq_left, Nat.reduceEqDiff, if_true, if_false, ite_true, ite_false, false_and, and_false, false_or, or_false, reduceIte, reduceCtorEq, and_self, z_4, z_5, z_7, z_8, z_10, z_16, z_20, z_64, not_false_eq_true, l1, l3, b1, ik]
      by_cases c0 : cn = 0
      · rw [if_pos (show nI cn ≤ 0 by rw [c0]; decide), if_neg (fun z => by omega)]
        exact Iff.rfl
      · rw [if_neg (show ¬ nI cn ≤ 0 from nI_nle (by omega) (by omega))]
        by_cases h1 : tx V q = 101
        · rw [decide_eq_true h1, if_pos rfl, if_neg (show ¬ (1 : Int32) = 0 by decide), if_pos ⟨h1, by omega⟩]
          exact Iff.rfl
        · rw [decide_eq_false h1, if_neg (show ¬ (false = true) by decide), if_pos rfl, if_neg (fun z => h1 z.1)]
          exact Iff.rfl
    by_cases h1 : tx V q = 101
    · have tl : ∀ {Q : Option Value → PzH → Prop}, pz_M (d + 4) mX1_textLength [.ref 11, .int (nI q)] h Q ↔ Q (some (.int (-1))) h := fun {Q} => by
        have W1 := W.1
        have nd : ¬ dg (tx V q) := by rw [h1]; decide
        simp only [enX1_textLength, uX1_textLength_0, uX1_textLength_0o, uX1_textLength_0f, uX1_textLength_1, uX1_textLength_4, uX1_textLength_5, uX1_textLength_8, uX1_textLength_11, uX1_textLength_14, uX1_textLength_14o, uX1_textLength_14f, uX1_textLength_15, uX1_textLength_16, uX1_textLength_19, uX1_textLength_22, uX1_textLength_23, pq_C_sI, pq_C_sJ, pq_C_sR, pq_C_sA, pq_L_sI, pq_L_sJ, pq_L_sR, pq_L_sA, pq_I_sI, pq_I_sJ, pq_I_sR, pq_I_sA, pq_J_sI, pq_J_sJ, pq_J_sR, pq_J_sA, pq_R_sI, pq_R_sJ, pq_R_sR, pq_R_sA, pq_N_sI, pq_N_sJ, pq_N_sR, pq_N_sA, pq_S_sI, pq_S_sJ, pq_S_sR, pq_S_sA, pz_rf_s, pz_cut_i, pz_cut_r, pz_cut_n, pz_cut_f, pz_cut_u, pz_cut_o, true_and, and_true, true_or, or_true, Option.toList_some, Option.toList_none, List.cons_append, List.nil_append, Nat.add_left_cancel_iff, Nat.left_eq_add, Nat.add_eq_left, Nat.reduceEqDiff, if_true, if_false, ite_true, ite_false, false_and, and_false, false_or, or_false, reduceIte, reduceCtorEq, and_self, z_4, z_5, z_7, z_8, z_10, z_16, z_20, z_64, not_false_eq_true, b1, b2, W1, c_bAt W (show q < 2 ^ 31 by omega), c_dig0 nd tx_le]
      rw [if_pos h1, uX4_pathLength_21]
      have e : plF cn (some 0) = if tx V q = 101 ∧ 1 ≤ cn then some cn else none := by
        show (if 1 ≤ cn + 0 ∧ cn + 0 ≤ 8 then some (cn + 0) else none) = _
        rw [Nat.add_zero]
        by_cases z : 1 ≤ cn
        · rw [if_pos ⟨z, hcn⟩, if_pos ⟨h1, z⟩]
        · rw [if_neg (fun y => z y.1), if_neg (fun y => z y.2)]
      rw [e, ← fin]
      simp only [enX4_pathLength, uX4_pathLength_0, uX4_pathLength_0o, uX4_pathLength_0f, uX4_pathLength_1, uX4_pathLength_4, uX4_pathLength_5, uX4_pathLength_7, uX4_pathLength_10, uX4_pathLength_13, uX4_pathLength_14, uX4_pathLength_15, uX4_pathLength_16, uX4_pathLength_17, uX4_pathLength_18, uX4_pathLength_19, uX4_pathLength_20, uX4_pathLength_22, uX4_pathLength_24, uX4_pathLength_27, uX4_pathLength_27o, uX4_pathLength_27f, uX4_pathLength_28, uX4_pathLength_31, uX4_pathLength_32, uX4_pathLength_35, uX4_pathLength_36, uX4_pathLength_38, uX4_pathLength_41, uX4_pathLength_44, uX4_pathLength_44o, uX4_pathLength_44f, uX4_pathLength_45, uX4_pathLength_48, uX4_pathLength_49, uX4_pathLength_52, uX4_pathLength_53, uX4_pathLength_56, uX4_pathLength_60, uX4_pathLength_63, uX4_pathLength_63o, uX4_pathLength_63f, uX4_pathLength_64, uX4_pathLength_67, uX4_pathLength_68, uX4_pathLength_70, uX4_pathLength_73, uX4_pathLength_76, uX4_pathLength_77, uX4_pathLength_80, uX4_pathLength_81, pq_C_sI, pq_C_sJ, pq_C_sR, pq_C_sA, pq_L_sI, pq_L_sJ, pq_L_sR, pq_L_sA, pq_I_sI, pq_I_sJ, pq_I_sR, pq_I_sA, pq_J_sI, pq_J_sJ, pq_J_sR, pq_J_sA, pq_R_sI, pq_R_sJ, pq_R_sR, pq_R_sA, pq_N_sI, pq_N_sJ, pq_N_sR, pq_N_sA, pq_S_sI, pq_S_sJ, pq_S_sR, pq_S_sA, pz_rf_s, pz_cut_i, pz_cut_r, pz_cut_n, pz_cut_f, pz_cut_u, pz_cut_o, true_and, and_true, true_or, or_true, Option.toList_some, Option.toList_none, List.cons_append, List.nil_append, Nat.add_left_cancel_iff, Nat.left_eq_add, Nat.add_eq_left, Nat.reduceEqDiff, if_true, if_false, ite_true, ite_false, false_and, and_false, false_or, or_false, reduceIte, reduceCtorEq, and_self, z_4, z_5, z_7, z_8, z_10, z_16, z_20, z_64, not_false_eq_true, l1, l3, b1, tl, c_isWithin]
      rw [if_neg (show ¬ (1 ≤ (-1 : Int32) ∧ (-1 : Int32) ≤ 60) by decide), if_pos rfl, ite_self]
    · rw [if_neg h1]
      obtain ⟨u, HV, HD2⟩ := DE_item HD h1
      have vl := VE_lt HV
      have tl : ∀ {Q : Option Value → PzH → Prop}, pz_M (d + 4) mX1_textLength [.ref 11, .int (nI q)] h Q ↔ Q (some (.int (tlO V (some q)))) h := fun {Q} => c_textLength (r' := some q) B' (fun i z => by have e := Option.some.inj z; subst e; exact ⟨_, VE_VL HV⟩)
      have eo : ∀ {Q : Option Value → PzH → Prop}, pz_M (d + 4) mX1_endOf [.ref 11, .int (nI q)] h Q ↔ Q (some (.int (nI u))) h := fun {Q} => by
        have := c_endOf (d := d + 3) (Q := Q) B' (p := q) (by omega)
        rw [VE_E HV] at this
        exact this
      have nm := tl_nm (VE_VL HV)
      have fin0 : wp (d + 4) mX4_pathLength 59 [.ref 10, .int v1, .int (nI q), .int (nI cn)] [] h Q ↔ Q (some (.int (-1))) h := by
        rw [fin, if_neg (fun z => h1 z.1)]
        exact Iff.rfl
      rw [uX4_pathLength_21]
      simp only [enX4_pathLength, uX4_pathLength_0, uX4_pathLength_0o, uX4_pathLength_0f, uX4_pathLength_1, uX4_pathLength_4, uX4_pathLength_5, uX4_pathLength_7, uX4_pathLength_10, uX4_pathLength_13, uX4_pathLength_14, uX4_pathLength_15, uX4_pathLength_16, uX4_pathLength_17, uX4_pathLength_18, uX4_pathLength_19, uX4_pathLength_20, uX4_pathLength_22, uX4_pathLength_24, uX4_pathLength_27, uX4_pathLength_27o, uX4_pathLength_27f, uX4_pathLength_28, uX4_pathLength_31, uX4_pathLength_32, uX4_pathLength_35, uX4_pathLength_36, uX4_pathLength_38, uX4_pathLength_41, uX4_pathLength_44, uX4_pathLength_44o, uX4_pathLength_44f, uX4_pathLength_45, uX4_pathLength_48, uX4_pathLength_49, uX4_pathLength_52, uX4_pathLength_53, uX4_pathLength_56, uX4_pathLength_60, uX4_pathLength_63, uX4_pathLength_63o, uX4_pathLength_63f, uX4_pathLength_64, uX4_pathLength_67, uX4_pathLength_68, uX4_pathLength_70, uX4_pathLength_73, uX4_pathLength_76, uX4_pathLength_77, uX4_pathLength_80, uX4_pathLength_81, pq_C_sI, pq_C_sJ, pq_C_sR, pq_C_sA, pq_L_sI, pq_L_sJ, pq_L_sR, pq_L_sA, pq_I_sI, pq_I_sJ, pq_I_sR, pq_I_sA, pq_J_sI, pq_J_sJ, pq_J_sR, pq_J_sA, pq_R_sI, pq_R_sJ, pq_R_sR, pq_R_sA, pq_N_sI, pq_N_sJ, pq_N_sR, pq_N_sA, pq_S_sI, pq_S_sJ, pq_S_sR, pq_S_sA, pz_rf_s, pz_cut_i, pz_cut_r, pz_cut_n, pz_cut_f, pz_cut_u, pz_cut_o, true_and, and_true, true_or, or_true, Option.toList_some, Option.toList_none, List.cons_append, List.nil_append, Nat.add_left_cancel_iff, Nat.left_eq_add, Nat.add_eq_left, Nat.reduceEqDiff, if_true, if_false, ite_true, ite_false, false_and, and_false, false_or, or_false, reduceIte, reduceCtorEq, and_self, z_4, z_5, z_7, z_8, z_10, z_16, z_20, z_64, not_false_eq_true, l1, l3, b1, tl, c_isWithin, eo, nI_1]
      by_cases c8 : cn = 8
      · rw [if_pos (show (8 : Int32) ≤ nI cn by rw [c8]; decide), fin0]
        have e : plF cn (if isNm (tx V) (some q) = true then (pcnt (tx V) V.length F (bhd (tx V) V.length q)).map (· + 1) else none) = none := by
          by_cases z : isNm (tx V) (some q) = true
          · rw [if_pos z]
            cases pcnt (tx V) V.length F (bhd (tx V) V.length q) with
            | none => rfl
            | some j =>
              show (if 1 ≤ cn + (j + 1) ∧ cn + (j + 1) ≤ 8 then some (cn + (j + 1)) else none) = none
              rw [if_neg (by omega)]
          · rw [if_neg z]
            rfl
        rw [e]
        exact Iff.rfl
      · rw [if_neg (show ¬ (8 : Int32) ≤ nI cn from nI_ge (b := 8) (by omega) (by decide))]
        by_cases z : isNm (tx V) (some q) = true
        · rw [if_pos (nm.mpr z), if_neg (show ¬ (1 : Int32) = 0 by decide), if_pos z, VL_bhd (VE_VL HV), ih u F (cn + 1) e (by omega) HD2 (by omega) (by omega)]
          have e2 : plF cn ((pcnt (tx V) V.length F u).map (· + 1)) = plF (cn + 1) (pcnt (tx V) V.length F u) := by
            cases pcnt (tx V) V.length F u with
            | none => rfl
            | some j =>
              show (if 1 ≤ cn + (j + 1) ∧ cn + (j + 1) ≤ 8 then some (cn + (j + 1)) else none) = (if 1 ≤ cn + 1 + j ∧ cn + 1 + j ≤ 8 then some (cn + 1 + j) else none)
              rw [show cn + (j + 1) = cn + 1 + j by omega]
          rw [e2]
        · rw [if_neg (fun y => z (nm.mp y)), if_pos rfl, if_neg z, fin0]
          exact Iff.rfl
/-- how many STRINGS a path has -/
def plO (V : List Int8) : Option Nat → Option Nat
  | some b => if tx V b = 108 then plF 0 (pcnt (tx V) V.length (2 * V.length + 1) (b + 1)) else none
  | none => none
theorem c_pathLength (B : BT h r a cap V) {dr : Nat} (L : LD h dr) {r' : Option Nat} (hr : ∀ i, r' = some i → ∃ u, VE h V i u) : pz_M (d + 5) mX4_pathLength [.ref 10, .int (kyOf r')] h Q ↔ Q (some (.int (kyOf (plO V r')))) h := by
  have B' := B
  have L' := L
  obtain ⟨⟨b1, b2, b3, b4, b5⟩, W, n1, n2, n3, n4⟩ := B
  obtain ⟨⟨l1, l2, l3, l4⟩, _, _⟩ := L
  have w6 := W.2.2.2.2.2.1
  have w8 := W.2.2.2.2.2.2.2.1
  have hlt : ∀ i, r' = some i → i < 2 ^ 31 := fun i z => by
    obtain ⟨u, hu⟩ := hr i z
    have := VE_lt hu
    omega
  have ik : ∀ {Q : Option Value → PzH → Prop}, pz_M (d + 4) mX1_isKind [.ref 11, .int (kyOf r'), .int 108] h Q ↔ Q (some (.int (if isKd V 108 r' = true then 1 else 0))) h := fun {Q} => c_isKind (k := 108) B' hlt (by decide)
  simp only [enX4_pathLength, uX4_pathLength_0, uX4_pathLength_0o, uX4_pathLength_0f, uX4_pathLength_1, uX4_pathLength_4, uX4_pathLength_5, uX4_pathLength_7, uX4_pathLength_10, uX4_pathLength_13, uX4_pathLength_14, uX4_pathLength_15, uX4_pathLength_16, uX4_pathLength_17, uX4_pathLength_18, uX4_pathLength_19, uX4_pathLength_20, uX4_pathLength_22, uX4_pathLength_24, uX4_pathLength_27, uX4_pathLength_27o, uX4_pathLength_27f, uX4_pathLength_28, uX4_pathLength_31, uX4_pathLength_32, uX4_pathLength_35, uX4_pathLength_36, uX4_pathLength_38, uX4_pathLength_41, uX4_pathLength_44, uX4_pathLength_44o, uX4_pathLength_44f, uX4_pathLength_45, uX4_pathLength_48, uX4_pathLength_49, uX4_pathLength_52, uX4_pathLength_53, uX4_pathLength_56, uX4_pathLength_59, uX4_pathLength_60, uX4_pathLength_63, uX4_pathLength_63o, uX4_pathLength_63f, uX4_pathLength_64, uX4_pathLength_67, uX4_pathLength_68, uX4_pathLength_70, uX4_pathLength_73, uX4_pathLength_76, uX4_pathLength_77, uX4_pathLength_80, uX4_pathLength_81, pq_C_sI, pq_C_sJ, pq_C_sR, pq_C_sA, pq_L_sI, pq_L_sJ, pq_L_sR, pq_L_sA, pq_I_sI, pq_I_sJ, pq_I_sR, pq_I_sA, pq_J_sI, pq_J_sJ, pq_J_sR, pq_J_sA, pq_R_sI, pq_R_sJ, pq_R_sR, pq_R_sA, pq_N_sI, pq_N_sJ, pq_N_sR, pq_N_sA, pq_S_sI, pq_S_sJ, pq_S_sR, pq_S_sA, pz_rf_s, pz_cut_i, pz_cut_r, pz_cut_n, pz_cut_f, pz_cut_u, pz_cut_o, true_and, and_true, true_or, or_true, Option.toList_some, Option.toList_none, List.cons_append, List.nil_append, Nat.add_left_cancel_iff, Nat.left_eq_add, Nat.add_eq_left, Nat.reduceEqDiff, if_true, if_false, ite_true, ite_false, false_and, and_false, false_or, or_false, reduceIte, reduceCtorEq, and_self, z_4, z_5, z_7, z_8, z_10, z_16, z_20, z_64, not_false_eq_true, l1, l3, b1, ik]
  cases r' with
  | none =>
    rw [if_neg (show ¬ isKd V 108 none = true by simp [isKd]), if_neg (fun z => z rfl)]
    exact Iff.rfl
  | some i =>
    obtain ⟨u, hu⟩ := hr i rfl
    have il := VE_lt hu
    have e2 : isKd V 108 (some i) = decide (tx V i = 108) := rfl
    have e3 : plO V (some i) = if tx V i = 108 then plF 0 (pcnt (tx V) V.length (2 * V.length + 1) (i + 1)) else none := rfl
    rw [e2, e3]
    by_cases q : tx V i = 108
    · rw [decide_eq_true q, if_pos rfl, if_pos (show ¬ (1 : Int32) = 0 by decide), if_pos q, show kyOf (some i) + 1 = nI (i + 1) from nI_1 ..]
      have HD := VE_in hu (Or.inl q)
      rw [decide_eq_false (show ¬ tx V i = 100 by omega)] at HD
      exact pl_l B' L' V.length (i + 1) (2 * V.length + 1) 0 u (by omega) HD (by omega) (by omega)
    · rw [decide_eq_false q, if_neg (show ¬ (false = true) by decide), if_neg (show ¬ ¬ (0 : Int32) = 0 from fun z => z rfl), if_neg q]
      exact Iff.rfl
end
