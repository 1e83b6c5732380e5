/-! ===== the class: Bencode, the parse whole ===== -/
section
variable {V : List Int8}
theorem pv_le : ∀ f md dp p e, pv (tx V) V.length f md dp p = .ok e → e ≤ V.length := by
  intro f
  induction f with
  | zero => intro md dp p e h; exact absurd h (by unfold pv; simp)
  | succ f ih =>
    intro md dp p e h
    have oki : ∀ a, (Except.ok a : Except Nat Nat) = .ok e → a = e := fun a z => by injection z
    match md with
    | none =>
      rw [pv_n] at h
      by_cases h1 : dg (tx V p)
      · rw [if_pos h1] at h
        cases hs : stF (tx V) V.length p with
        | none =>
          rw [hs] at h
          have := oki _ h
          have := (stEnd_gt hs).2
          omega
        | some w => rw [hs] at h; exact absurd h (by simp)
      · rw [if_neg h1] at h
        by_cases h2 : tx V p = 105
        · rw [if_pos h2] at h
          cases hs : nuF (tx V) p with
          | none =>
            rw [hs] at h
            have := oki _ h
            obtain ⟨_, n2, n3⟩ := nuF_e h2 hs
            have := tx_in (V := V) (i := nuEnd (tx V) p - 1) (by omega)
            omega
          | some w => rw [hs] at h; exact absurd h (by simp)
        · rw [if_neg h2] at h
          by_cases h3 : (tx V p = 108 ∨ tx V p = 100) ∧ dp < 8
          · rw [if_pos h3] at h
            exact ih _ _ _ _ h
          · rw [if_neg h3] at h; exact absurd h (by simp)
    | some (b, k) =>
      rw [pv_s] at h
      by_cases h1 : tx V p = 101
      · rw [if_pos h1] at h
        have := oki _ h
        have := tx_in (V := V) (i := p) (by omega)
        omega
      · rw [if_neg h1] at h
        cases b with
        | true =>
          rw [if_pos rfl] at h
          cases hs : stF (tx V) V.length p with
          | some w => rw [hs] at h; exact absurd h (by simp)
          | none =>
            rw [hs] at h
            dsimp only at h
            by_cases h2 : rsk (tx V) k p = true
            · rw [if_pos h2] at h
              cases hp : pv (tx V) V.length f none dp (stEnd (tx V) p) with
              | error w => rw [hp] at h; exact absurd h (by simp)
              | ok u =>
                rw [hp] at h
                exact ih _ _ _ _ h
            · rw [if_neg h2] at h; exact absurd h (by simp)
        | false =>
          rw [if_neg (by decide)] at h
          cases hp : pv (tx V) V.length f none dp p with
          | error w => rw [hp] at h; exact absurd h (by simp)
          | ok u =>
            rw [hp] at h
            exact ih _ _ _ _ h
def SKA (r a cap : Nat) (V : List Int8) (f : Nat) : Prop := ∀ (D dp p : Nat) (h : PzH) (Q : Option Value → PzH → Prop), 2 * (8 - dp) + 3 ≤ D → dp ≤ 8 → p ≤ V.length → 2 * (V.length - p) + 1 ≤ f → BT h r a cap V →
  (∀ h' e, pv (tx V) V.length f none dp p = .ok e → HF [11, 14] h h' → (∀ i, i < p ∨ e ≤ i → pz_I h' 14 i = pz_I h 14 i) → EN (pz_I h' 14) (tx V) V.length f none dp p → Q (some (.int (nI e))) h') →
  (∀ h' w, pv (tx V) V.length f none dp p = .error w → HF [11, 14] h h' → pz_I h' 11 2 = nI w → Q (some (.int (-1))) h') →
  pz_M (D + 1) mX1_skip [.ref 11, .int (nI p), .int (nI dp)] h Q
def SKB (r a cap : Nat) (V : List Int8) (f : Nat) : Prop := ∀ (D dp p : Nat) (b : Bool) (k : Option Nat) (fr : Int32) (cn : Nat) (v7 : Value) (h : PzH) (Q : Option Value → PzH → Prop), 2 * (8 - dp) + 4 ≤ D → dp ≤ 8 → p ≤ V.length → 2 * (V.length - p) + 2 ≤ f → cn ≤ p → BT h r a cap V → (∀ q, k = some q → stF (tx V) V.length q = none ∧ q < p ∧ pz_I h 14 q = nI (stEnd (tx V) q)) → (b = false → k = none) →
  (∀ h' e, pv (tx V) V.length f (some (b, k)) dp p = .ok e → HF [11, 14] h h' → (∀ i, i < p ∨ e ≤ i → pz_I h' 14 i = pz_I h 14 i) → EN (pz_I h' 14) (tx V) V.length f (some (b, k)) dp p → Q (some (.int (nI e))) h') →
  (∀ h' w, pv (tx V) V.length f (some (b, k)) dp p = .error w → HF [11, 14] h h' → pz_I h' 11 2 = nI w → Q (some (.int (-1))) h') →
  wp D mX1_skipInside 9 [.ref 11, .int fr, .int (nI dp), .int (if b = true then 1 else 0), .int (nI p), .int (kyOf k), .int (nI cn), v7] [] h Q
theorem nm1 {k : Nat} (hk : k < 2 ^ 31) : ¬ nI k = -1 := fun z => by
  have z1 := congrArg Int32.toInt z
  rw [nI_toInt hk] at z1
  have : (-1 : Int32).toInt = -1 := by decide
  omega
theorem ska_s {r a cap f : Nat} (hB : SKB r a cap V f) : SKA r a cap V (f + 1) := by
  intro D dp p h Q hD hdp hp hf B K1 K0
  have B' := B
  obtain ⟨⟨b1, b2, b3, b4, b5⟩, W, n1, n2, n3, n4⟩ := B
  have W1 := W.1
  have w6 := W.2.2.2.2.2.1
  have w8 := W.2.2.2.2.2.2.2.1
  obtain ⟨D, rfl⟩ : ∃ D', D = D' + 3 := ⟨D - 3, by omega⟩
  have at1 : ∀ {Q : Option Value → PzH → Prop}, pz_M (D + 3) mX6_at [.ref r, .int (nI p)] h Q ↔ Q (some (.int (bI (tx V p)))) h := fun {Q} => c_bAt W (by omega)
  rw [pv_n] at K1 K0
  have f11 : ∀ w, HF [11, 14] h (pz_sI h 11 2 w) := fun w => HF_sI (by simp)
  have i11 : ∀ w, pz_I (pz_sI h 11 2 w) 11 2 = w := fun w => by rw [pq_I_sI, if_pos ⟨rfl, rfl⟩]
  by_cases h1 : dg (tx V p)
  · rw [if_pos h1] at K1 K0
    have p6 : p < 6000 := by have := tx_in (V := V) (i := p) (by have := h1.2; omega); omega
    simp only [enX1_skip, uX1_skip_0, uX1_skip_0o, uX1_skip_0f, uX1_skip_1, uX1_skip_4, uX1_skip_5, uX1_skip_8, uX1_skip_9, uX1_skip_10, uX1_skip_13, uX1_skip_16, uX1_skip_16o, uX1_skip_16f, uX1_skip_17, uX1_skip_18, uX1_skip_21, uX1_skip_22, uX1_skip_23, uX1_skip_25, uX1_skip_28, uX1_skip_28o, uX1_skip_28f, uX1_skip_29, uX1_skip_30, uX1_skip_33, uX1_skip_34, uX1_skip_35, uX1_skip_37, uX1_skip_40, uX1_skip_41, uX1_skip_43, uX1_skip_46, uX1_skip_47, uX1_skip_49, uX1_skip_52, uX1_skip_52o, uX1_skip_52f, uX1_skip_53, uX1_skip_54, uX1_skip_57, uX1_skip_58, uX1_skip_58o, uX1_skip_58f, uX1_skip_59, uX1_skip_60, uX1_skip_60o, uX1_skip_60f, uX1_skip_61, uX1_skip_62, uX1_skip_63, uX1_skip_64, uX1_skip_65, uX1_skip_66, uX1_skip_67, uX1_skip_68, uX1_skip_70, uX1_skip_73, uX1_skip_74, uX1_skip_77, uX1_skip_78, uX1_skip_81, uX1_skip_84, pq_C_sI, pq_C_sJ, pq_C_sR, pq_C_sA, pq_L_sI, pq_L_sJ, pq_L_sR, pq_L_sA, pq_I_sI, pq_I_sJ, pq_I_sR, pq_I_sA, pq_J_sI, pq_J_sJ, pq_J_sR, pq_J_sA, pq_R_sI, pq_R_sJ, pq_R_sR, pq_R_sA, pq_N_sI, pq_N_sJ, pq_N_sR, pq_N_sA, pq_S_sI, pq_S_sJ, pq_S_sR, pq_S_sA, pz_rf_s, pz_cut_i, pz_cut_r, pz_cut_n, pz_cut_f, pz_cut_u, pz_cut_o, true_and, and_true, true_or, or_true, Option.toList_some, Option.toList_none, List.cons_append, List.nil_append, Nat.add_left_cancel_iff, Nat.left_eq_add, Nat.add_eq_left, Nat.reduceEqDiff, if_true, if_false, ite_true, ite_false, false_and, and_false, false_or, or_false, reduceIte, reduceCtorEq, and_self, z_4, z_5, z_7, z_8, z_10, z_16, z_20, z_64, not_false_eq_true, b1, b2, W1, at1, c_dig1 h1, show ¬ (1 : Int32) = 0 by decide]
    rw [c_skipString B' (by omega)]
    cases hs : stF (tx V) V.length p with
    | none =>
      rw [hs] at K1 K0
      simp only [enX1_skip, uX1_skip_0, uX1_skip_0o, uX1_skip_0f, uX1_skip_1, uX1_skip_4, uX1_skip_5, uX1_skip_8, uX1_skip_9, uX1_skip_10, uX1_skip_13, uX1_skip_16, uX1_skip_16o, uX1_skip_16f, uX1_skip_17, uX1_skip_18, uX1_skip_21, uX1_skip_22, uX1_skip_23, uX1_skip_25, uX1_skip_28, uX1_skip_28o, uX1_skip_28f, uX1_skip_29, uX1_skip_30, uX1_skip_33, uX1_skip_34, uX1_skip_35, uX1_skip_37, uX1_skip_40, uX1_skip_41, uX1_skip_43, uX1_skip_46, uX1_skip_47, uX1_skip_49, uX1_skip_52, uX1_skip_52o, uX1_skip_52f, uX1_skip_53, uX1_skip_54, uX1_skip_57, uX1_skip_58, uX1_skip_58o, uX1_skip_58f, uX1_skip_59, uX1_skip_60, uX1_skip_60o, uX1_skip_60f, uX1_skip_61, uX1_skip_62, uX1_skip_63, uX1_skip_64, uX1_skip_65, uX1_skip_66, uX1_skip_67, uX1_skip_68, uX1_skip_70, uX1_skip_73, uX1_skip_74, uX1_skip_77, uX1_skip_78, uX1_skip_81, uX1_skip_84, pq_C_sI, pq_C_sJ, pq_C_sR, pq_C_sA, pq_L_sI, pq_L_sJ, pq_L_sR, pq_L_sA, pq_I_sI, pq_I_sJ, pq_I_sR, pq_I_sA, pq_J_sI, pq_J_sJ, pq_J_sR, pq_J_sA, pq_R_sI, pq_R_sJ, pq_R_sR, pq_R_sA, pq_N_sI, pq_N_sJ, pq_N_sR, pq_N_sA, pq_S_sI, pq_S_sJ, pq_S_sR, pq_S_sA, pz_rf_s, pz_cut_i, pz_cut_r, pz_cut_n, pz_cut_f, pz_cut_u, pz_cut_o, true_and, and_true, true_or, or_true, Option.toList_some, Option.toList_none, List.cons_append, List.nil_append, Nat.add_left_cancel_iff, Nat.left_eq_add, Nat.add_eq_left, Nat.reduceEqDiff, if_true, if_false, ite_true, ite_false, false_and, and_false, false_or, or_false, reduceIte, reduceCtorEq, and_self, z_4, z_5, z_7, z_8, z_10, z_16, z_20, z_64, not_false_eq_true]
      have sg := stEnd_gt hs
      refine K1 _ _ rfl (HF_sI (by simp)) (fun i hi => ?_) ?_
      · rw [pq_I_sI, if_neg (fun z => by omega)]
      · unfold EN
        refine ⟨?_, by rw [if_pos (Or.inl h1)]; trivial⟩
        have e : pvE (tx V) V.length (f + 1) none dp p = stEnd (tx V) p := pvE_ok (by rw [pv_n, if_pos h1, hs])
        rw [e, pq_I_sI, if_pos ⟨rfl, rfl⟩]
    | some w =>
      rw [hs] at K1 K0
      simp only [enX1_skip, uX1_skip_0, uX1_skip_0o, uX1_skip_0f, uX1_skip_1, uX1_skip_4, uX1_skip_5, uX1_skip_8, uX1_skip_9, uX1_skip_10, uX1_skip_13, uX1_skip_16, uX1_skip_16o, uX1_skip_16f, uX1_skip_17, uX1_skip_18, uX1_skip_21, uX1_skip_22, uX1_skip_23, uX1_skip_25, uX1_skip_28, uX1_skip_28o, uX1_skip_28f, uX1_skip_29, uX1_skip_30, uX1_skip_33, uX1_skip_34, uX1_skip_35, uX1_skip_37, uX1_skip_40, uX1_skip_41, uX1_skip_43, uX1_skip_46, uX1_skip_47, uX1_skip_49, uX1_skip_52, uX1_skip_52o, uX1_skip_52f, uX1_skip_53, uX1_skip_54, uX1_skip_57, uX1_skip_58, uX1_skip_58o, uX1_skip_58f, uX1_skip_59, uX1_skip_60, uX1_skip_60o, uX1_skip_60f, uX1_skip_61, uX1_skip_62, uX1_skip_63, uX1_skip_64, uX1_skip_65, uX1_skip_66, uX1_skip_67, uX1_skip_68, uX1_skip_70, uX1_skip_73, uX1_skip_74, uX1_skip_77, uX1_skip_78, uX1_skip_81, uX1_skip_84, pq_C_sI, pq_C_sJ, pq_C_sR, pq_C_sA, pq_L_sI, pq_L_sJ, pq_L_sR, pq_L_sA, pq_I_sI, pq_I_sJ, pq_I_sR, pq_I_sA, pq_J_sI, pq_J_sJ, pq_J_sR, pq_J_sA, pq_R_sI, pq_R_sJ, pq_R_sR, pq_R_sA, pq_N_sI, pq_N_sJ, pq_N_sR, pq_N_sA, pq_S_sI, pq_S_sJ, pq_S_sR, pq_S_sA, pz_rf_s, pz_cut_i, pz_cut_r, pz_cut_n, pz_cut_f, pz_cut_u, pz_cut_o, true_and, and_true, true_or, or_true, Option.toList_some, Option.toList_none, List.cons_append, List.nil_append, Nat.add_left_cancel_iff, Nat.left_eq_add, Nat.add_eq_left, Nat.reduceEqDiff, if_true, if_false, ite_true, ite_false, false_and, and_false, false_or, or_false, reduceIte, reduceCtorEq, and_self, z_4, z_5, z_7, z_8, z_10, z_16, z_20, z_64, not_false_eq_true]
      exact K0 _ w rfl (f11 _) (i11 _)
  · rw [if_neg h1] at K1 K0
    by_cases h2 : tx V p = 105
    · rw [if_pos h2] at K1 K0
      have p6 : p < 6000 := by have := tx_in (V := V) (i := p) (by omega); omega
      simp only [enX1_skip, uX1_skip_0, uX1_skip_0o, uX1_skip_0f, uX1_skip_1, uX1_skip_4, uX1_skip_5, uX1_skip_8, uX1_skip_9, uX1_skip_10, uX1_skip_13, uX1_skip_16, uX1_skip_16o, uX1_skip_16f, uX1_skip_17, uX1_skip_18, uX1_skip_21, uX1_skip_22, uX1_skip_23, uX1_skip_25, uX1_skip_28, uX1_skip_28o, uX1_skip_28f, uX1_skip_29, uX1_skip_30, uX1_skip_33, uX1_skip_34, uX1_skip_35, uX1_skip_37, uX1_skip_40, uX1_skip_41, uX1_skip_43, uX1_skip_46, uX1_skip_47, uX1_skip_49, uX1_skip_52, uX1_skip_52o, uX1_skip_52f, uX1_skip_53, uX1_skip_54, uX1_skip_57, uX1_skip_58, uX1_skip_58o, uX1_skip_58f, uX1_skip_59, uX1_skip_60, uX1_skip_60o, uX1_skip_60f, uX1_skip_61, uX1_skip_62, uX1_skip_63, uX1_skip_64, uX1_skip_65, uX1_skip_66, uX1_skip_67, uX1_skip_68, uX1_skip_70, uX1_skip_73, uX1_skip_74, uX1_skip_77, uX1_skip_78, uX1_skip_81, uX1_skip_84, pq_C_sI, pq_C_sJ, pq_C_sR, pq_C_sA, pq_L_sI, pq_L_sJ, pq_L_sR, pq_L_sA, pq_I_sI, pq_I_sJ, pq_I_sR, pq_I_sA, pq_J_sI, pq_J_sJ, pq_J_sR, pq_J_sA, pq_R_sI, pq_R_sJ, pq_R_sR, pq_R_sA, pq_N_sI, pq_N_sJ, pq_N_sR, pq_N_sA, pq_S_sI, pq_S_sJ, pq_S_sR, pq_S_sA, pz_rf_s, pz_cut_i, pz_cut_r, pz_cut_n, pz_cut_f, pz_cut_u, pz_cut_o, true_and, and_true, true_or, or_true, Option.toList_some, Option.toList_none, List.cons_append, List.nil_append, Nat.add_left_cancel_iff, Nat.left_eq_add, Nat.add_eq_left, Nat.reduceEqDiff, if_true, if_false, ite_true, ite_false, false_and, and_false, false_or, or_false, reduceIte, reduceCtorEq, and_self, z_4, z_5, z_7, z_8, z_10, z_16, z_20, z_64, not_false_eq_true, b1, b2, W1, at1, c_dig0 h1 tx_le]
      rw [if_neg (show ¬ ¬ bI (tx V p) = 105 from fun z => z (by rw [h2]; rfl)), c_skipNumber B' p6]
      cases hs : nuF (tx V) p with
      | none =>
        rw [hs] at K1 K0
        simp only [enX1_skip, uX1_skip_0, uX1_skip_0o, uX1_skip_0f, uX1_skip_1, uX1_skip_4, uX1_skip_5, uX1_skip_8, uX1_skip_9, uX1_skip_10, uX1_skip_13, uX1_skip_16, uX1_skip_16o, uX1_skip_16f, uX1_skip_17, uX1_skip_18, uX1_skip_21, uX1_skip_22, uX1_skip_23, uX1_skip_25, uX1_skip_28, uX1_skip_28o, uX1_skip_28f, uX1_skip_29, uX1_skip_30, uX1_skip_33, uX1_skip_34, uX1_skip_35, uX1_skip_37, uX1_skip_40, uX1_skip_41, uX1_skip_43, uX1_skip_46, uX1_skip_47, uX1_skip_49, uX1_skip_52, uX1_skip_52o, uX1_skip_52f, uX1_skip_53, uX1_skip_54, uX1_skip_57, uX1_skip_58, uX1_skip_58o, uX1_skip_58f, uX1_skip_59, uX1_skip_60, uX1_skip_60o, uX1_skip_60f, uX1_skip_61, uX1_skip_62, uX1_skip_63, uX1_skip_64, uX1_skip_65, uX1_skip_66, uX1_skip_67, uX1_skip_68, uX1_skip_70, uX1_skip_73, uX1_skip_74, uX1_skip_77, uX1_skip_78, uX1_skip_81, uX1_skip_84, pq_C_sI, pq_C_sJ, pq_C_sR, pq_C_sA, pq_L_sI, pq_L_sJ, pq_L_sR, pq_L_sA, pq_I_sI, pq_I_sJ, pq_I_sR, pq_I_sA, pq_J_sI, pq_J_sJ, pq_J_sR, pq_J_sA, pq_R_sI, pq_R_sJ, pq_R_sR, pq_R_sA, pq_N_sI, pq_N_sJ, pq_N_sR, pq_N_sA, pq_S_sI, pq_S_sJ, pq_S_sR, pq_S_sA, pz_rf_s, pz_cut_i, pz_cut_r, pz_cut_n, pz_cut_f, pz_cut_u, pz_cut_o, true_and, and_true, true_or, or_true, Option.toList_some, Option.toList_none, List.cons_append, List.nil_append, Nat.add_left_cancel_iff, Nat.left_eq_add, Nat.add_eq_left, Nat.reduceEqDiff, if_true, if_false, ite_true, ite_false, false_and, and_false, false_or, or_false, reduceIte, reduceCtorEq, and_self, z_4, z_5, z_7, z_8, z_10, z_16, z_20, z_64, not_false_eq_true]
        have sg := nuEnd_gt h2 hs
        refine K1 _ _ rfl (HF_sI (by simp)) (fun i hi => ?_) ?_
        · rw [pq_I_sI, if_neg (fun z => by omega)]
        · unfold EN
          refine ⟨?_, by rw [if_pos (Or.inr h2)]; trivial⟩
          have e : pvE (tx V) V.length (f + 1) none dp p = nuEnd (tx V) p := pvE_ok (by rw [pv_n, if_neg h1, if_pos h2, hs])
          rw [e, pq_I_sI, if_pos ⟨rfl, rfl⟩]
      | some w =>
        rw [hs] at K1 K0
        simp only [enX1_skip, uX1_skip_0, uX1_skip_0o, uX1_skip_0f, uX1_skip_1, uX1_skip_4, uX1_skip_5, uX1_skip_8, uX1_skip_9, uX1_skip_10, uX1_skip_13, uX1_skip_16, uX1_skip_16o, uX1_skip_16f, uX1_skip_17, uX1_skip_18, uX1_skip_21, uX1_skip_22, uX1_skip_23, uX1_skip_25, uX1_skip_28, uX1_skip_28o, uX1_skip_28f, uX1_skip_29, uX1_skip_30, uX1_skip_33, uX1_skip_34, uX1_skip_35, uX1_skip_37, uX1_skip_40, uX1_skip_41, uX1_skip_43, uX1_skip_46, uX1_skip_47, uX1_skip_49, uX1_skip_52, uX1_skip_52o, uX1_skip_52f, uX1_skip_53, uX1_skip_54, uX1_skip_57, uX1_skip_58, uX1_skip_58o, uX1_skip_58f, uX1_skip_59, uX1_skip_60, uX1_skip_60o, uX1_skip_60f, uX1_skip_61, uX1_skip_62, uX1_skip_63, uX1_skip_64, uX1_skip_65, uX1_skip_66, uX1_skip_67, uX1_skip_68, uX1_skip_70, uX1_skip_73, uX1_skip_74, uX1_skip_77, uX1_skip_78, uX1_skip_81, uX1_skip_84, pq_C_sI, pq_C_sJ, pq_C_sR, pq_C_sA, pq_L_sI, pq_L_sJ, pq_L_sR, pq_L_sA, pq_I_sI, pq_I_sJ, pq_I_sR, pq_I_sA, pq_J_sI, pq_J_sJ, pq_J_sR, pq_J_sA, pq_R_sI, pq_R_sJ, pq_R_sR, pq_R_sA, pq_N_sI, pq_N_sJ, pq_N_sR, pq_N_sA, pq_S_sI, pq_S_sJ, pq_S_sR, pq_S_sA, pz_rf_s, pz_cut_i, pz_cut_r, pz_cut_n, pz_cut_f, pz_cut_u, pz_cut_o, true_and, and_true, true_or, or_true, Option.toList_some, Option.toList_none, List.cons_append, List.nil_append, Nat.add_left_cancel_iff, Nat.left_eq_add, Nat.add_eq_left, Nat.reduceEqDiff, if_true, if_false, ite_true, ite_false, false_and, and_false, false_or, or_false, reduceIte, reduceCtorEq, and_self, z_4, z_5, z_7, z_8, z_10, z_16, z_20, z_64, not_false_eq_true]
        exact K0 _ w rfl (f11 _) (i11 _)
    · rw [if_neg h2] at K1 K0
      have e105 : ¬ bI (tx V p) = 105 := fun z => h2 ((bI_eq tx_le (k := 105) (by decide)).mp z)
      have bad : ¬ ((tx V p = 108 ∨ tx V p = 100) ∧ dp < 8) → Q (some (.int (-1))) (pz_sI h 11 2 (nI p)) := fun z => K0 _ p (by rw [if_neg z]) (f11 _) (i11 _)
      have l8 : nI dp < 8 ↔ dp < 8 := nI_ltI (b := 8) (by omega) (by decide)
      have good : (tx V p = 108 ∨ tx V p = 100) → dp < 8 → wp (D + 3) mX1_skip 58 [.ref 11, .int (nI p), .int (nI dp), .int (bI (tx V p))] [] h Q := by
        intro hx hd8
        have hpn := tx_in (V := V) (i := p) (by omega)
        rw [if_pos ⟨hx, hd8⟩] at K1 K0
        have main : pz_M (D + 3) mX1_skipInside [.ref 11, .int (nI (p + 1)), .int (nI (dp + 1)), .int (if decide (tx V p = 100) = true then 1 else 0)] h (fun r h2 => wp (D + 3) mX1_skip 81 [.ref 11, .int (nI p), .int (nI dp), .int (bI (tx V p))] (r.toList ++ [.int (nI p), .ref 11]) h2 Q) := by
          simp only [enX1_skipInside, uX1_skipInside_0, uX1_skipInside_1, uX1_skipInside_3, uX1_skipInside_4, uX1_skipInside_6, uX1_skipInside_7, uX1_skipInside_11, uX1_skipInside_11o, uX1_skipInside_11f, uX1_skipInside_12, uX1_skipInside_15, uX1_skipInside_18, uX1_skipInside_21, uX1_skipInside_21o, uX1_skipInside_21f, uX1_skipInside_22, uX1_skipInside_25, uX1_skipInside_27, uX1_skipInside_30, uX1_skipInside_32, uX1_skipInside_35, uX1_skipInside_36, uX1_skipInside_39, uX1_skipInside_41, uX1_skipInside_43, uX1_skipInside_43o, uX1_skipInside_43f, uX1_skipInside_44, uX1_skipInside_46, uX1_skipInside_49, uX1_skipInside_51, uX1_skipInside_53, uX1_skipInside_54, uX1_skipInside_57, uX1_skipInside_59, uX1_skipInside_60, uX1_skipInside_63, uX1_skipInside_63o, uX1_skipInside_63f, uX1_skipInside_64, uX1_skipInside_66, uX1_skipInside_68, uX1_skipInside_71, uX1_skipInside_74, uX1_skipInside_74o, uX1_skipInside_74f, uX1_skipInside_75, uX1_skipInside_77, uX1_skipInside_80, uX1_skipInside_82, uX1_skipInside_84, uX1_skipInside_86, uX1_skipInside_88, uX1_skipInside_89, uX1_skipInside_92, uX1_skipInside_92o, uX1_skipInside_92f, uX1_skipInside_93, uX1_skipInside_95, uX1_skipInside_96, uX1_skipInside_99, uX1_skipInside_101, uX1_skipInside_103, uX1_skipInside_104, uX1_skipInside_107, uX1_skipInside_108, uX1_skipInside_109, uX1_skipInside_112, uX1_skipInside_115, uX1_skipInside_117, uX1_skipInside_118, uX1_skipInside_119, pq_C_sI, pq_C_sJ, pq_C_sR, pq_C_sA, pq_L_sI, pq_L_sJ, pq_L_sR, pq_L_sA, pq_I_sI, pq_I_sJ, pq_I_sR, pq_I_sA, pq_J_sI, pq_J_sJ, pq_J_sR, pq_J_sA, pq_R_sI, pq_R_sJ, pq_R_sR, pq_R_sA, pq_N_sI, pq_N_sJ, pq_N_sR, pq_N_sA, pq_S_sI, pq_S_sJ, pq_S_sR, pq_S_sA, pz_rf_s, pz_cut_i, pz_cut_r, pz_cut_n, pz_cut_f, pz_cut_u, pz_cut_o, true_and, and_true, true_or, or_true, Option.toList_some, Option.toList_none, List.cons_append, List.nil_append, Nat.add_left_cancel_iff, Nat.left_eq_add, Nat.add_eq_left, Nat.reduceEqDiff, if_true, if_false, ite_true, ite_false, false_and, and_false, false_or, or_false, reduceIte, reduceCtorEq, and_self, z_4, z_5, z_7, z_8, z_10, z_16, z_20, z_64, not_false_eq_true]
          refine hB (D + 2) (dp + 1) (p + 1) (decide (tx V p = 100)) none (nI (p + 1)) 0 (.retAddr 0) h _ (by omega) (by omega) (by omega) (by omega) (by omega) B' (fun q z => absurd z (by simp)) (fun _ => rfl) (fun h' e he F hE hN => ?_) (fun h' w he F hw => ?_)
          · have el := pv_le _ _ _ _ _ he
            have eg := pv_gt _ _ _ _ _ he
            have b1' : pz_C h' 11 = 1 := by rw [F.1]; exact b1
            simp only [enX1_skip, uX1_skip_0, uX1_skip_0o, uX1_skip_0f, uX1_skip_1, uX1_skip_4, uX1_skip_5, uX1_skip_8, uX1_skip_9, uX1_skip_10, uX1_skip_13, uX1_skip_16, uX1_skip_16o, uX1_skip_16f, uX1_skip_17, uX1_skip_18, uX1_skip_21, uX1_skip_22, uX1_skip_23, uX1_skip_25, uX1_skip_28, uX1_skip_28o, uX1_skip_28f, uX1_skip_29, uX1_skip_30, uX1_skip_33, uX1_skip_34, uX1_skip_35, uX1_skip_37, uX1_skip_40, uX1_skip_41, uX1_skip_43, uX1_skip_46, uX1_skip_47, uX1_skip_49, uX1_skip_52, uX1_skip_52o, uX1_skip_52f, uX1_skip_53, uX1_skip_54, uX1_skip_57, uX1_skip_58, uX1_skip_58o, uX1_skip_58f, uX1_skip_59, uX1_skip_60, uX1_skip_60o, uX1_skip_60f, uX1_skip_61, uX1_skip_62, uX1_skip_63, uX1_skip_64, uX1_skip_65, uX1_skip_66, uX1_skip_67, uX1_skip_68, uX1_skip_70, uX1_skip_73, uX1_skip_74, uX1_skip_77, uX1_skip_78, uX1_skip_81, uX1_skip_84, pq_C_sI, pq_C_sJ, pq_C_sR, pq_C_sA, pq_L_sI, pq_L_sJ, pq_L_sR, pq_L_sA, pq_I_sI, pq_I_sJ, pq_I_sR, pq_I_sA, pq_J_sI, pq_J_sJ, pq_J_sR, pq_J_sA, pq_R_sI, pq_R_sJ, pq_R_sR, pq_R_sA, pq_N_sI, pq_N_sJ, pq_N_sR, pq_N_sA, pq_S_sI, pq_S_sJ, pq_S_sR, pq_S_sA, pz_rf_s, pz_cut_i, pz_cut_r, pz_cut_n, pz_cut_f, pz_cut_u, pz_cut_o, true_and, and_true, true_or, or_true, Option.toList_some, Option.toList_none, List.cons_append, List.nil_append, Nat.add_left_cancel_iff, Nat.left_eq_add, Nat.add_eq_left, Nat.reduceEqDiff, if_true, if_false, ite_true, ite_false, false_and, and_false, false_or, or_false, reduceIte, reduceCtorEq, and_self, z_4, z_5, z_7, z_8, z_10, z_16, z_20, z_64, not_false_eq_true, b1', c_ben_note (BT_fr B' F) (show p < 6000 by omega)]
            refine K1 _ e he (HF_trans F (HF_sI (by simp))) (fun i hi => ?_) ?_
            · rw [pq_I_sI, if_neg (fun z => by omega)]
              exact hE i (by omega)
            · unfold EN
              refine ⟨?_, ?_⟩
              · have e2 : pvE (tx V) V.length (f + 1) none dp p = e := pvE_ok (by rw [pv_n, if_neg h1, if_neg h2, if_pos ⟨hx, hd8⟩]; exact he)
                rw [e2, pq_I_sI, if_pos ⟨rfl, rfl⟩]
              · rw [if_neg (fun z => z.elim h1 h2)]
                exact EN_c _ _ _ _ _ he (fun i a b => by rw [pq_I_sI, if_neg (fun z => by omega)]) hN
          · have b1' : pz_C h' 11 = 1 := by rw [F.1]; exact b1
            simp only [enX1_skip, uX1_skip_0, uX1_skip_0o, uX1_skip_0f, uX1_skip_1, uX1_skip_4, uX1_skip_5, uX1_skip_8, uX1_skip_9, uX1_skip_10, uX1_skip_13, uX1_skip_16, uX1_skip_16o, uX1_skip_16f, uX1_skip_17, uX1_skip_18, uX1_skip_21, uX1_skip_22, uX1_skip_23, uX1_skip_25, uX1_skip_28, uX1_skip_28o, uX1_skip_28f, uX1_skip_29, uX1_skip_30, uX1_skip_33, uX1_skip_34, uX1_skip_35, uX1_skip_37, uX1_skip_40, uX1_skip_41, uX1_skip_43, uX1_skip_46, uX1_skip_47, uX1_skip_49, uX1_skip_52, uX1_skip_52o, uX1_skip_52f, uX1_skip_53, uX1_skip_54, uX1_skip_57, uX1_skip_58, uX1_skip_58o, uX1_skip_58f, uX1_skip_59, uX1_skip_60, uX1_skip_60o, uX1_skip_60f, uX1_skip_61, uX1_skip_62, uX1_skip_63, uX1_skip_64, uX1_skip_65, uX1_skip_66, uX1_skip_67, uX1_skip_68, uX1_skip_70, uX1_skip_73, uX1_skip_74, uX1_skip_77, uX1_skip_78, uX1_skip_81, uX1_skip_84, pq_C_sI, pq_C_sJ, pq_C_sR, pq_C_sA, pq_L_sI, pq_L_sJ, pq_L_sR, pq_L_sA, pq_I_sI, pq_I_sJ, pq_I_sR, pq_I_sA, pq_J_sI, pq_J_sJ, pq_J_sR, pq_J_sA, pq_R_sI, pq_R_sJ, pq_R_sR, pq_R_sA, pq_N_sI, pq_N_sJ, pq_N_sR, pq_N_sA, pq_S_sI, pq_S_sJ, pq_S_sR, pq_S_sA, pz_rf_s, pz_cut_i, pz_cut_r, pz_cut_n, pz_cut_f, pz_cut_u, pz_cut_o, true_and, and_true, true_or, or_true, Option.toList_some, Option.toList_none, List.cons_append, List.nil_append, Nat.add_left_cancel_iff, Nat.left_eq_add, Nat.add_eq_left, Nat.reduceEqDiff, if_true, if_false, ite_true, ite_false, false_and, and_false, false_or, or_false, reduceIte, reduceCtorEq, and_self, z_4, z_5, z_7, z_8, z_10, z_16, z_20, z_64, not_false_eq_true, b1', c_ben_note (BT_fr B' F) (show p < 6000 by omega)]
            refine K0 _ w he (HF_trans F (HF_sI (by simp))) ?_
            rw [pq_I_sI, if_neg (fun z => by omega)]
            exact hw
        by_cases h100 : tx V p = 100
        · have e100 : bI (tx V p) = 100 := by rw [h100]; rfl
          rw [decide_eq_true h100, if_pos rfl] at main
          simp only [enX1_skip, uX1_skip_0, uX1_skip_0o, uX1_skip_0f, uX1_skip_1, uX1_skip_4, uX1_skip_5, uX1_skip_8, uX1_skip_9, uX1_skip_10, uX1_skip_13, uX1_skip_16, uX1_skip_16o, uX1_skip_16f, uX1_skip_17, uX1_skip_18, uX1_skip_21, uX1_skip_22, uX1_skip_23, uX1_skip_25, uX1_skip_28, uX1_skip_28o, uX1_skip_28f, uX1_skip_29, uX1_skip_30, uX1_skip_33, uX1_skip_34, uX1_skip_35, uX1_skip_37, uX1_skip_40, uX1_skip_41, uX1_skip_43, uX1_skip_46, uX1_skip_47, uX1_skip_49, uX1_skip_52, uX1_skip_52o, uX1_skip_52f, uX1_skip_53, uX1_skip_54, uX1_skip_57, uX1_skip_58, uX1_skip_58o, uX1_skip_58f, uX1_skip_59, uX1_skip_60, uX1_skip_60o, uX1_skip_60f, uX1_skip_61, uX1_skip_62, uX1_skip_63, uX1_skip_64, uX1_skip_65, uX1_skip_66, uX1_skip_67, uX1_skip_68, uX1_skip_70, uX1_skip_73, uX1_skip_74, uX1_skip_77, uX1_skip_78, uX1_skip_81, uX1_skip_84, pq_C_sI, pq_C_sJ, pq_C_sR, pq_C_sA, pq_L_sI, pq_L_sJ, pq_L_sR, pq_L_sA, pq_I_sI, pq_I_sJ, pq_I_sR, pq_I_sA, pq_J_sI, pq_J_sJ, pq_J_sR, pq_J_sA, pq_R_sI, pq_R_sJ, pq_R_sR, pq_R_sA, pq_N_sI, pq_N_sJ, pq_N_sR, pq_N_sA, pq_S_sI, pq_S_sJ, pq_S_sR, pq_S_sA, pz_rf_s, pz_cut_i, pz_cut_r, pz_cut_n, pz_cut_f, pz_cut_u, pz_cut_o, true_and, and_true, true_or, or_true, Option.toList_some, Option.toList_none, List.cons_append, List.nil_append, Nat.add_left_cancel_iff, Nat.left_eq_add, Nat.add_eq_left, Nat.reduceEqDiff, if_true, if_false, ite_true, ite_false, false_and, and_false, false_or, or_false, reduceIte, reduceCtorEq, and_self, z_4, z_5, z_7, z_8, z_10, z_16, z_20, z_64, not_false_eq_true, b1, e100, not_true_eq_false, nI_1]
          rw [e100] at main
          exact main
        · have e100 : ¬ bI (tx V p) = 100 := fun z => h100 ((bI_eq tx_le (k := 100) (by decide)).mp z)
          rw [decide_eq_false h100, if_neg (by decide)] at main
          simp only [enX1_skip, uX1_skip_0, uX1_skip_0o, uX1_skip_0f, uX1_skip_1, uX1_skip_4, uX1_skip_5, uX1_skip_8, uX1_skip_9, uX1_skip_10, uX1_skip_13, uX1_skip_16, uX1_skip_16o, uX1_skip_16f, uX1_skip_17, uX1_skip_18, uX1_skip_21, uX1_skip_22, uX1_skip_23, uX1_skip_25, uX1_skip_28, uX1_skip_28o, uX1_skip_28f, uX1_skip_29, uX1_skip_30, uX1_skip_33, uX1_skip_34, uX1_skip_35, uX1_skip_37, uX1_skip_40, uX1_skip_41, uX1_skip_43, uX1_skip_46, uX1_skip_47, uX1_skip_49, uX1_skip_52, uX1_skip_52o, uX1_skip_52f, uX1_skip_53, uX1_skip_54, uX1_skip_57, uX1_skip_58, uX1_skip_58o, uX1_skip_58f, uX1_skip_59, uX1_skip_60, uX1_skip_60o, uX1_skip_60f, uX1_skip_61, uX1_skip_62, uX1_skip_63, uX1_skip_64, uX1_skip_65, uX1_skip_66, uX1_skip_67, uX1_skip_68, uX1_skip_70, uX1_skip_73, uX1_skip_74, uX1_skip_77, uX1_skip_78, uX1_skip_81, uX1_skip_84, pq_C_sI, pq_C_sJ, pq_C_sR, pq_C_sA, pq_L_sI, pq_L_sJ, pq_L_sR, pq_L_sA, pq_I_sI, pq_I_sJ, pq_I_sR, pq_I_sA, pq_J_sI, pq_J_sJ, pq_J_sR, pq_J_sA, pq_R_sI, pq_R_sJ, pq_R_sR, pq_R_sA, pq_N_sI, pq_N_sJ, pq_N_sR, pq_N_sA, pq_S_sI, pq_S_sJ, pq_S_sR, pq_S_sA, pz_rf_s, pz_cut_i, pz_cut_r, pz_cut_n, pz_cut_f, pz_cut_u, pz_cut_o, true_and, and_true, true_or, or_true, Option.toList_some, Option.toList_none, List.cons_append, List.nil_append, Nat.add_left_cancel_iff, Nat.left_eq_add, Nat.add_eq_left, Nat.reduceEqDiff, if_true, if_false, ite_true, ite_false, false_and, and_false, false_or, or_false, reduceIte, reduceCtorEq, and_self, z_4, z_5, z_7, z_8, z_10, z_16, z_20, z_64, not_false_eq_true, b1, e100, nI_1]
          exact main
      simp only [enX1_skip, uX1_skip_0, uX1_skip_0o, uX1_skip_0f, uX1_skip_1, uX1_skip_4, uX1_skip_5, uX1_skip_8, uX1_skip_9, uX1_skip_10, uX1_skip_13, uX1_skip_16, uX1_skip_16o, uX1_skip_16f, uX1_skip_17, uX1_skip_18, uX1_skip_21, uX1_skip_22, uX1_skip_23, uX1_skip_25, uX1_skip_28, uX1_skip_28o, uX1_skip_28f, uX1_skip_29, uX1_skip_30, uX1_skip_33, uX1_skip_34, uX1_skip_35, uX1_skip_37, uX1_skip_40, uX1_skip_41, uX1_skip_43, uX1_skip_46, uX1_skip_47, uX1_skip_49, uX1_skip_52, uX1_skip_52o, uX1_skip_52f, uX1_skip_53, uX1_skip_54, uX1_skip_57, uX1_skip_59, uX1_skip_60, uX1_skip_60o, uX1_skip_60f, uX1_skip_61, uX1_skip_62, uX1_skip_63, uX1_skip_64, uX1_skip_65, uX1_skip_66, uX1_skip_67, uX1_skip_68, uX1_skip_70, uX1_skip_73, uX1_skip_74, uX1_skip_77, uX1_skip_78, uX1_skip_81, uX1_skip_84, pq_C_sI, pq_C_sJ, pq_C_sR, pq_C_sA, pq_L_sI, pq_L_sJ, pq_L_sR, pq_L_sA, pq_I_sI, pq_I_sJ, pq_I_sR, pq_I_sA, pq_J_sI, pq_J_sJ, pq_J_sR, pq_J_sA, pq_R_sI, pq_R_sJ, pq_R_sR, pq_R_sA, pq_N_sI, pq_N_sJ, pq_N_sR, pq_N_sA, pq_S_sI, pq_S_sJ, pq_S_sR, pq_S_sA, pz_rf_s, pz_cut_i, pz_cut_r, pz_cut_n, pz_cut_f, pz_cut_u, pz_cut_o, true_and, and_true, true_or, or_true, Option.toList_some, Option.toList_none, List.cons_append, List.nil_append, Nat.add_left_cancel_iff, Nat.left_eq_add, Nat.add_eq_left, Nat.reduceEqDiff, if_true, if_false, ite_true, ite_false, false_and, and_false, false_or, or_false, reduceIte, reduceCtorEq, and_self, z_4, z_5, z_7, z_8, z_10, z_16, z_20, z_64, not_false_eq_true, b1, b2, W1, at1, c_dig0 h1 tx_le, e105, c_faultAt b1]
      by_cases h108 : tx V p = 108
      · rw [if_pos (show bI (tx V p) = 108 by rw [h108]; rfl)]
        by_cases hd8 : dp < 8
        · rw [if_pos (l8.mpr hd8)]
          exact good (Or.inl h108) hd8
        · rw [if_neg (fun z => hd8 (l8.mp z))]
          exact bad (fun z => hd8 z.2)
      · rw [if_neg (show ¬ bI (tx V p) = 108 from fun z => h108 ((bI_eq tx_le (k := 108) (by decide)).mp z))]
        by_cases h100 : tx V p = 100
        · rw [if_neg (show ¬ ¬ bI (tx V p) = 100 from fun z => z (by rw [h100]; rfl))]
          by_cases hd8 : dp < 8
          · rw [if_pos (l8.mpr hd8)]
            exact good (Or.inr h100) hd8
          · rw [if_neg (fun z => hd8 (l8.mp z))]
            exact bad (fun z => hd8 z.2)
        · rw [if_pos (show ¬ bI (tx V p) = 100 from fun z => h100 ((bI_eq tx_le (k := 100) (by decide)).mp z))]
          exact bad (fun z => z.1.elim h108 h100)
theorem skb_s {r a cap f : Nat} (hA : SKA r a cap V f) (hB : SKB r a cap V f) : SKB r a cap V (f + 1) := by
  intro D dp p b k fr cn v7 h Q hD hdp hp hf hcn B hk hbk K1 K0
  have B' := B
  obtain ⟨⟨b1, b2, b3, b4, b5⟩, W, n1, n2, n3, n4⟩ := B
  have W1 := W.1
  have w6 := W.2.2.2.2.2.1
  have w8 := W.2.2.2.2.2.2.2.1
  obtain ⟨D, rfl⟩ : ∃ D', D = D' + 3 := ⟨D - 3, by omega⟩
  have at1 : ∀ {Q : Option Value → PzH → Prop}, pz_M (D + 3) mX6_at [.ref r, .int (nI p)] h Q ↔ Q (some (.int (bI (tx V p)))) h := fun {Q} => c_bAt W (by omega)
  have sz1 : ∀ {Q : Option Value → PzH → Prop}, pz_M (D + 3) mX6_size [.ref r] h Q ↔ Q (some (.int (nI V.length))) h := fun {Q} => c_size W
  have ncn : ¬ nI V.length < nI cn := nI_nlt (by omega) (by omega)
  rw [pv_s] at K1 K0
  rw [uX1_skipInside_9]
  by_cases h1 : tx V p = 101
  · rw [if_pos h1] at K1 K0
    simp only [enX1_skipInside, uX1_skipInside_0, uX1_skipInside_1, uX1_skipInside_3, uX1_skipInside_4, uX1_skipInside_6, uX1_skipInside_7, uX1_skipInside_11, uX1_skipInside_11o, uX1_skipInside_11f, uX1_skipInside_12, uX1_skipInside_15, uX1_skipInside_18, uX1_skipInside_21, uX1_skipInside_21o, uX1_skipInside_21f, uX1_skipInside_22, uX1_skipInside_25, uX1_skipInside_27, uX1_skipInside_30, uX1_skipInside_32, uX1_skipInside_35, uX1_skipInside_36, uX1_skipInside_39, uX1_skipInside_41, uX1_skipInside_43, uX1_skipInside_43o, uX1_skipInside_43f, uX1_skipInside_44, uX1_skipInside_46, uX1_skipInside_49, uX1_skipInside_51, uX1_skipInside_53, uX1_skipInside_54, uX1_skipInside_57, uX1_skipInside_59, uX1_skipInside_60, uX1_skipInside_63, uX1_skipInside_63o, uX1_skipInside_63f, uX1_skipInside_64, uX1_skipInside_66, uX1_skipInside_68, uX1_skipInside_71, uX1_skipInside_74, uX1_skipInside_74o, uX1_skipInside_74f, uX1_skipInside_75, uX1_skipInside_77, uX1_skipInside_80, uX1_skipInside_82, uX1_skipInside_84, uX1_skipInside_86, uX1_skipInside_88, uX1_skipInside_89, uX1_skipInside_92, uX1_skipInside_92o, uX1_skipInside_92f, uX1_skipInside_93, uX1_skipInside_95, uX1_skipInside_96, uX1_skipInside_99, uX1_skipInside_101, uX1_skipInside_103, uX1_skipInside_104, uX1_skipInside_107, uX1_skipInside_108, uX1_skipInside_109, uX1_skipInside_112, uX1_skipInside_115, uX1_skipInside_117, uX1_skipInside_118, uX1_skipInside_119, pq_C_sI, pq_C_sJ, pq_C_sR, pq_C_sA, pq_L_sI, pq_L_sJ, pq_L_sR, pq_L_sA, pq_I_sI, pq_I_sJ, pq_I_sR, pq_I_sA, pq_J_sI, pq_J_sJ, pq_J_sR, pq_J_sA, pq_R_sI, pq_R_sJ, pq_R_sR, pq_R_sA, pq_N_sI, pq_N_sJ, pq_N_sR, pq_N_sA, pq_S_sI, pq_S_sJ, pq_S_sR, pq_S_sA, pz_rf_s, pz_cut_i, pz_cut_r, pz_cut_n, pz_cut_f, pz_cut_u, pz_cut_o, true_and, and_true, true_or, or_true, Option.toList_some, Option.toList_none, List.cons_append, List.nil_append, Nat.add_left_cancel_iff, Nat.left_eq_add, Nat.add_eq_left, Nat.reduceEqDiff, if_true, if_false, ite_true, ite_false, false_and, and_false, false_or, or_false, reduceIte, reduceCtorEq, and_self, z_4, z_5, z_7, z_8, z_10, z_16, z_20, z_64, not_false_eq_true, b1, b2, W1, sz1, at1, ncn, show bI (tx V p) = 101 by rw [h1]; rfl, nI_1]
    refine K1 h (p + 1) rfl HF_refl (fun _ _ => rfl) ?_
    unfold EN
    rw [if_pos h1]
    trivial
  · rw [if_neg h1] at K1 K0
    have e101 : ¬ bI (tx V p) = 101 := fun z => h1 ((bI_eq tx_le (k := 101) (by decide)).mp z)
    -- from the value on: the key noted before it, the rest behind it
    have val : ∀ (k' : Option Nat) (q : Nat) (h2 : PzH) (v7' : Value), p ≤ q → q ≤ V.length → 2 * (V.length - q) + 1 ≤ f → HF [11, 14] h h2 → (∀ i, i < p ∨ p < i → pz_I h2 14 i = pz_I h 14 i) → (b = true → k' = some p ∧ stF (tx V) V.length p = none ∧ pz_I h2 14 p = nI (stEnd (tx V) p) ∧ p < q) → (b = false → k' = none ∧ pz_I h2 14 p = pz_I h 14 p) →
        (∀ h' u e, pv (tx V) V.length f none dp q = .ok u → pv (tx V) V.length f (some (b, k')) dp u = .ok e → HF [11, 14] h h' → (∀ i, i < p ∨ e ≤ i → pz_I h' 14 i = pz_I h 14 i) → (b = true → pz_I h' 14 p = nI (stEnd (tx V) p)) → EN (pz_I h' 14) (tx V) V.length f none dp q → EN (pz_I h' 14) (tx V) V.length f (some (b, k')) dp u → Q (some (.int (nI e))) h') →
        (∀ h' w, (pv (tx V) V.length f none dp q = .error w ∨ ∃ u, pv (tx V) V.length f none dp q = .ok u ∧ pv (tx V) V.length f (some (b, k')) dp u = .error w) → HF [11, 14] h h' → pz_I h' 11 2 = nI w → Q (some (.int (-1))) h') →
        wp (D + 3) mX1_skipInside 86 [.ref 11, .int fr, .int (nI dp), .int (if b = true then 1 else 0), .int (nI q), .int (kyOf k'), .int (nI cn), v7'] [] h2 Q := by
      intro k' q h2 v7' hpq hqn hfq F2 hE2 hbt hbf C1 C0
      have c1 : pz_C h2 11 = 1 := by rw [F2.1]; exact b1
      simp only [enX1_skipInside, uX1_skipInside_0, uX1_skipInside_1, uX1_skipInside_3, uX1_skipInside_4, uX1_skipInside_6, uX1_skipInside_7, uX1_skipInside_11, uX1_skipInside_11o, uX1_skipInside_11f, uX1_skipInside_12, uX1_skipInside_15, uX1_skipInside_18, uX1_skipInside_21, uX1_skipInside_21o, uX1_skipInside_21f, uX1_skipInside_22, uX1_skipInside_25, uX1_skipInside_27, uX1_skipInside_30, uX1_skipInside_32, uX1_skipInside_35, uX1_skipInside_36, uX1_skipInside_39, uX1_skipInside_41, uX1_skipInside_43, uX1_skipInside_43o, uX1_skipInside_43f, uX1_skipInside_44, uX1_skipInside_46, uX1_skipInside_49, uX1_skipInside_51, uX1_skipInside_53, uX1_skipInside_54, uX1_skipInside_57, uX1_skipInside_59, uX1_skipInside_60, uX1_skipInside_63, uX1_skipInside_63o, uX1_skipInside_63f, uX1_skipInside_64, uX1_skipInside_66, uX1_skipInside_68, uX1_skipInside_71, uX1_skipInside_74, uX1_skipInside_74o, uX1_skipInside_74f, uX1_skipInside_75, uX1_skipInside_77, uX1_skipInside_80, uX1_skipInside_82, uX1_skipInside_84, uX1_skipInside_86, uX1_skipInside_88, uX1_skipInside_89, uX1_skipInside_92, uX1_skipInside_92o, uX1_skipInside_92f, uX1_skipInside_93, uX1_skipInside_95, uX1_skipInside_96, uX1_skipInside_99, uX1_skipInside_101, uX1_skipInside_103, uX1_skipInside_104, uX1_skipInside_107, uX1_skipInside_108, uX1_skipInside_109, uX1_skipInside_112, uX1_skipInside_115, uX1_skipInside_117, uX1_skipInside_118, uX1_skipInside_119, pq_C_sI, pq_C_sJ, pq_C_sR, pq_C_sA, pq_L_sI, pq_L_sJ, pq_L_sR, pq_L_sA, pq_I_sI, pq_I_sJ, pq_I_sR, pq_I_sA, pq_J_sI, pq_J_sJ, pq_J_sR, pq_J_sA, pq_R_sI, pq_R_sJ, pq_R_sR, pq_R_sA, pq_N_sI, pq_N_sJ, pq_N_sR, pq_N_sA, pq_S_sI, pq_S_sJ, pq_S_sR, pq_S_sA, pz_rf_s, pz_cut_i, pz_cut_r, pz_cut_n, pz_cut_f, pz_cut_u, pz_cut_o, true_and, and_true, true_or, or_true, Option.toList_some, Option.toList_none, List.cons_append, List.nil_append, Nat.add_left_cancel_iff, Nat.left_eq_add, Nat.add_eq_left, Nat.reduceEqDiff, if_true, if_false, ite_true, ite_false, false_and, and_false, false_or, or_false, reduceIte, reduceCtorEq, and_self, z_4, z_5, z_7, z_8, z_10, z_16, z_20, z_64, not_false_eq_true, nm1 (show q < 2 ^ 31 by omega), c1]
      refine hA (D + 2) dp q h2 _ (by omega) hdp hqn hfq (BT_fr B' F2) (fun h3 u hu F3 hE3 hN3 => ?_) (fun h3 w hu F3 hw => ?_)
      · have ul := pv_le _ _ _ _ _ hu
        have ug := pv_gt _ _ _ _ _ hu
        simp only [enX1_skipInside, uX1_skipInside_0, uX1_skipInside_1, uX1_skipInside_3, uX1_skipInside_4, uX1_skipInside_6, uX1_skipInside_7, uX1_skipInside_11, uX1_skipInside_11o, uX1_skipInside_11f, uX1_skipInside_12, uX1_skipInside_15, uX1_skipInside_18, uX1_skipInside_21, uX1_skipInside_21o, uX1_skipInside_21f, uX1_skipInside_22, uX1_skipInside_25, uX1_skipInside_27, uX1_skipInside_30, uX1_skipInside_32, uX1_skipInside_35, uX1_skipInside_36, uX1_skipInside_39, uX1_skipInside_41, uX1_skipInside_43, uX1_skipInside_43o, uX1_skipInside_43f, uX1_skipInside_44, uX1_skipInside_46, uX1_skipInside_49, uX1_skipInside_51, uX1_skipInside_53, uX1_skipInside_54, uX1_skipInside_57, uX1_skipInside_59, uX1_skipInside_60, uX1_skipInside_63, uX1_skipInside_63o, uX1_skipInside_63f, uX1_skipInside_64, uX1_skipInside_66, uX1_skipInside_68, uX1_skipInside_71, uX1_skipInside_74, uX1_skipInside_74o, uX1_skipInside_74f, uX1_skipInside_75, uX1_skipInside_77, uX1_skipInside_80, uX1_skipInside_82, uX1_skipInside_84, uX1_skipInside_86, uX1_skipInside_88, uX1_skipInside_89, uX1_skipInside_92, uX1_skipInside_92o, uX1_skipInside_92f, uX1_skipInside_93, uX1_skipInside_95, uX1_skipInside_96, uX1_skipInside_99, uX1_skipInside_101, uX1_skipInside_103, uX1_skipInside_104, uX1_skipInside_107, uX1_skipInside_108, uX1_skipInside_109, uX1_skipInside_112, uX1_skipInside_115, uX1_skipInside_117, uX1_skipInside_118, uX1_skipInside_119, pq_C_sI, pq_C_sJ, pq_C_sR, pq_C_sA, pq_L_sI, pq_L_sJ, pq_L_sR, pq_L_sA, pq_I_sI, pq_I_sJ, pq_I_sR, pq_I_sA, pq_J_sI, pq_J_sJ, pq_J_sR, pq_J_sA, pq_R_sI, pq_R_sJ, pq_R_sR, pq_R_sA, pq_N_sI, pq_N_sJ, pq_N_sR, pq_N_sA, pq_S_sI, pq_S_sJ, pq_S_sR, pq_S_sA, pz_rf_s, pz_cut_i, pz_cut_r, pz_cut_n, pz_cut_f, pz_cut_u, pz_cut_o, true_and, and_true, true_or, or_true, Option.toList_some, Option.toList_none, List.cons_append, List.nil_append, Nat.add_left_cancel_iff, Nat.left_eq_add, Nat.add_eq_left, Nat.reduceEqDiff, if_true, if_false, ite_true, ite_false, false_and, and_false, false_or, or_false, reduceIte, reduceCtorEq, and_self, z_4, z_5, z_7, z_8, z_10, z_16, z_20, z_64, not_false_eq_true, nm1 (show u < 2 ^ 31 by omega), nI_1]
        have F23 := HF_trans F2 F3
        refine hB (D + 3) dp u b k' fr (cn + 1) v7' h3 Q (by omega) hdp ul (by omega) (by omega) (BT_fr B' F23) (fun q' hq' => ?_) (fun z => (hbf z).1) (fun h4 e he F4 hE4 hN4 => ?_) (fun h4 w he F4 hw => ?_)
        · cases b with
          | true =>
            obtain ⟨t1, t2, t3, t4⟩ := hbt rfl
            rw [t1] at hq'
            have e := Option.some.inj hq'
            subst e
            exact ⟨t2, by omega, by rw [hE3 p (by omega)]; exact t3⟩
          | false =>
            rw [(hbf rfl).1] at hq'
            exact absurd hq' (by simp)
        · have eg := pv_gt _ _ _ _ _ he
          refine C1 h4 u e hu he (HF_trans F23 F4) (fun i hi => ?_) (fun z => ?_) (EN_c _ _ _ _ _ hu (fun i a b => hE4 i (by omega)) hN3) hN4
          · rw [hE4 i (by omega), hE3 i (by omega)]
            by_cases e : i = p
            · omega
            · exact hE2 i (by omega)
          · obtain ⟨t1, t2, t3, t4⟩ := hbt z
            rw [hE4 p (by omega), hE3 p (by omega)]
            exact t3
        · exact C0 h4 w (Or.inr ⟨u, hu, he⟩) (HF_trans F23 F4) hw
      · simp only [enX1_skipInside, uX1_skipInside_0, uX1_skipInside_1, uX1_skipInside_3, uX1_skipInside_4, uX1_skipInside_6, uX1_skipInside_7, uX1_skipInside_11, uX1_skipInside_11o, uX1_skipInside_11f, uX1_skipInside_12, uX1_skipInside_15, uX1_skipInside_18, uX1_skipInside_21, uX1_skipInside_21o, uX1_skipInside_21f, uX1_skipInside_22, uX1_skipInside_25, uX1_skipInside_27, uX1_skipInside_30, uX1_skipInside_32, uX1_skipInside_35, uX1_skipInside_36, uX1_skipInside_39, uX1_skipInside_41, uX1_skipInside_43, uX1_skipInside_43o, uX1_skipInside_43f, uX1_skipInside_44, uX1_skipInside_46, uX1_skipInside_49, uX1_skipInside_51, uX1_skipInside_53, uX1_skipInside_54, uX1_skipInside_57, uX1_skipInside_59, uX1_skipInside_60, uX1_skipInside_63, uX1_skipInside_63o, uX1_skipInside_63f, uX1_skipInside_64, uX1_skipInside_66, uX1_skipInside_68, uX1_skipInside_71, uX1_skipInside_74, uX1_skipInside_74o, uX1_skipInside_74f, uX1_skipInside_75, uX1_skipInside_77, uX1_skipInside_80, uX1_skipInside_82, uX1_skipInside_84, uX1_skipInside_86, uX1_skipInside_88, uX1_skipInside_89, uX1_skipInside_92, uX1_skipInside_92o, uX1_skipInside_92f, uX1_skipInside_93, uX1_skipInside_95, uX1_skipInside_96, uX1_skipInside_99, uX1_skipInside_101, uX1_skipInside_103, uX1_skipInside_104, uX1_skipInside_107, uX1_skipInside_108, uX1_skipInside_109, uX1_skipInside_112, uX1_skipInside_115, uX1_skipInside_117, uX1_skipInside_118, uX1_skipInside_119, pq_C_sI, pq_C_sJ, pq_C_sR, pq_C_sA, pq_L_sI, pq_L_sJ, pq_L_sR, pq_L_sA, pq_I_sI, pq_I_sJ, pq_I_sR, pq_I_sA, pq_J_sI, pq_J_sJ, pq_J_sR, pq_J_sA, pq_R_sI, pq_R_sJ, pq_R_sR, pq_R_sA, pq_N_sI, pq_N_sJ, pq_N_sR, pq_N_sA, pq_S_sI, pq_S_sJ, pq_S_sR, pq_S_sA, pz_rf_s, pz_cut_i, pz_cut_r, pz_cut_n, pz_cut_f, pz_cut_u, pz_cut_o, true_and, and_true, true_or, or_true, Option.toList_some, Option.toList_none, List.cons_append, List.nil_append, Nat.add_left_cancel_iff, Nat.left_eq_add, Nat.add_eq_left, Nat.reduceEqDiff, if_true, if_false, ite_true, ite_false, false_and, and_false, false_or, or_false, reduceIte, reduceCtorEq, and_self, z_4, z_5, z_7, z_8, z_10, z_16, z_20, z_64, not_false_eq_true, not_true_eq_false]
        exact C0 h3 w (Or.inl hu) (HF_trans F2 F3) hw
    cases b with
    | true =>
      rw [if_pos rfl] at K1 K0
      have hp29 : p < 2 ^ 29 := by omega
      simp only [enX1_skipInside, uX1_skipInside_0, uX1_skipInside_1, uX1_skipInside_3, uX1_skipInside_4, uX1_skipInside_6, uX1_skipInside_7, uX1_skipInside_11, uX1_skipInside_11o, uX1_skipInside_11f, uX1_skipInside_12, uX1_skipInside_15, uX1_skipInside_18, uX1_skipInside_21, uX1_skipInside_21o, uX1_skipInside_21f, uX1_skipInside_22, uX1_skipInside_25, uX1_skipInside_27, uX1_skipInside_30, uX1_skipInside_32, uX1_skipInside_35, uX1_skipInside_36, uX1_skipInside_39, uX1_skipInside_41, uX1_skipInside_43, uX1_skipInside_43o, uX1_skipInside_43f, uX1_skipInside_44, uX1_skipInside_46, uX1_skipInside_49, uX1_skipInside_51, uX1_skipInside_53, uX1_skipInside_54, uX1_skipInside_57, uX1_skipInside_59, uX1_skipInside_60, uX1_skipInside_63, uX1_skipInside_63o, uX1_skipInside_63f, uX1_skipInside_64, uX1_skipInside_66, uX1_skipInside_68, uX1_skipInside_71, uX1_skipInside_74, uX1_skipInside_74o, uX1_skipInside_74f, uX1_skipInside_75, uX1_skipInside_77, uX1_skipInside_80, uX1_skipInside_82, uX1_skipInside_84, uX1_skipInside_88, uX1_skipInside_89, uX1_skipInside_92, uX1_skipInside_92o, uX1_skipInside_92f, uX1_skipInside_93, uX1_skipInside_95, uX1_skipInside_96, uX1_skipInside_99, uX1_skipInside_101, uX1_skipInside_103, uX1_skipInside_104, uX1_skipInside_107, uX1_skipInside_108, uX1_skipInside_109, uX1_skipInside_112, uX1_skipInside_115, uX1_skipInside_117, uX1_skipInside_118, uX1_skipInside_119, pq_C_sI, pq_C_sJ, pq_C_sR, pq_C_sA, pq_L_sI, pq_L_sJ, pq_L_sR, pq_L_sA, pq_I_sI, pq_I_sJ, pq_I_sR, pq_I_sA, pq_J_sI, pq_J_sJ, pq_J_sR, pq_J_sA, pq_R_sI, pq_R_sJ, pq_R_sR, pq_R_sA, pq_N_sI, pq_N_sJ, pq_N_sR, pq_N_sA, pq_S_sI, pq_S_sJ, pq_S_sR, pq_S_sA, pz_rf_s, pz_cut_i, pz_cut_r, pz_cut_n, pz_cut_f, pz_cut_u, pz_cut_o, true_and, and_true, true_or, or_true, Option.toList_some, Option.toList_none, List.cons_append, List.nil_append, Nat.add_left_cancel_iff, Nat.left_eq_add, Nat.add_eq_left, Nat.reduceEqDiff, if_true, if_false, ite_true, ite_false, false_and, and_false, false_or, or_false, reduceIte, reduceCtorEq, and_self, z_4, z_5, z_7, z_8, z_10, z_16, z_20, z_64, not_false_eq_true, b1, b2, W1, sz1, at1, ncn, e101, show ¬ (1 : Int32) = 0 by decide, pz_cut_i]
      rw [c_skipString B' hp29]
      cases hs : stF (tx V) V.length p with
      | some w =>
        rw [hs] at K1 K0
        simp only [enX1_skipInside, uX1_skipInside_0, uX1_skipInside_1, uX1_skipInside_3, uX1_skipInside_4, uX1_skipInside_6, uX1_skipInside_7, uX1_skipInside_11, uX1_skipInside_11o, uX1_skipInside_11f, uX1_skipInside_12, uX1_skipInside_15, uX1_skipInside_18, uX1_skipInside_21, uX1_skipInside_21o, uX1_skipInside_21f, uX1_skipInside_22, uX1_skipInside_25, uX1_skipInside_27, uX1_skipInside_30, uX1_skipInside_32, uX1_skipInside_35, uX1_skipInside_36, uX1_skipInside_39, uX1_skipInside_41, uX1_skipInside_43, uX1_skipInside_43o, uX1_skipInside_43f, uX1_skipInside_44, uX1_skipInside_46, uX1_skipInside_49, uX1_skipInside_51, uX1_skipInside_53, uX1_skipInside_54, uX1_skipInside_57, uX1_skipInside_59, uX1_skipInside_60, uX1_skipInside_63, uX1_skipInside_63o, uX1_skipInside_63f, uX1_skipInside_64, uX1_skipInside_66, uX1_skipInside_68, uX1_skipInside_71, uX1_skipInside_74, uX1_skipInside_74o, uX1_skipInside_74f, uX1_skipInside_75, uX1_skipInside_77, uX1_skipInside_80, uX1_skipInside_82, uX1_skipInside_84, uX1_skipInside_88, uX1_skipInside_89, uX1_skipInside_92, uX1_skipInside_92o, uX1_skipInside_92f, uX1_skipInside_93, uX1_skipInside_95, uX1_skipInside_96, uX1_skipInside_99, uX1_skipInside_101, uX1_skipInside_103, uX1_skipInside_104, uX1_skipInside_107, uX1_skipInside_108, uX1_skipInside_109, uX1_skipInside_112, uX1_skipInside_115, uX1_skipInside_117, uX1_skipInside_118, uX1_skipInside_119, pq_C_sI, pq_C_sJ, pq_C_sR, pq_C_sA, pq_L_sI, pq_L_sJ, pq_L_sR, pq_L_sA, pq_I_sI, pq_I_sJ, pq_I_sR, pq_I_sA, pq_J_sI, pq_J_sJ, pq_J_sR, pq_J_sA, pq_R_sI, pq_R_sJ, pq_R_sR, pq_R_sA, pq_N_sI, pq_N_sJ, pq_N_sR, pq_N_sA, pq_S_sI, pq_S_sJ, pq_S_sR, pq_S_sA, pz_rf_s, pz_cut_i, pz_cut_r, pz_cut_n, pz_cut_f, pz_cut_u, pz_cut_o, true_and, and_true, true_or, or_true, Option.toList_some, Option.toList_none, List.cons_append, List.nil_append, Nat.add_left_cancel_iff, Nat.left_eq_add, Nat.add_eq_left, Nat.reduceEqDiff, if_true, if_false, ite_true, ite_false, false_and, and_false, false_or, or_false, reduceIte, reduceCtorEq, and_self, z_4, z_5, z_7, z_8, z_10, z_16, z_20, z_64, not_false_eq_true, not_true_eq_false]
        rw [uX1_skipInside_86]
        simp only [enX1_skipInside, uX1_skipInside_0, uX1_skipInside_1, uX1_skipInside_3, uX1_skipInside_4, uX1_skipInside_6, uX1_skipInside_7, uX1_skipInside_11, uX1_skipInside_11o, uX1_skipInside_11f, uX1_skipInside_12, uX1_skipInside_15, uX1_skipInside_18, uX1_skipInside_21, uX1_skipInside_21o, uX1_skipInside_21f, uX1_skipInside_22, uX1_skipInside_25, uX1_skipInside_27, uX1_skipInside_30, uX1_skipInside_32, uX1_skipInside_35, uX1_skipInside_36, uX1_skipInside_39, uX1_skipInside_41, uX1_skipInside_43, uX1_skipInside_43o, uX1_skipInside_43f, uX1_skipInside_44, uX1_skipInside_46, uX1_skipInside_49, uX1_skipInside_51, uX1_skipInside_53, uX1_skipInside_54, uX1_skipInside_57, uX1_skipInside_59, uX1_skipInside_60, uX1_skipInside_63, uX1_skipInside_63o, uX1_skipInside_63f, uX1_skipInside_64, uX1_skipInside_66, uX1_skipInside_68, uX1_skipInside_71, uX1_skipInside_74, uX1_skipInside_74o, uX1_skipInside_74f, uX1_skipInside_75, uX1_skipInside_77, uX1_skipInside_80, uX1_skipInside_82, uX1_skipInside_84, uX1_skipInside_88, uX1_skipInside_89, uX1_skipInside_92, uX1_skipInside_92o, uX1_skipInside_92f, uX1_skipInside_93, uX1_skipInside_95, uX1_skipInside_96, uX1_skipInside_99, uX1_skipInside_101, uX1_skipInside_103, uX1_skipInside_104, uX1_skipInside_107, uX1_skipInside_108, uX1_skipInside_109, uX1_skipInside_112, uX1_skipInside_115, uX1_skipInside_117, uX1_skipInside_118, uX1_skipInside_119, pq_C_sI, pq_C_sJ, pq_C_sR, pq_C_sA, pq_L_sI, pq_L_sJ, pq_L_sR, pq_L_sA, pq_I_sI, pq_I_sJ, pq_I_sR, pq_I_sA, pq_J_sI, pq_J_sJ, pq_J_sR, pq_J_sA, pq_R_sI, pq_R_sJ, pq_R_sR, pq_R_sA, pq_N_sI, pq_N_sJ, pq_N_sR, pq_N_sA, pq_S_sI, pq_S_sJ, pq_S_sR, pq_S_sA, pz_rf_s, pz_cut_i, pz_cut_r, pz_cut_n, pz_cut_f, pz_cut_u, pz_cut_o, true_and, and_true, true_or, or_true, Option.toList_some, Option.toList_none, List.cons_append, List.nil_append, Nat.add_left_cancel_iff, Nat.left_eq_add, Nat.add_eq_left, Nat.reduceEqDiff, if_true, if_false, ite_true, ite_false, false_and, and_false, false_or, or_false, reduceIte, reduceCtorEq, and_self, z_4, z_5, z_7, z_8, z_10, z_16, z_20, z_64, not_false_eq_true, not_true_eq_false]
        exact K0 _ w rfl (HF_sI (by simp)) (by rw [pq_I_sI, if_pos ⟨rfl, rfl⟩])
      | none =>
        rw [hs] at K1 K0
        dsimp only at K1 K0
        have sg := stEnd_gt hs
        have F2 : HF [11, 14] h (pz_sI h 14 p (nI (stEnd (tx V) p))) := HF_sI (by simp)
        have E2 : pz_I (pz_sI h 14 p (nI (stEnd (tx V) p))) 14 p = nI (stEnd (tx V) p) := by rw [pq_I_sI, if_pos ⟨rfl, rfl⟩]
        have E2' : ∀ i, i ≠ p → pz_I (pz_sI h 14 p (nI (stEnd (tx V) p))) 14 i = pz_I h 14 i := fun i hi => by rw [pq_I_sI, if_neg (fun z => hi z.2)]
        generalize pz_sI h 14 p (nI (stEnd (tx V) p)) = h2 at F2 E2 E2'
        have c1 : pz_C h2 11 = 1 := by rw [F2.1]; exact b1
        have go : rsk (tx V) k p = true → wp (D + 3) mX1_skipInside 86 [.ref 11, .int fr, .int (nI dp), .int 1, .int (nI (stEnd (tx V) p)), .int (nI p), .int (nI cn), .int (nI p)] [] h2 Q := by
          intro hr
          rw [if_pos hr] at K1 K0
          refine val (some p) (stEnd (tx V) p) h2 (.int (nI p)) (by omega) sg.2 (by omega) F2 (fun i hi => E2' i (by omega)) (fun _ => ⟨rfl, hs, E2, by omega⟩) (fun z => absurd z (by decide)) (fun h' u e hu he F hE hEp hN1 hN2 => ?_) (fun h' w hw F hf' => ?_)
          · refine K1 h' e (by rw [hu]; exact he) F hE ?_
            unfold EN
            rw [if_neg h1, if_pos rfl, pvE_ok hu]
            exact ⟨hEp rfl, hN1, hN2⟩
          · refine K0 h' w ?_ F hf'
            rcases hw with z | ⟨u, z1, z2⟩
            · rw [z]
            · rw [z1]; exact z2
        simp only [enX1_skipInside, uX1_skipInside_0, uX1_skipInside_1, uX1_skipInside_3, uX1_skipInside_4, uX1_skipInside_6, uX1_skipInside_7, uX1_skipInside_11, uX1_skipInside_11o, uX1_skipInside_11f, uX1_skipInside_12, uX1_skipInside_15, uX1_skipInside_18, uX1_skipInside_21, uX1_skipInside_21o, uX1_skipInside_21f, uX1_skipInside_22, uX1_skipInside_25, uX1_skipInside_27, uX1_skipInside_30, uX1_skipInside_32, uX1_skipInside_35, uX1_skipInside_36, uX1_skipInside_39, uX1_skipInside_41, uX1_skipInside_43, uX1_skipInside_43o, uX1_skipInside_43f, uX1_skipInside_44, uX1_skipInside_46, uX1_skipInside_49, uX1_skipInside_51, uX1_skipInside_53, uX1_skipInside_54, uX1_skipInside_57, uX1_skipInside_59, uX1_skipInside_60, uX1_skipInside_63, uX1_skipInside_63o, uX1_skipInside_63f, uX1_skipInside_64, uX1_skipInside_66, uX1_skipInside_68, uX1_skipInside_71, uX1_skipInside_74, uX1_skipInside_74o, uX1_skipInside_74f, uX1_skipInside_75, uX1_skipInside_77, uX1_skipInside_80, uX1_skipInside_82, uX1_skipInside_84, uX1_skipInside_88, uX1_skipInside_89, uX1_skipInside_92, uX1_skipInside_92o, uX1_skipInside_92f, uX1_skipInside_93, uX1_skipInside_95, uX1_skipInside_96, uX1_skipInside_99, uX1_skipInside_101, uX1_skipInside_103, uX1_skipInside_104, uX1_skipInside_107, uX1_skipInside_108, uX1_skipInside_109, uX1_skipInside_112, uX1_skipInside_115, uX1_skipInside_117, uX1_skipInside_118, uX1_skipInside_119, pq_C_sI, pq_C_sJ, pq_C_sR, pq_C_sA, pq_L_sI, pq_L_sJ, pq_L_sR, pq_L_sA, pq_I_sI, pq_I_sJ, pq_I_sR, pq_I_sA, pq_J_sI, pq_J_sJ, pq_J_sR, pq_J_sA, pq_R_sI, pq_R_sJ, pq_R_sR, pq_R_sA, pq_N_sI, pq_N_sJ, pq_N_sR, pq_N_sA, pq_S_sI, pq_S_sJ, pq_S_sR, pq_S_sA, pz_rf_s, pz_cut_i, pz_cut_r, pz_cut_n, pz_cut_f, pz_cut_u, pz_cut_o, true_and, and_true, true_or, or_true, Option.toList_some, Option.toList_none, List.cons_append, List.nil_append, Nat.add_left_cancel_iff, Nat.left_eq_add, Nat.add_eq_left, Nat.reduceEqDiff, if_true, if_false, ite_true, ite_false, false_and, and_false, false_or, or_false, reduceIte, reduceCtorEq, and_self, z_4, z_5, z_7, z_8, z_10, z_16, z_20, z_64, not_false_eq_true, nm1 (show stEnd (tx V) p < 2 ^ 31 by omega), pz_cut_i]
        cases k with
        | none =>
          rw [show kyOf none = -1 from rfl]
          simp only [if_true]
          exact go rfl
        | some q =>
          obtain ⟨k1, k2, k3⟩ := hk q rfl
          have nq : ¬ kyOf (some q) = -1 := nm1 (by omega)
          rw [if_neg nq, show kyOf (some q) = nI q from rfl]
          simp only [c1, true_and]
          rw [c_rises (BT_fr B' F2) k1 hs (by rw [E2' q (by omega)]; exact k3) E2]
          by_cases hr : rsg (tx V) q p = true
          · simp only [enX1_skipInside, uX1_skipInside_0, uX1_skipInside_1, uX1_skipInside_3, uX1_skipInside_4, uX1_skipInside_6, uX1_skipInside_7, uX1_skipInside_11, uX1_skipInside_11o, uX1_skipInside_11f, uX1_skipInside_12, uX1_skipInside_15, uX1_skipInside_18, uX1_skipInside_21, uX1_skipInside_21o, uX1_skipInside_21f, uX1_skipInside_22, uX1_skipInside_25, uX1_skipInside_27, uX1_skipInside_30, uX1_skipInside_32, uX1_skipInside_35, uX1_skipInside_36, uX1_skipInside_39, uX1_skipInside_41, uX1_skipInside_43, uX1_skipInside_43o, uX1_skipInside_43f, uX1_skipInside_44, uX1_skipInside_46, uX1_skipInside_49, uX1_skipInside_51, uX1_skipInside_53, uX1_skipInside_54, uX1_skipInside_57, uX1_skipInside_59, uX1_skipInside_60, uX1_skipInside_63, uX1_skipInside_63o, uX1_skipInside_63f, uX1_skipInside_64, uX1_skipInside_66, uX1_skipInside_68, uX1_skipInside_71, uX1_skipInside_74, uX1_skipInside_74o, uX1_skipInside_74f, uX1_skipInside_75, uX1_skipInside_77, uX1_skipInside_80, uX1_skipInside_82, uX1_skipInside_84, uX1_skipInside_88, uX1_skipInside_89, uX1_skipInside_92, uX1_skipInside_92o, uX1_skipInside_92f, uX1_skipInside_93, uX1_skipInside_95, uX1_skipInside_96, uX1_skipInside_99, uX1_skipInside_101, uX1_skipInside_103, uX1_skipInside_104, uX1_skipInside_107, uX1_skipInside_108, uX1_skipInside_109, uX1_skipInside_112, uX1_skipInside_115, uX1_skipInside_117, uX1_skipInside_118, uX1_skipInside_119, pq_C_sI, pq_C_sJ, pq_C_sR, pq_C_sA, pq_L_sI, pq_L_sJ, pq_L_sR, pq_L_sA, pq_I_sI, pq_I_sJ, pq_I_sR, pq_I_sA, pq_J_sI, pq_J_sJ, pq_J_sR, pq_J_sA, pq_R_sI, pq_R_sJ, pq_R_sR, pq_R_sA, pq_N_sI, pq_N_sJ, pq_N_sR, pq_N_sA, pq_S_sI, pq_S_sJ, pq_S_sR, pq_S_sA, pz_rf_s, pz_cut_i, pz_cut_r, pz_cut_n, pz_cut_f, pz_cut_u, pz_cut_o, true_and, and_true, true_or, or_true, Option.toList_some, Option.toList_none, List.cons_append, List.nil_append, Nat.add_left_cancel_iff, Nat.left_eq_add, Nat.add_eq_left, Nat.reduceEqDiff, if_true, if_false, ite_true, ite_false, false_and, and_false, false_or, or_false, reduceIte, reduceCtorEq, and_self, z_4, z_5, z_7, z_8, z_10, z_16, z_20, z_64, not_false_eq_true, hr, show ¬ (1 : Int32) = 0 by decide]
            exact go hr
          · have hr' : ¬ rsk (tx V) (some q) p = true := hr
            rw [if_neg hr'] at K1 K0
            simp only [enX1_skipInside, uX1_skipInside_0, uX1_skipInside_1, uX1_skipInside_3, uX1_skipInside_4, uX1_skipInside_6, uX1_skipInside_7, uX1_skipInside_11, uX1_skipInside_11o, uX1_skipInside_11f, uX1_skipInside_12, uX1_skipInside_15, uX1_skipInside_18, uX1_skipInside_21, uX1_skipInside_21o, uX1_skipInside_21f, uX1_skipInside_22, uX1_skipInside_25, uX1_skipInside_27, uX1_skipInside_30, uX1_skipInside_32, uX1_skipInside_35, uX1_skipInside_36, uX1_skipInside_39, uX1_skipInside_41, uX1_skipInside_43, uX1_skipInside_43o, uX1_skipInside_43f, uX1_skipInside_44, uX1_skipInside_46, uX1_skipInside_49, uX1_skipInside_51, uX1_skipInside_53, uX1_skipInside_54, uX1_skipInside_57, uX1_skipInside_59, uX1_skipInside_60, uX1_skipInside_63, uX1_skipInside_63o, uX1_skipInside_63f, uX1_skipInside_64, uX1_skipInside_66, uX1_skipInside_68, uX1_skipInside_71, uX1_skipInside_74, uX1_skipInside_74o, uX1_skipInside_74f, uX1_skipInside_75, uX1_skipInside_77, uX1_skipInside_80, uX1_skipInside_82, uX1_skipInside_84, uX1_skipInside_88, uX1_skipInside_89, uX1_skipInside_92, uX1_skipInside_92o, uX1_skipInside_92f, uX1_skipInside_93, uX1_skipInside_95, uX1_skipInside_96, uX1_skipInside_99, uX1_skipInside_101, uX1_skipInside_103, uX1_skipInside_104, uX1_skipInside_107, uX1_skipInside_108, uX1_skipInside_109, uX1_skipInside_112, uX1_skipInside_115, uX1_skipInside_117, uX1_skipInside_118, uX1_skipInside_119, pq_C_sI, pq_C_sJ, pq_C_sR, pq_C_sA, pq_L_sI, pq_L_sJ, pq_L_sR, pq_L_sA, pq_I_sI, pq_I_sJ, pq_I_sR, pq_I_sA, pq_J_sI, pq_J_sJ, pq_J_sR, pq_J_sA, pq_R_sI, pq_R_sJ, pq_R_sR, pq_R_sA, pq_N_sI, pq_N_sJ, pq_N_sR, pq_N_sA, pq_S_sI, pq_S_sJ, pq_S_sR, pq_S_sA, pz_rf_s, pz_cut_i, pz_cut_r, pz_cut_n, pz_cut_f, pz_cut_u, pz_cut_o, true_and, and_true, true_or, or_true, Option.toList_some, Option.toList_none, List.cons_append, List.nil_append, Nat.add_left_cancel_iff, Nat.left_eq_add, Nat.add_eq_left, Nat.reduceEqDiff, if_true, if_false, ite_true, ite_false, false_and, and_false, false_or, or_false, reduceIte, reduceCtorEq, and_self, z_4, z_5, z_7, z_8, z_10, z_16, z_20, z_64, not_false_eq_true, hr, c1, not_true_eq_false, Bool.false_eq_true, c_faultAt c1, pz_cut_i]
            rw [uX1_skipInside_86]
            simp only [enX1_skipInside, uX1_skipInside_0, uX1_skipInside_1, uX1_skipInside_3, uX1_skipInside_4, uX1_skipInside_6, uX1_skipInside_7, uX1_skipInside_11, uX1_skipInside_11o, uX1_skipInside_11f, uX1_skipInside_12, uX1_skipInside_15, uX1_skipInside_18, uX1_skipInside_21, uX1_skipInside_21o, uX1_skipInside_21f, uX1_skipInside_22, uX1_skipInside_25, uX1_skipInside_27, uX1_skipInside_30, uX1_skipInside_32, uX1_skipInside_35, uX1_skipInside_36, uX1_skipInside_39, uX1_skipInside_41, uX1_skipInside_43, uX1_skipInside_43o, uX1_skipInside_43f, uX1_skipInside_44, uX1_skipInside_46, uX1_skipInside_49, uX1_skipInside_51, uX1_skipInside_53, uX1_skipInside_54, uX1_skipInside_57, uX1_skipInside_59, uX1_skipInside_60, uX1_skipInside_63, uX1_skipInside_63o, uX1_skipInside_63f, uX1_skipInside_64, uX1_skipInside_66, uX1_skipInside_68, uX1_skipInside_71, uX1_skipInside_74, uX1_skipInside_74o, uX1_skipInside_74f, uX1_skipInside_75, uX1_skipInside_77, uX1_skipInside_80, uX1_skipInside_82, uX1_skipInside_84, uX1_skipInside_88, uX1_skipInside_89, uX1_skipInside_92, uX1_skipInside_92o, uX1_skipInside_92f, uX1_skipInside_93, uX1_skipInside_95, uX1_skipInside_96, uX1_skipInside_99, uX1_skipInside_101, uX1_skipInside_103, uX1_skipInside_104, uX1_skipInside_107, uX1_skipInside_108, uX1_skipInside_109, uX1_skipInside_112, uX1_skipInside_115, uX1_skipInside_117, uX1_skipInside_118, uX1_skipInside_119, pq_C_sI, pq_C_sJ, pq_C_sR, pq_C_sA, pq_L_sI, pq_L_sJ, pq_L_sR, pq_L_sA, pq_I_sI, pq_I_sJ, pq_I_sR, pq_I_sA, pq_J_sI, pq_J_sJ, pq_J_sR, pq_J_sA, pq_R_sI, pq_R_sJ, pq_R_sR, pq_R_sA, pq_N_sI, pq_N_sJ, pq_N_sR, pq_N_sA, pq_S_sI, pq_S_sJ, pq_S_sR, pq_S_sA, pz_rf_s, pz_cut_i, pz_cut_r, pz_cut_n, pz_cut_f, pz_cut_u, pz_cut_o, true_and, and_true, true_or, or_true, Option.toList_some, Option.toList_none, List.cons_append, List.nil_append, Nat.add_left_cancel_iff, Nat.left_eq_add, Nat.add_eq_left, Nat.reduceEqDiff, if_true, if_false, ite_true, ite_false, false_and, and_false, false_or, or_false, reduceIte, reduceCtorEq, and_self, z_4, z_5, z_7, z_8, z_10, z_16, z_20, z_64, not_false_eq_true, not_true_eq_false]
            exact K0 _ p rfl (HF_trans F2 (HF_sI (by simp))) (by rw [pq_I_sI, if_pos ⟨rfl, rfl⟩])
    | false =>
      rw [if_neg (by decide)] at K1 K0
      have kn := hbk rfl
      subst kn
      simp only [enX1_skipInside, uX1_skipInside_0, uX1_skipInside_1, uX1_skipInside_3, uX1_skipInside_4, uX1_skipInside_6, uX1_skipInside_7, uX1_skipInside_11, uX1_skipInside_11o, uX1_skipInside_11f, uX1_skipInside_12, uX1_skipInside_15, uX1_skipInside_18, uX1_skipInside_21, uX1_skipInside_21o, uX1_skipInside_21f, uX1_skipInside_22, uX1_skipInside_25, uX1_skipInside_27, uX1_skipInside_30, uX1_skipInside_32, uX1_skipInside_35, uX1_skipInside_36, uX1_skipInside_39, uX1_skipInside_41, uX1_skipInside_43, uX1_skipInside_43o, uX1_skipInside_43f, uX1_skipInside_44, uX1_skipInside_46, uX1_skipInside_49, uX1_skipInside_51, uX1_skipInside_53, uX1_skipInside_54, uX1_skipInside_57, uX1_skipInside_59, uX1_skipInside_60, uX1_skipInside_63, uX1_skipInside_63o, uX1_skipInside_63f, uX1_skipInside_64, uX1_skipInside_66, uX1_skipInside_68, uX1_skipInside_71, uX1_skipInside_74, uX1_skipInside_74o, uX1_skipInside_74f, uX1_skipInside_75, uX1_skipInside_77, uX1_skipInside_80, uX1_skipInside_82, uX1_skipInside_84, uX1_skipInside_88, uX1_skipInside_89, uX1_skipInside_92, uX1_skipInside_92o, uX1_skipInside_92f, uX1_skipInside_93, uX1_skipInside_95, uX1_skipInside_96, uX1_skipInside_99, uX1_skipInside_101, uX1_skipInside_103, uX1_skipInside_104, uX1_skipInside_107, uX1_skipInside_108, uX1_skipInside_109, uX1_skipInside_112, uX1_skipInside_115, uX1_skipInside_117, uX1_skipInside_118, uX1_skipInside_119, pq_C_sI, pq_C_sJ, pq_C_sR, pq_C_sA, pq_L_sI, pq_L_sJ, pq_L_sR, pq_L_sA, pq_I_sI, pq_I_sJ, pq_I_sR, pq_I_sA, pq_J_sI, pq_J_sJ, pq_J_sR, pq_J_sA, pq_R_sI, pq_R_sJ, pq_R_sR, pq_R_sA, pq_N_sI, pq_N_sJ, pq_N_sR, pq_N_sA, pq_S_sI, pq_S_sJ, pq_S_sR, pq_S_sA, pz_rf_s, pz_cut_i, pz_cut_r, pz_cut_n, pz_cut_f, pz_cut_u, pz_cut_o, true_and, and_true, true_or, or_true, Option.toList_some, Option.toList_none, List.cons_append, List.nil_append, Nat.add_left_cancel_iff, Nat.left_eq_add, Nat.add_eq_left, Nat.reduceEqDiff, if_true, if_false, ite_true, ite_false, false_and, and_false, false_or, or_false, reduceIte, reduceCtorEq, and_self, z_4, z_5, z_7, z_8, z_10, z_16, z_20, z_64, not_false_eq_true, b1, b2, W1, sz1, at1, ncn, e101, Bool.false_eq_true]
      refine val none p h v7 (Nat.le_refl _) hp (by omega) HF_refl (fun _ _ => rfl) (fun z => absurd z (by decide)) (fun _ => ⟨rfl, rfl⟩) (fun h' u e hu he F hE hEp hN1 hN2 => ?_) (fun h' w hw F hf' => ?_)
      · refine K1 h' e (by rw [hu]; exact he) F hE ?_
        unfold EN
        rw [if_neg h1, if_neg (by decide), pvE_ok hu]
        exact ⟨hN1, hN2⟩
      · refine K0 h' w ?_ F hf'
        rcases hw with z | ⟨u, z1, z2⟩
        · rw [z]
        · rw [z1]; exact z2
theorem sk_all {r a cap : Nat} : ∀ f, SKA r a cap V f ∧ SKB r a cap V f := by
  intro f
  induction f with
  | zero => exact ⟨fun D dp p h Q _ _ _ hf => by omega, fun D dp p b k fr cn v7 h Q _ _ _ hf => by omega⟩
  | succ f ih => exact ⟨ska_s ih.2, skb_s ih.1 ih.2⟩
end
