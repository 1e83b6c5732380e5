/-! ===== the class: Bencode, looking up ===== -/
/-- a VALUE that the parse went through, and where it noted its end -/
def VE (h : PzH) (V : List Int8) (v e : Nat) : Prop := ∃ f dp, f ≤ 2 * V.length + 1 ∧ pv (tx V) V.length f none dp v = .ok e ∧ EN (pz_I h 14) (tx V) V.length f none dp v
section
variable {d : Nat} {h h' : PzH} {Q : Option Value → PzH → Prop} {r a cap : Nat} {V : List Int8}
theorem VE_VL {v e : Nat} (H : VE h V v e) : VL (tx V) V.length none v e := by
  obtain ⟨f, dp, h1, h2, _⟩ := H
  exact ⟨f, dp, h1, h2⟩
theorem VE_E {v e : Nat} (H : VE h V v e) : pz_I h 14 v = nI e := by
  obtain ⟨f, dp, h1, h2, h3⟩ := H
  cases f with
  | zero => exact absurd h2 (by unfold pv; simp)
  | succ f =>
    unfold EN at h3
    rw [h3.1, pvE_ok h2]
theorem VE_lt {v e : Nat} (H : VE h V v e) : v < e ∧ e ≤ V.length := by
  obtain ⟨f, dp, h1, h2, h3⟩ := H
  exact ⟨pv_gt _ _ _ _ _ h2, pv_le _ _ _ _ _ h2⟩
theorem VE_fr {v e : Nat} (H : VE h V v e) (E : ∀ i, i < V.length → pz_I h' 14 i = pz_I h 14 i) : VE h' V v e := by
  have l := VE_lt H
  obtain ⟨f, dp, h1, h2, h3⟩ := H
  exact ⟨f, dp, h1, h2, EN_c _ _ _ _ _ h2 (fun i a b => E i (by omega)) h3⟩
/-- inside of a dictionary -/
def DE (h : PzH) (V : List Int8) (md : Option (Bool × Option Nat)) (q e : Nat) : Prop := ∃ f dp, f ≤ 2 * V.length + 1 ∧ pv (tx V) V.length f md dp q = .ok e ∧ EN (pz_I h 14) (tx V) V.length f md dp q
theorem VE_in {v e : Nat} (H : VE h V v e) (hx : tx V v = 108 ∨ tx V v = 100) : DE h V (some (decide (tx V v = 100), none)) (v + 1) e := by
  obtain ⟨f, dp, h1, h2, h3⟩ := H
  cases f with
  | zero => exact absurd h2 (by unfold pv; simp)
  | succ f =>
    have nd : ¬ dg (tx V v) := fun z => by have := z.2; omega
    have ni : ¬ tx V v = 105 := by omega
    unfold EN at h3
    have h4 := h3.2
    rw [if_neg (fun z => z.elim nd ni)] at h4
    rw [pv_n, if_neg nd, if_neg ni] at h2
    by_cases q : (tx V v = 108 ∨ tx V v = 100) ∧ dp < 8
    · rw [if_pos q] at h2
      exact ⟨f, dp + 1, by omega, h2, h4⟩
    · rw [if_neg q] at h2; exact absurd h2 (by simp)
/-- a KEY and its VALUE -/
theorem DE_key {q e : Nat} {k : Option Nat} (H : DE h V (some (true, k)) q e) (h1 : ¬ tx V q = 101) : stF (tx V) V.length q = none ∧ pz_I h 14 q = nI (stEnd (tx V) q) ∧ ∃ u, VE h V (stEnd (tx V) q) u ∧ DE h V (some (true, some q)) u e := by
  obtain ⟨f, dp, f1, h2, h3⟩ := H
  cases f with
  | zero => exact absurd h2 (by unfold pv; simp)
  | succ f =>
    unfold EN at h3
    rw [if_neg h1, if_pos rfl] at h3
    rw [pv_s, if_neg h1, if_pos rfl] at h2
    cases hs : stF (tx V) V.length q with
    | some w => rw [hs] at h2; exact absurd h2 (by simp)
    | none =>
      rw [hs] at h2
      dsimp only at h2
      by_cases hr : rsk (tx V) k q = true
      · rw [if_pos hr] at h2
        cases hp : pv (tx V) V.length f none dp (stEnd (tx V) q) with
        | error w => rw [hp] at h2; exact absurd h2 (by simp)
        | ok u =>
          rw [hp] at h2
          rw [pvE_ok hp] at h3
          exact ⟨rfl, h3.1, u, ⟨f, dp, by omega, hp, h3.2.1⟩, ⟨f, dp, by omega, h2, h3.2.2⟩⟩
      · rw [if_neg hr] at h2; exact absurd h2 (by simp)
theorem DE_item {q e : Nat} (H : DE h V (some (false, none)) q e) (h1 : ¬ tx V q = 101) : ∃ u, VE h V q u ∧ DE h V (some (false, none)) u e := by
  obtain ⟨f, dp, f1, h2, h3⟩ := H
  cases f with
  | zero => exact absurd h2 (by unfold pv; simp)
  | succ f =>
    unfold EN at h3
    rw [if_neg h1, if_neg (by decide)] at h3
    rw [pv_s, if_neg h1, if_neg (by decide)] at h2
    cases hp : pv (tx V) V.length f none dp q with
    | error w => rw [hp] at h2; exact absurd h2 (by simp)
    | ok u =>
      rw [hp] at h2
      rw [pvE_ok hp] at h3
      exact ⟨u, ⟨f, dp, by omega, hp, h3.1⟩, ⟨f, dp, by omega, h2, h3.2⟩⟩
theorem DE_lt {q e : Nat} {md : Option (Bool × Option Nat)} (H : DE h V md q e) : q < e ∧ e ≤ V.length := by
  obtain ⟨f, dp, h1, h2, h3⟩ := H
  exact ⟨pv_gt _ _ _ _ _ h2, pv_le _ _ _ _ _ h2⟩
/-- a place, or none -/
def atO (V : List Int8) : Option Nat → Int32
  | some i => bI (tx V i)
  | none => -1
theorem c_atO {r' : Option Nat} (W : ROW h r a cap V) (hr : ∀ i, r' = some i → i < 2 ^ 31) : pz_M (d + 1) mX6_at [.ref r, .int (kyOf r')] h Q ↔ Q (some (.int (atO V r'))) h := by
  cases r' with
  | some i => exact c_bAt W (hr i rfl)
  | none =>
    rw [c_at W]
    have : atL V (kyOf none) = -1 := by
      unfold atL vI
      rw [show kyOf none = -1 from rfl, if_pos (by decide)]
    rw [this]
    exact Iff.rfl
def isKd (V : List Int8) (k : Nat) : Option Nat → Bool
  | some i => decide (tx V i = k)
  | none => false
theorem c_isKind {r' : Option Nat} {k : Nat} (B : BT h r a cap V) (hr : ∀ i, r' = some i → i < 2 ^ 31) (hk : k < 256) : pz_M (d + 2) mX1_isKind [.ref 11, .int (kyOf r'), .int (nI k)] h Q ↔ Q (some (.int (if isKd V k r' = true then 1 else 0))) h := by
  obtain ⟨⟨b1, b2, b3, b4, b5⟩, W, n1, n2, n3, n4⟩ := B
  have W1 := W.1
  simp only [enX1_isKind, uX1_isKind_0, uX1_isKind_0o, uX1_isKind_0f, uX1_isKind_1, uX1_isKind_4, uX1_isKind_5, uX1_isKind_8, uX1_isKind_9, uX1_isKind_12, uX1_isKind_13, uX1_isKind_16, uX1_isKind_17, pq_C_sI, pq_C_sJ, pq_C_sR, pq_C_sA, pq_L_sI, pq_L_sJ, pq_L_sR, pq_L_sA, pq_I_sI, pq_I_sJ, pq_I_sR, pq_I_sA, pq_J_sI, pq_J_sJ, pq_J_sR, pq_J_sA, pq_R_sI, pq_R_sJ, pq_R_sR, pq_R_sA, pq_N_sI, pq_N_sJ, pq_N_sR, pq_N_sA, pq_S_sI, pq_S_sJ, pq_S_sR, pq_S_sA, pz_rf_s, pz_cut_i, pz_cut_r, pz_cut_n, pz_cut_f, pz_cut_u, pz_cut_o, true_and, and_true, true_or, or_true, Option.toList_some, Option.toList_none, List.cons_append, List.nil_append, Nat.add_left_cancel_iff, Nat.left_eq_add, Nat.add_eq_left, Nat.reduceEqDiff, if_true, if_false, ite_true, ite_false, false_and, and_false, false_or, or_false, reduceIte, reduceCtorEq, and_self, z_4, z_5, z_7, z_8, z_10, z_16, z_20, z_64, not_false_eq_true, b1, b2, W1, c_atO W hr]
  cases r' with
  | none =>
    rw [if_pos (show ¬ atO V none = nI k from fun z => by
      have z1 := congrArg Int32.toInt z
      rw [nI_toInt (by omega)] at z1
      have : (atO V none).toInt = -1 := rfl
      omega), if_neg (show ¬ isKd V k none = true by simp [isKd])]
  | some i =>
    have e1 : atO V (some i) = bI (tx V i) := rfl
    have e2 : isKd V k (some i) = decide (tx V i = k) := rfl
    rw [e1, e2]
    by_cases q : tx V i = k
    · rw [if_neg (fun z => z ((bI_eq tx_le hk).mpr q)), if_pos (decide_eq_true q)]
    · rw [if_pos (show ¬ bI (tx V i) = nI k from fun z => q ((bI_eq tx_le hk).mp z)), if_neg (fun z => q (of_decide_eq_true z))]
theorem c_decS {w : Nat} (B : BT h r a cap V) (hw : stF (tx V) V.length w = none) : pz_M (d + 2) mX1_decimal [.ref 11, .int (nI w)] h Q ↔ Q (some (.int (nI (stN (tx V) w)))) h := by
  obtain ⟨⟨s1, s2, s3, s4⟩, s5, s6⟩ := stF_SK hw
  have := (stEnd_gt hw)
  have w6 := B.2.1.2.2.2.2.2.1
  have w8 := B.2.1.2.2.2.2.2.2.2.1
  refine c_decimal B (k := stE (tx V) w - w) (by omega) s3 (Or.inr ?_) (by omega)
  rw [show w + (stE (tx V) w - w) = stE (tx V) w by omega, s4]
  decide
/-- how long the STRING there is -/
def tlO (V : List Int8) : Option Nat → Int32
  | some i => if dg (tx V i) then nI (stN (tx V) i) else -1
  | none => -1
theorem c_textLength {r' : Option Nat} (B : BT h r a cap V) (hr : ∀ i, r' = some i → ∃ u, VL (tx V) V.length none i u) : pz_M (d + 3) mX1_textLength [.ref 11, .int (kyOf r')] h Q ↔ Q (some (.int (tlO V r'))) h := by
  have B' := B
  obtain ⟨⟨b1, b2, b3, b4, b5⟩, W, n1, n2, n3, n4⟩ := B
  have W1 := W.1
  have w6 := W.2.2.2.2.2.1
  have w8 := W.2.2.2.2.2.2.2.1
  cases r' with
  | none =>
    have at0 : ∀ {Q : Option Value → PzH → Prop}, pz_M (d + 2) mX6_at [.ref r, .int (kyOf none)] h Q ↔ Q (some (.int (bI 256))) h := fun {Q} => c_atO (r' := none) W (fun i z => absurd z (by simp))
    simp only [enX1_textLength, uX1_textLength_0, uX1_textLength_0o, uX1_textLength_0f, uX1_textLength_1, uX1_textLength_4, uX1_textLength_5, uX1_textLength_8, uX1_textLength_11, uX1_textLength_14, uX1_textLength_14o, uX1_textLength_14f, uX1_textLength_15, uX1_textLength_16, uX1_textLength_19, uX1_textLength_22, uX1_textLength_23, pq_C_sI, pq_C_sJ, pq_C_sR, pq_C_sA, pq_L_sI, pq_L_sJ, pq_L_sR, pq_L_sA, pq_I_sI, pq_I_sJ, pq_I_sR, pq_I_sA, pq_J_sI, pq_J_sJ, pq_J_sR, pq_J_sA, pq_R_sI, pq_R_sJ, pq_R_sR, pq_R_sA, pq_N_sI, pq_N_sJ, pq_N_sR, pq_N_sA, pq_S_sI, pq_S_sJ, pq_S_sR, pq_S_sA, pz_rf_s, pz_cut_i, pz_cut_r, pz_cut_n, pz_cut_f, pz_cut_u, pz_cut_o, true_and, and_true, true_or, or_true, Option.toList_some, Option.toList_none, List.cons_append, List.nil_append, Nat.add_left_cancel_iff, Nat.left_eq_add, Nat.add_eq_left, Nat.reduceEqDiff, if_true, if_false, ite_true, ite_false, false_and, and_false, false_or, or_false, reduceIte, reduceCtorEq, and_self, z_4, z_5, z_7, z_8, z_10, z_16, z_20, z_64, not_false_eq_true, b1, b2, W1, at0, c_dig0 (show ¬ dg 256 by decide) (Nat.le_refl _)]
    exact Iff.rfl
  | some i =>
    obtain ⟨u, hu⟩ := hr i rfl
    have hi := tx_in (V := V) (i := i) (by have := VL_128 hu; omega)
    have at0 : ∀ {Q : Option Value → PzH → Prop}, pz_M (d + 2) mX6_at [.ref r, .int (kyOf (some i))] h Q ↔ Q (some (.int (bI (tx V i)))) h := fun {Q} => c_atO (r' := some i) W (fun j z => by have := Option.some.inj z; omega)
    have et : tlO V (some i) = if dg (tx V i) then nI (stN (tx V) i) else -1 := rfl
    rw [et]
    by_cases q : dg (tx V i)
    · have hs : stF (tx V) V.length i = none := by
        rcases VL_kind hu with z | z | z
        · exact z.2.1
        · have := q.2; omega
        · have := q.2; omega
      have dc : ∀ {Q : Option Value → PzH → Prop}, pz_M (d + 2) mX1_decimal [.ref 11, .int (kyOf (some i))] h Q ↔ Q (some (.int (nI (stN (tx V) i)))) h := fun {Q} => c_decS B' hs
      rw [if_pos q]
      simp only [enX1_textLength, uX1_textLength_0, uX1_textLength_0o, uX1_textLength_0f, uX1_textLength_1, uX1_textLength_4, uX1_textLength_5, uX1_textLength_8, uX1_textLength_11, uX1_textLength_14, uX1_textLength_14o, uX1_textLength_14f, uX1_textLength_15, uX1_textLength_16, uX1_textLength_19, uX1_textLength_22, uX1_textLength_23, pq_C_sI, pq_C_sJ, pq_C_sR, pq_C_sA, pq_L_sI, pq_L_sJ, pq_L_sR, pq_L_sA, pq_I_sI, pq_I_sJ, pq_I_sR, pq_I_sA, pq_J_sI, pq_J_sJ, pq_J_sR, pq_J_sA, pq_R_sI, pq_R_sJ, pq_R_sR, pq_R_sA, pq_N_sI, pq_N_sJ, pq_N_sR, pq_N_sA, pq_S_sI, pq_S_sJ, pq_S_sR, pq_S_sA, pz_rf_s, pz_cut_i, pz_cut_r, pz_cut_n, pz_cut_f, pz_cut_u, pz_cut_o, true_and, and_true, true_or, or_true, Option.toList_some, Option.toList_none, List.cons_append, List.nil_append, Nat.add_left_cancel_iff, Nat.left_eq_add, Nat.add_eq_left, Nat.reduceEqDiff, if_true, if_false, ite_true, ite_false, false_and, and_false, false_or, or_false, reduceIte, reduceCtorEq, and_self, z_4, z_5, z_7, z_8, z_10, z_16, z_20, z_64, not_false_eq_true, b1, b2, W1, at0, c_dig1 q, show ¬ (1 : Int32) = 0 by decide, dc]
    · rw [if_neg q]
      simp only [enX1_textLength, uX1_textLength_0, uX1_textLength_0o, uX1_textLength_0f, uX1_textLength_1, uX1_textLength_4, uX1_textLength_5, uX1_textLength_8, uX1_textLength_11, uX1_textLength_14, uX1_textLength_14o, uX1_textLength_14f, uX1_textLength_15, uX1_textLength_16, uX1_textLength_19, uX1_textLength_22, uX1_textLength_23, pq_C_sI, pq_C_sJ, pq_C_sR, pq_C_sA, pq_L_sI, pq_L_sJ, pq_L_sR, pq_L_sA, pq_I_sI, pq_I_sJ, pq_I_sR, pq_I_sA, pq_J_sI, pq_J_sJ, pq_J_sR, pq_J_sA, pq_R_sI, pq_R_sJ, pq_R_sR, pq_R_sA, pq_N_sI, pq_N_sJ, pq_N_sR, pq_N_sA, pq_S_sI, pq_S_sJ, pq_S_sR, pq_S_sA, pz_rf_s, pz_cut_i, pz_cut_r, pz_cut_n, pz_cut_f, pz_cut_u, pz_cut_o, true_and, and_true, true_or, or_true, Option.toList_some, Option.toList_none, List.cons_append, List.nil_append, Nat.add_left_cancel_iff, Nat.left_eq_add, Nat.add_eq_left, Nat.reduceEqDiff, if_true, if_false, ite_true, ite_false, false_and, and_false, false_or, or_false, reduceIte, reduceCtorEq, and_self, z_4, z_5, z_7, z_8, z_10, z_16, z_20, z_64, not_false_eq_true, b1, b2, W1, at0, c_dig0 q tx_le]
/-- a key's text -/
theorem key_ch : ∀ k, k < 7 → ∀ i, i < kl k → pz_ch (5 + k) i = nI (keyB (keyA k + i)) := by decide +kernel
theorem key_sl : ∀ k, k < 7 → pz_sl.getD (5 + k) 0 = kl k := by decide
theorem mk_all {x : Nat → Nat} : ∀ m t b, mk x t b m = allN (fun i => x (t + i) = keyB (b + i)) m := by
  have key : ∀ m t b, mk x t b m = true ↔ ∀ i, i < m → x (t + i) = keyB (b + i) := by
    intro m
    induction m with
    | zero => intro t b; simp [mk]
    | succ m ih =>
      intro t b
      unfold mk
      rw [Bool.and_eq_true, decide_eq_true_eq, ih]
      constructor
      · rintro ⟨h1, h2⟩ i hi
        cases i with
        | zero => exact h1
        | succ i =>
          have := h2 i (by omega)
          rw [show t + 1 + i = t + (i + 1) by omega, show b + 1 + i = b + (i + 1) by omega] at this
          exact this
      · intro h1
        refine ⟨h1 0 (by omega), fun i hi => ?_⟩
        have := h1 (i + 1) (by omega)
        rw [show t + 1 + i = t + (i + 1) by omega, show b + 1 + i = b + (i + 1) by omega]
        exact this
  intro m t b
  rw [Bool.eq_iff_iff, key, allN_iff]
theorem c_isText {q k : Nat} (B : BT h r a cap V) (hk : k < 7) (hs : stF (tx V) V.length q = none) (hE : pz_I h 14 q = nI (stEnd (tx V) q)) {y : UInt32} (hy : y.toNat = 5 + k) : pz_M (d + 4) mX1_isText [.ref 11, .int (nI q), .float y] h Q ↔ Q (some (.int (if isK (tx V) q k = true then 1 else 0))) h := by
  have B' := B
  obtain ⟨⟨b1, b2, b3, b4, b5⟩, W, n1, n2, n3, n4⟩ := B
  have W1 := W.1
  have w6 := W.2.2.2.2.2.1
  have w8 := W.2.2.2.2.2.2.2.1
  have gq := stEnd_gt hs
  obtain ⟨sk, _, sN⟩ := stF_SK hs
  obtain ⟨ka, kb⟩ := keyA_le k hk
  have kl12 : kl k ≤ 12 ∧ 1 ≤ kl k := by
    have : ∀ k, k < 7 → kl k ≤ 12 ∧ 1 ≤ kl k := by decide
    exact this k hk
  have hdg : dg (tx V q) := by
    have := sk.2.2.1 0 (by have := sk.1; omega)
    rwa [Nat.add_zero] at this
  have sl := key_sl k hk
  have sn : 5 + k < pz_sn := by
    have : pz_sn = 14 := rfl
    omega
  have tl : ∀ {Q : Option Value → PzH → Prop}, pz_M (d + 3) mX1_textLength [.ref 11, .int (nI q)] h Q ↔ Q (some (.int (nI (stN (tx V) q)))) h := fun {Q} => by
    have := c_textLength (d := d) (Q := Q) (r' := some q) B' (fun i z => by have e := Option.some.inj z; subst e; exact ⟨_, VL_str hs⟩)
    have et : tlO V (some q) = if dg (tx V q) then nI (stN (tx V) q) else -1 := rfl
    rw [et, if_pos hdg] at this
    exact this
  have eo : ∀ {Q : Option Value → PzH → Prop}, pz_M (d + 3) mX1_endOf [.ref 11, .int (nI q)] h Q ↔ Q (some (.int (nI (stEnd (tx V) q)))) h := fun {Q} => by
    have := c_endOf (d := d + 2) (Q := Q) B' (p := q) (by omega)
    rw [hE] at this
    exact this
  unfold isK
  simp only [enX1_isText, uX1_isText_0, uX1_isText_0o, uX1_isText_0f, uX1_isText_1, uX1_isText_2, uX1_isText_5, uX1_isText_5o, uX1_isText_5f, uX1_isText_6, uX1_isText_9, uX1_isText_10, uX1_isText_11, uX1_isText_11o, uX1_isText_11f, uX1_isText_12, uX1_isText_13, uX1_isText_16, uX1_isText_16o, uX1_isText_16f, uX1_isText_17, uX1_isText_20, uX1_isText_23, uX1_isText_24, uX1_isText_25, uX1_isText_26, uX1_isText_30, uX1_isText_30o, uX1_isText_30f, uX1_isText_31, uX1_isText_34, uX1_isText_37, uX1_isText_37o, uX1_isText_37f, uX1_isText_38, uX1_isText_41, uX1_isText_42, uX1_isText_44, uX1_isText_45, uX1_isText_48, uX1_isText_48o, uX1_isText_48f, uX1_isText_49, uX1_isText_51, uX1_isText_54, uX1_isText_57, uX1_isText_58, uX1_isText_59, uX1_isText_62, uX1_isText_65, uX1_isText_66, pq_C_sI, pq_C_sJ, pq_C_sR, pq_C_sA, pq_L_sI, pq_L_sJ, pq_L_sR, pq_L_sA, pq_I_sI, pq_I_sJ, pq_I_sR, pq_I_sA, pq_J_sI, pq_J_sJ, pq_J_sR, pq_J_sA, pq_R_sI, pq_R_sJ, pq_R_sR, pq_R_sA, pq_N_sI, pq_N_sJ, pq_N_sR, pq_N_sA, pq_S_sI, pq_S_sJ, pq_S_sR, pq_S_sA, pz_rf_s, pz_cut_i, pz_cut_r, pz_cut_n, pz_cut_f, pz_cut_u, pz_cut_o, true_and, and_true, true_or, or_true, Option.toList_some, Option.toList_none, List.cons_append, List.nil_append, Nat.add_left_cancel_iff, Nat.left_eq_add, Nat.add_eq_left, Nat.reduceEqDiff, if_true, if_false, ite_true, ite_false, false_and, and_false, false_or, or_false, reduceIte, reduceCtorEq, and_self, z_4, z_5, z_7, z_8, z_10, z_16, z_20, z_64, not_false_eq_true, b1, eo, hy, sl, sn, tl]
  by_cases q1 : stN (tx V) q = kl k
  · rw [if_pos (by rw [q1]), decide_eq_true q1, Bool.true_and]
    have e1 : nI (stEnd (tx V) q) - nI (kl k) = nI (stE (tx V) q + 1) := by
      rw [← q1, pk_sub (show stN (tx V) q ≤ stEnd (tx V) q by show _ ≤ stE (tx V) q + 1 + stN (tx V) q; omega)]
      congr 1
      show stE (tx V) q + 1 + stN (tx V) q - stN (tx V) q = _
      omega
    have g2 : stE (tx V) q + 1 + kl k ≤ V.length := by rw [← q1]; exact gq.2
    rw [e1, mk_all]
    have key := wp_chk (d := d + 3) (m := mX1_isText) (pc := 28) (h := h) (Q := Q) (kl k) (fun i => tx V (stE (tx V) q + 1 + i) = keyB (keyA k + i)) (fun i => [.ref 11, .int (nI q), .float y, .int (nI (stE (tx V) q + 1)), .int (nI i)]) (Q (some (.int 0)) h) (fun i hi => by
      have hin : pz_in (nI i) (kl k) = true := pz_in_nI hi (by omega)
      have kc := key_ch k hk i hi
      have kB := keyB_lt (keyA k + i) (by unfold kl at hi; omega)
      rw [uX1_isText_28]
      simp only [enX1_isText, uX1_isText_0, uX1_isText_0o, uX1_isText_0f, uX1_isText_1, uX1_isText_2, uX1_isText_5, uX1_isText_5o, uX1_isText_5f, uX1_isText_6, uX1_isText_9, uX1_isText_10, uX1_isText_11, uX1_isText_11o, uX1_isText_11f, uX1_isText_12, uX1_isText_13, uX1_isText_16, uX1_isText_16o, uX1_isText_16f, uX1_isText_17, uX1_isText_20, uX1_isText_23, uX1_isText_24, uX1_isText_25, uX1_isText_26, uX1_isText_30, uX1_isText_30o, uX1_isText_30f, uX1_isText_31, uX1_isText_34, uX1_isText_37, uX1_isText_37o, uX1_isText_37f, uX1_isText_38, uX1_isText_41, uX1_isText_42, uX1_isText_44, uX1_isText_45, uX1_isText_48, uX1_isText_48o, uX1_isText_48f, uX1_isText_49, uX1_isText_51, uX1_isText_54, uX1_isText_57, uX1_isText_58, uX1_isText_59, uX1_isText_62, uX1_isText_65, uX1_isText_66, pq_C_sI, pq_C_sJ, pq_C_sR, pq_C_sA, pq_L_sI, pq_L_sJ, pq_L_sR, pq_L_sA, pq_I_sI, pq_I_sJ, pq_I_sR, pq_I_sA, pq_J_sI, pq_J_sJ, pq_J_sR, pq_J_sA, pq_R_sI, pq_R_sJ, pq_R_sR, pq_R_sA, pq_N_sI, pq_N_sJ, pq_N_sR, pq_N_sA, pq_S_sI, pq_S_sJ, pq_S_sR, pq_S_sA, pz_rf_s, pz_cut_i, pz_cut_r, pz_cut_n, pz_cut_f, pz_cut_u, pz_cut_o, true_and, and_true, true_or, or_true, Option.toList_some, Option.toList_none, List.cons_append, List.nil_append, Nat.add_left_cancel_iff, Nat.left_eq_add, Nat.add_eq_left, Nat.reduceEqDiff, if_true, if_false, ite_true, ite_false, false_and, and_false, false_or, or_false, reduceIte, reduceCtorEq, and_self, z_4, z_5, z_7, z_8, z_10, z_16, z_20, z_64, not_false_eq_true, b1, b2, W1, hy, sl, sn, nI_add, c_bAt W (show stE (tx V) q + 1 + i < 2 ^ 31 by omega), hin, nI_clamp (show i < 2 ^ 31 by omega), kc, nI_1]
      rw [if_neg (nI_ge hi (by omega))]
      by_cases z : tx V (stE (tx V) q + 1 + i) = keyB (keyA k + i)
      · rw [if_pos ((bI_eq tx_le (by omega)).mpr z), if_pos z]
      · rw [if_neg (fun y => z ((bI_eq tx_le (by omega)).mp y)), if_neg z])
    refine Iff.trans (show _ ↔ _ from key) ?_
    by_cases z : allN (fun i => tx V (stE (tx V) q + 1 + i) = keyB (keyA k + i)) (kl k) = true
    · rw [if_pos z, if_pos z, uX1_isText_28]
      simp only [enX1_isText, uX1_isText_0, uX1_isText_0o, uX1_isText_0f, uX1_isText_1, uX1_isText_2, uX1_isText_5, uX1_isText_5o, uX1_isText_5f, uX1_isText_6, uX1_isText_9, uX1_isText_10, uX1_isText_11, uX1_isText_11o, uX1_isText_11f, uX1_isText_12, uX1_isText_13, uX1_isText_16, uX1_isText_16o, uX1_isText_16f, uX1_isText_17, uX1_isText_20, uX1_isText_23, uX1_isText_24, uX1_isText_25, uX1_isText_26, uX1_isText_30, uX1_isText_30o, uX1_isText_30f, uX1_isText_31, uX1_isText_34, uX1_isText_37, uX1_isText_37o, uX1_isText_37f, uX1_isText_38, uX1_isText_41, uX1_isText_42, uX1_isText_44, uX1_isText_45, uX1_isText_48, uX1_isText_48o, uX1_isText_48f, uX1_isText_49, uX1_isText_51, uX1_isText_54, uX1_isText_57, uX1_isText_58, uX1_isText_59, uX1_isText_62, uX1_isText_65, uX1_isText_66, pq_C_sI, pq_C_sJ, pq_C_sR, pq_C_sA, pq_L_sI, pq_L_sJ, pq_L_sR, pq_L_sA, pq_I_sI, pq_I_sJ, pq_I_sR, pq_I_sA, pq_J_sI, pq_J_sJ, pq_J_sR, pq_J_sA, pq_R_sI, pq_R_sJ, pq_R_sR, pq_R_sA, pq_N_sI, pq_N_sJ, pq_N_sR, pq_N_sA, pq_S_sI, pq_S_sJ, pq_S_sR, pq_S_sA, pz_rf_s, pz_cut_i, pz_cut_r, pz_cut_n, pz_cut_f, pz_cut_u, pz_cut_o, true_and, and_true, true_or, or_true, Option.toList_some, Option.toList_none, List.cons_append, List.nil_append, Nat.add_left_cancel_iff, Nat.left_eq_add, Nat.add_eq_left, Nat.reduceEqDiff, if_true, if_false, ite_true, ite_false, false_and, and_false, false_or, or_false, reduceIte, reduceCtorEq, and_self, z_4, z_5, z_7, z_8, z_10, z_16, z_20, z_64, not_false_eq_true, hy, sl, sn]
      rw [if_pos (nI_le (Nat.le_refl _) (by omega))]
    · rw [if_neg z, if_neg z]
  · rw [if_neg (fun z => q1 ((nI_eq (by omega) (by omega)).mp z)), decide_eq_false q1, Bool.false_and, if_neg (by decide)]
theorem fd_l (B : BT h r a cap V) {k : Nat} (hk : k < 7) {y : UInt32} (hy : y.toNat = 5 + k) {v1 : Int32} : ∀ (m q F cn e : Nat) (ky : Option Nat) (v5 : Value), V.length - q ≤ m → DE h V (some (true, ky)) q e → cn ≤ q → 2 * (V.length - q) + 2 ≤ F → pz_cut v5 = v5 → (wp (d + 4) mX1_find 22 [.ref 11, .int v1, .float y, .int (nI q), .int (nI cn), v5] [] h Q ↔ Q (some (.int (kyOf (fnd (tx V) V.length k F q)))) h) := by
  have B' := B
  obtain ⟨⟨b1, b2, b3, b4, b5⟩, W, n1, n2, n3, n4⟩ := B
  have W1 := W.1
  have w6 := W.2.2.2.2.2.1
  have w8 := W.2.2.2.2.2.2.2.1
  intro m
  induction m with
  | zero =>
    intro q F cn e ky v5 hm HD
    have := DE_lt HD
    omega
  | succ m ih =>
    intro q F cn e ky v5 hm HD hcn hF c5
    have ql := DE_lt HD
    obtain ⟨F, rfl⟩ : ∃ F', F = F' + 1 := ⟨F - 1, by omega⟩
    have at1 : ∀ {Q : Option Value → PzH → Prop}, pz_M (d + 4) mX6_at [.ref r, .int (nI q)] h Q ↔ Q (some (.int (bI (tx V q)))) h := fun {Q} => c_bAt W (by omega)
    have sz1 : ∀ {Q : Option Value → PzH → Prop}, pz_M (d + 4) mX6_size [.ref r] h Q ↔ Q (some (.int (nI V.length))) h := fun {Q} => c_size W
    have st : fnd (tx V) V.length k (F + 1) q = if tx V q = 101 then none else if isK (tx V) q k = true then some (stEnd (tx V) q) else fnd (tx V) V.length k F (bhd (tx V) V.length (stEnd (tx V) q)) := rfl
    rw [st, uX1_find_22]
    have lt : ¬ nI V.length ≤ nI cn := nI_ge (by omega) (by omega)
    by_cases h1 : tx V q = 101
    · rw [if_pos h1]
      have nd : ¬ dg (tx V q) := by rw [h1]; decide
      simp only [enX1_find, uX1_find_0, uX1_find_0o, uX1_find_0f, uX1_find_1, uX1_find_4, uX1_find_5, uX1_find_8, uX1_find_10, uX1_find_13, uX1_find_14, uX1_find_15, uX1_find_16, uX1_find_17, uX1_find_18, uX1_find_19, uX1_find_20, uX1_find_24, uX1_find_24o, uX1_find_24f, uX1_find_25, uX1_find_28, uX1_find_31, uX1_find_34, uX1_find_34o, uX1_find_34f, uX1_find_35, uX1_find_38, uX1_find_39, uX1_find_42, uX1_find_45, uX1_find_48, uX1_find_48o, uX1_find_48f, uX1_find_49, uX1_find_50, uX1_find_53, uX1_find_55, uX1_find_55o, uX1_find_55f, uX1_find_56, uX1_find_57, uX1_find_57o, uX1_find_57f, uX1_find_58, uX1_find_61, uX1_find_64, uX1_find_66, uX1_find_67, uX1_find_67o, uX1_find_67f, uX1_find_68, uX1_find_70, uX1_find_73, uX1_find_74, uX1_find_77, uX1_find_80, uX1_find_81, pq_C_sI, pq_C_sJ, pq_C_sR, pq_C_sA, pq_L_sI, pq_L_sJ, pq_L_sR, pq_L_sA, pq_I_sI, pq_I_sJ, pq_I_sR, pq_I_sA, pq_J_sI, pq_J_sJ, pq_J_sR, pq_J_sA, pq_R_sI, pq_R_sJ, pq_R_sR, pq_R_sA, pq_N_sI, pq_N_sJ, pq_N_sR, pq_N_sA, pq_S_sI, pq_S_sJ, pq_S_sR, pq_S_sA, pz_rf_s, pz_cut_i, pz_cut_r, pz_cut_n, pz_cut_f, pz_cut_u, pz_cut_o, true_and, and_true, true_or, or_true, Option.toList_some, Option.toList_none, List.cons_append, List.nil_append, Nat.add_left_cancel_iff, Nat.left_eq_add, Nat.add_eq_left, Nat.reduceEqDiff, if_true, if_false, ite_true, ite_false, false_and, and_false, false_or, or_false, reduceIte, reduceCtorEq, and_self, z_4, z_5, z_7, z_8, z_10, z_16, z_20, z_64, not_false_eq_true, b1, b2, W1, sz1, at1, lt, c_dig0 nd tx_le]
      exact Iff.rfl
    · rw [if_neg h1]
      obtain ⟨hs, hE, u, HV, HD2⟩ := DE_key HD h1
      have sk := (stF_SK hs).1
      have hdg : dg (tx V q) := by
        have := sk.2.2.1 0 (by have := sk.1; omega)
        rwa [Nat.add_zero] at this
      have sg := stEnd_gt hs
      have vl := VE_lt HV
      have eo : ∀ {Q : Option Value → PzH → Prop}, pz_M (d + 4) mX1_endOf [.ref 11, .int (nI q)] h Q ↔ Q (some (.int (nI (stEnd (tx V) q)))) h := fun {Q} => by
        have := c_endOf (d := d + 3) (Q := Q) B' (p := q) (by omega)
        rw [hE] at this
        exact this
      have eo2 : ∀ {Q : Option Value → PzH → Prop}, pz_M (d + 4) mX1_endOf [.ref 11, .int (nI (stEnd (tx V) q))] h Q ↔ Q (some (.int (nI u))) h := fun {Q} => by
        have := c_endOf (d := d + 3) (Q := Q) B' (p := stEnd (tx V) q) (by omega)
        rw [VE_E HV] at this
        exact this
      simp only [enX1_find, uX1_find_0, uX1_find_0o, uX1_find_0f, uX1_find_1, uX1_find_4, uX1_find_5, uX1_find_8, uX1_find_10, uX1_find_13, uX1_find_14, uX1_find_15, uX1_find_16, uX1_find_17, uX1_find_18, uX1_find_19, uX1_find_20, uX1_find_24, uX1_find_24o, uX1_find_24f, uX1_find_25, uX1_find_28, uX1_find_31, uX1_find_34, uX1_find_34o, uX1_find_34f, uX1_find_35, uX1_find_38, uX1_find_39, uX1_find_42, uX1_find_45, uX1_find_48, uX1_find_48o, uX1_find_48f, uX1_find_49, uX1_find_50, uX1_find_53, uX1_find_55, uX1_find_55o, uX1_find_55f, uX1_find_56, uX1_find_57, uX1_find_57o, uX1_find_57f, uX1_find_58, uX1_find_61, uX1_find_64, uX1_find_66, uX1_find_67, uX1_find_67o, uX1_find_67f, uX1_find_68, uX1_find_70, uX1_find_73, uX1_find_74, uX1_find_77, uX1_find_80, uX1_find_81, pq_C_sI, pq_C_sJ, pq_C_sR, pq_C_sA, pq_L_sI, pq_L_sJ, pq_L_sR, pq_L_sA, pq_I_sI, pq_I_sJ, pq_I_sR, pq_I_sA, pq_J_sI, pq_J_sJ, pq_J_sR, pq_J_sA, pq_R_sI, pq_R_sJ, pq_R_sR, pq_R_sA, pq_N_sI, pq_N_sJ, pq_N_sR, pq_N_sA, pq_S_sI, pq_S_sJ, pq_S_sR, pq_S_sA, pz_rf_s, pz_cut_i, pz_cut_r, pz_cut_n, pz_cut_f, pz_cut_u, pz_cut_o, true_and, and_true, true_or, or_true, Option.toList_some, Option.toList_none, List.cons_append, List.nil_append, Nat.add_left_cancel_iff, Nat.left_eq_add, Nat.add_eq_left, Nat.reduceEqDiff, if_true, if_false, ite_true, ite_false, false_and, and_false, false_or, or_false, reduceIte, reduceCtorEq, and_self, z_4, z_5, z_7, z_8, z_10, z_16, z_20, z_64, not_false_eq_true, b1, b2, W1, sz1, at1, lt, c_dig1 hdg, show ¬ (1 : Int32) = 0 by decide, eo, c_isText B' hk hs hE hy]
      by_cases qk : isK (tx V) q k = true
      · rw [if_pos qk, if_pos qk, if_neg (show ¬ (1 : Int32) = 0 by decide)]
        exact Iff.rfl
      · rw [if_neg qk, if_neg qk, if_pos rfl]
        simp only [enX1_find, uX1_find_0, uX1_find_0o, uX1_find_0f, uX1_find_1, uX1_find_4, uX1_find_5, uX1_find_8, uX1_find_10, uX1_find_13, uX1_find_14, uX1_find_15, uX1_find_16, uX1_find_17, uX1_find_18, uX1_find_19, uX1_find_20, uX1_find_24, uX1_find_24o, uX1_find_24f, uX1_find_25, uX1_find_28, uX1_find_31, uX1_find_34, uX1_find_34o, uX1_find_34f, uX1_find_35, uX1_find_38, uX1_find_39, uX1_find_42, uX1_find_45, uX1_find_48, uX1_find_48o, uX1_find_48f, uX1_find_49, uX1_find_50, uX1_find_53, uX1_find_55, uX1_find_55o, uX1_find_55f, uX1_find_56, uX1_find_57, uX1_find_57o, uX1_find_57f, uX1_find_58, uX1_find_61, uX1_find_64, uX1_find_66, uX1_find_67, uX1_find_67o, uX1_find_67f, uX1_find_68, uX1_find_70, uX1_find_73, uX1_find_74, uX1_find_77, uX1_find_80, uX1_find_81, pq_C_sI, pq_C_sJ, pq_C_sR, pq_C_sA, pq_L_sI, pq_L_sJ, pq_L_sR, pq_L_sA, pq_I_sI, pq_I_sJ, pq_I_sR, pq_I_sA, pq_J_sI, pq_J_sJ, pq_J_sR, pq_J_sA, pq_R_sI, pq_R_sJ, pq_R_sR, pq_R_sA, pq_N_sI, pq_N_sJ, pq_N_sR, pq_N_sA, pq_S_sI, pq_S_sJ, pq_S_sR, pq_S_sA, pz_rf_s, pz_cut_i, pz_cut_r, pz_cut_n, pz_cut_f, pz_cut_u, pz_cut_o, true_and, and_true, true_or, or_true, Option.toList_some, Option.toList_none, List.cons_append, List.nil_append, Nat.add_left_cancel_iff, Nat.left_eq_add, Nat.add_eq_left, Nat.reduceEqDiff, if_true, if_false, ite_true, ite_false, false_and, and_false, false_or, or_false, reduceIte, reduceCtorEq, and_self, z_4, z_5, z_7, z_8, z_10, z_16, z_20, z_64, not_false_eq_true, eo2, nI_1]
        rw [VL_bhd (VE_VL HV)]
        exact ih u F (cn + 1) e (some q) _ (by omega) HD2 (by omega) (by omega) rfl
/-- where the VALUE of a KEY is, of a place that may be none or no dictionary -/
def fiO (V : List Int8) (k : Nat) : Option Nat → Option Nat
  | some p => if tx V p = 100 then inK (tx V) V.length p k else none
  | none => none
theorem c_find {r' : Option Nat} (B : BT h r a cap V) {k : Nat} (hk : k < 7) {y : UInt32} (hy : y.toNat = 5 + k) (hr : ∀ i, r' = some i → ∃ u, VE h V i u) : pz_M (d + 5) mX1_find [.ref 11, .int (kyOf r'), .float y] h Q ↔ Q (some (.int (kyOf (fiO V k r')))) h := by
  have B' := B
  obtain ⟨⟨b1, b2, b3, b4, b5⟩, W, n1, n2, n3, n4⟩ := B
  have W1 := W.1
  have w6 := W.2.2.2.2.2.1
  have w8 := W.2.2.2.2.2.2.2.1
  cases r' with
  | none =>
    have at0 : ∀ {Q : Option Value → PzH → Prop}, pz_M (d + 4) mX6_at [.ref r, .int (kyOf none)] h Q ↔ Q (some (.int (-1))) h := fun {Q} => c_atO (r' := none) W (fun i z => absurd z (by simp))
    simp only [enX1_find, uX1_find_0, uX1_find_0o, uX1_find_0f, uX1_find_1, uX1_find_4, uX1_find_5, uX1_find_8, uX1_find_10, uX1_find_13, uX1_find_14, uX1_find_15, uX1_find_16, uX1_find_17, uX1_find_18, uX1_find_19, uX1_find_20, uX1_find_24, uX1_find_24o, uX1_find_24f, uX1_find_25, uX1_find_28, uX1_find_31, uX1_find_34, uX1_find_34o, uX1_find_34f, uX1_find_35, uX1_find_38, uX1_find_39, uX1_find_42, uX1_find_45, uX1_find_48, uX1_find_48o, uX1_find_48f, uX1_find_49, uX1_find_50, uX1_find_53, uX1_find_55, uX1_find_55o, uX1_find_55f, uX1_find_56, uX1_find_57, uX1_find_57o, uX1_find_57f, uX1_find_58, uX1_find_61, uX1_find_64, uX1_find_66, uX1_find_67, uX1_find_67o, uX1_find_67f, uX1_find_68, uX1_find_70, uX1_find_73, uX1_find_74, uX1_find_77, uX1_find_80, uX1_find_81, pq_C_sI, pq_C_sJ, pq_C_sR, pq_C_sA, pq_L_sI, pq_L_sJ, pq_L_sR, pq_L_sA, pq_I_sI, pq_I_sJ, pq_I_sR, pq_I_sA, pq_J_sI, pq_J_sJ, pq_J_sR, pq_J_sA, pq_R_sI, pq_R_sJ, pq_R_sR, pq_R_sA, pq_N_sI, pq_N_sJ, pq_N_sR, pq_N_sA, pq_S_sI, pq_S_sJ, pq_S_sR, pq_S_sA, pz_rf_s, pz_cut_i, pz_cut_r, pz_cut_n, pz_cut_f, pz_cut_u, pz_cut_o, true_and, and_true, true_or, or_true, Option.toList_some, Option.toList_none, List.cons_append, List.nil_append, Nat.add_left_cancel_iff, Nat.left_eq_add, Nat.add_eq_left, Nat.reduceEqDiff, if_true, if_false, ite_true, ite_false, false_and, and_false, false_or, or_false, reduceIte, reduceCtorEq, and_self, z_4, z_5, z_7, z_8, z_10, z_16, z_20, z_64, not_false_eq_true, b1, b2, W1, at0, show ¬ (-1 : Int32) = 100 by decide]
    exact Iff.rfl
  | some i =>
    obtain ⟨u, hu⟩ := hr i rfl
    have il := VE_lt hu
    have at0 : ∀ {Q : Option Value → PzH → Prop}, pz_M (d + 4) mX6_at [.ref r, .int (kyOf (some i))] h Q ↔ Q (some (.int (bI (tx V i)))) h := fun {Q} => c_atO (r' := some i) W (fun j z => by have := Option.some.inj z; omega)
    have ef : fiO V k (some i) = if tx V i = 100 then inK (tx V) V.length i k else none := rfl
    rw [ef]
    by_cases q : tx V i = 100
    · rw [if_pos q]
      simp only [enX1_find, uX1_find_0, uX1_find_0o, uX1_find_0f, uX1_find_1, uX1_find_4, uX1_find_5, uX1_find_8, uX1_find_10, uX1_find_13, uX1_find_14, uX1_find_15, uX1_find_16, uX1_find_17, uX1_find_18, uX1_find_19, uX1_find_20, uX1_find_24, uX1_find_24o, uX1_find_24f, uX1_find_25, uX1_find_28, uX1_find_31, uX1_find_34, uX1_find_34o, uX1_find_34f, uX1_find_35, uX1_find_38, uX1_find_39, uX1_find_42, uX1_find_45, uX1_find_48, uX1_find_48o, uX1_find_48f, uX1_find_49, uX1_find_50, uX1_find_53, uX1_find_55, uX1_find_55o, uX1_find_55f, uX1_find_56, uX1_find_57, uX1_find_57o, uX1_find_57f, uX1_find_58, uX1_find_61, uX1_find_64, uX1_find_66, uX1_find_67, uX1_find_67o, uX1_find_67f, uX1_find_68, uX1_find_70, uX1_find_73, uX1_find_74, uX1_find_77, uX1_find_80, uX1_find_81, pq_C_sI, pq_C_sJ, pq_C_sR, pq_C_sA, pq_L_sI, pq_L_sJ, pq_L_sR, pq_L_sA, pq_I_sI, pq_I_sJ, pq_I_sR, pq_I_sA, pq_J_sI, pq_J_sJ, pq_J_sR, pq_J_sA, pq_R_sI, pq_R_sJ, pq_R_sR, pq_R_sA, pq_N_sI, pq_N_sJ, pq_N_sR, pq_N_sA, pq_S_sI, pq_S_sJ, pq_S_sR, pq_S_sA, pz_rf_s, pz_cut_i, pz_cut_r, pz_cut_n, pz_cut_f, pz_cut_u, pz_cut_o, true_and, and_true, true_or, or_true, Option.toList_some, Option.toList_none, List.cons_append, List.nil_append, Nat.add_left_cancel_iff, Nat.left_eq_add, Nat.add_eq_left, Nat.reduceEqDiff, if_true, if_false, ite_true, ite_false, false_and, and_false, false_or, or_false, reduceIte, reduceCtorEq, and_self, z_4, z_5, z_7, z_8, z_10, z_16, z_20, z_64, not_false_eq_true, b1, b2, W1, at0, show bI (tx V i) = 100 by rw [q]; rfl]
      rw [show kyOf (some i) + 1 = nI (i + 1) from nI_1 ..]
      have HD := VE_in hu (Or.inr q)
      rw [decide_eq_true q] at HD
      exact fd_l B' hk hy V.length (i + 1) (2 * V.length + 1) 0 u none (.retAddr 0) (by omega) HD (by omega) (by omega) rfl
    · rw [if_neg q]
      simp only [enX1_find, uX1_find_0, uX1_find_0o, uX1_find_0f, uX1_find_1, uX1_find_4, uX1_find_5, uX1_find_8, uX1_find_10, uX1_find_13, uX1_find_14, uX1_find_15, uX1_find_16, uX1_find_17, uX1_find_18, uX1_find_19, uX1_find_20, uX1_find_24, uX1_find_24o, uX1_find_24f, uX1_find_25, uX1_find_28, uX1_find_31, uX1_find_34, uX1_find_34o, uX1_find_34f, uX1_find_35, uX1_find_38, uX1_find_39, uX1_find_42, uX1_find_45, uX1_find_48, uX1_find_48o, uX1_find_48f, uX1_find_49, uX1_find_50, uX1_find_53, uX1_find_55, uX1_find_55o, uX1_find_55f, uX1_find_56, uX1_find_57, uX1_find_57o, uX1_find_57f, uX1_find_58, uX1_find_61, uX1_find_64, uX1_find_66, uX1_find_67, uX1_find_67o, uX1_find_67f, uX1_find_68, uX1_find_70, uX1_find_73, uX1_find_74, uX1_find_77, uX1_find_80, uX1_find_81, pq_C_sI, pq_C_sJ, pq_C_sR, pq_C_sA, pq_L_sI, pq_L_sJ, pq_L_sR, pq_L_sA, pq_I_sI, pq_I_sJ, pq_I_sR, pq_I_sA, pq_J_sI, pq_J_sJ, pq_J_sR, pq_J_sA, pq_R_sI, pq_R_sJ, pq_R_sR, pq_R_sA, pq_N_sI, pq_N_sJ, pq_N_sR, pq_N_sA, pq_S_sI, pq_S_sJ, pq_S_sR, pq_S_sA, pz_rf_s, pz_cut_i, pz_cut_r, pz_cut_n, pz_cut_f, pz_cut_u, pz_cut_o, true_and, and_true, true_or, or_true, Option.toList_some, Option.toList_none, List.cons_append, List.nil_append, Nat.add_left_cancel_iff, Nat.left_eq_add, Nat.add_eq_left, Nat.reduceEqDiff, if_true, if_false, ite_true, ite_false, false_and, and_false, false_or, or_false, reduceIte, reduceCtorEq, and_self, z_4, z_5, z_7, z_8, z_10, z_16, z_20, z_64, not_false_eq_true, b1, b2, W1, at0]
      rw [if_neg (show ¬ bI (tx V i) = 100 from fun z => q ((bI_eq tx_le (k := 100) (by decide)).mp z))]
      exact Iff.rfl
theorem fnd_VE {k : Nat} : ∀ (m q F e : Nat) (ky : Option Nat) (v : Nat), V.length - q ≤ m → DE h V (some (true, ky)) q e → fnd (tx V) V.length k F q = some v → ∃ u, VE h V v u := by
  intro m
  induction m with
  | zero =>
    intro q F e ky v hm HD
    have := DE_lt HD
    omega
  | succ m ih =>
    intro q F e ky v hm HD hf
    have ql := DE_lt HD
    cases F with
    | zero => exact absurd hf (by simp [fnd])
    | succ F =>
      have st : fnd (tx V) V.length k (F + 1) q = if tx V q = 101 then none else if isK (tx V) q k = true then some (stEnd (tx V) q) else fnd (tx V) V.length k F (bhd (tx V) V.length (stEnd (tx V) q)) := rfl
      rw [st] at hf
      by_cases h1 : tx V q = 101
      · rw [if_pos h1] at hf; exact absurd hf (by simp)
      · rw [if_neg h1] at hf
        obtain ⟨hs, hE, u, HV, HD2⟩ := DE_key HD h1
        have vl := VE_lt HV
        have sg := stEnd_gt hs
        by_cases qk : isK (tx V) q k = true
        · rw [if_pos qk] at hf
          rw [← Option.some.inj hf]
          exact ⟨u, HV⟩
        · rw [if_neg qk, VL_bhd (VE_VL HV)] at hf
          exact ih u F e (some q) v (by omega) HD2 hf
theorem fiO_VE {r' : Option Nat} {k v : Nat} (hr : ∀ i, r' = some i → ∃ u, VE h V i u) (hf : fiO V k r' = some v) : ∃ u, VE h V v u := by
  cases r' with
  | none => exact absurd hf (by simp [fiO])
  | some i =>
    obtain ⟨u, hu⟩ := hr i rfl
    have ef : fiO V k (some i) = if tx V i = 100 then inK (tx V) V.length i k else none := rfl
    rw [ef] at hf
    by_cases q : tx V i = 100
    · rw [if_pos q] at hf
      have HD := VE_in hu (Or.inr q)
      rw [decide_eq_true q] at HD
      exact fnd_VE V.length (i + 1) _ u none v (by omega) HD hf
    · rw [if_neg q] at hf; exact absurd hf (by simp)
end
