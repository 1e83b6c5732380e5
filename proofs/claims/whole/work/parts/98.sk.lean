/-! ===== the class: Bencode, the parse ===== -/
/-- what the parse noted: where each VALUE and KEY ends that it went through -/
def pvE (x : Nat → Nat) (n f : Nat) (md : Option (Bool × Option Nat)) (dp p : Nat) : Nat := match pv x n f md dp p with
  | .ok e => e
  | .error _ => 0
def EN (E : Nat → Int32) (x : Nat → Nat) (n : Nat) : Nat → Option (Bool × Option Nat) → Nat → Nat → Prop
  | 0, _, _, _ => True
  | f + 1, none, dp, p => E p = nI (pvE x n (f + 1) none dp p) ∧ (if dg (x p) ∨ x p = 105 then True else EN E x n f (some (decide (x p = 100), none)) (dp + 1) (p + 1))
  | f + 1, some (b, k), dp, p => if x p = 101 then True else if b = true then (E p = nI (stEnd x p) ∧ EN E x n f none dp (stEnd x p) ∧ EN E x n f (some (b, some p)) dp (pvE x n f none dp (stEnd x p))) else (EN E x n f none dp p ∧ EN E x n f (some (b, none)) dp (pvE x n f none dp p))
section
variable {x : Nat → Nat} {n : Nat}
theorem pvE_ok {f dp p e : Nat} {md : Option (Bool × Option Nat)} (h : pv x n f md dp p = .ok e) : pvE x n f md dp p = e := by
  unfold pvE
  rw [h]
theorem pv_n {f dp p : Nat} : pv x n (f + 1) none dp p = if dg (x p) then (match stF x n p with | none => .ok (stEnd x p) | some w => .error w)
      else if x p = 105 then (match nuF x p with | none => .ok (nuEnd x p) | some w => .error w)
      else if (x p = 108 ∨ x p = 100) ∧ dp < 8 then pv x n f (some (decide (x p = 100), none)) (dp + 1) (p + 1)
      else .error p := rfl
theorem pv_s {f dp p : Nat} {b : Bool} {k : Option Nat} : pv x n (f + 1) (some (b, k)) dp p = if x p = 101 then .ok (p + 1)
      else if b = true then (match stF x n p with
        | some w => .error w
        | none => if rsk x k p = true then (match pv x n f none dp (stEnd x p) with
            | .error w => .error w
            | .ok e => pv x n f (some (b, some p)) dp e) else .error p)
      else (match pv x n f none dp p with
        | .error w => .error w
        | .ok e => pv x n f (some (b, none)) dp e) := rfl
theorem stEnd_gt {p : Nat} (h : stF x n p = none) : p + 1 < stEnd x p ∧ stEnd x p ≤ n := by
  obtain ⟨⟨s1, _⟩, s2, _⟩ := stF_SK h
  have : stEnd x p = stE x p + 1 + stN x p := rfl
  omega
theorem nuEnd_gt {p : Nat} (hx : x p = 105) (h : nuF x p = none) : p + 1 < nuEnd x p := (nuF_e hx h).2.2
/-- a parse goes on -/
theorem pv_gt : ∀ f md dp p e, pv x n f md dp p = .ok e → p < e := by
  intro f
  induction f with
  | zero => intro md dp p e h; exact absurd h (by unfold pv; simp)
  | succ f ih =>
    intro md dp p e h
    have oki : ∀ a, (Except.ok a : Except Nat Nat) = .ok e → a = e := fun a z => by injection z
    match md with
    | none =>
      rw [pv_n] at h
      by_cases h1 : dg (x p)
      · rw [if_pos h1] at h
        cases hs : stF x n p with
        | none =>
          rw [hs] at h
          have := oki _ h
          have := (stEnd_gt hs).1
          omega
        | some w => rw [hs] at h; exact absurd h (by simp)
      · rw [if_neg h1] at h
        by_cases h2 : x p = 105
        · rw [if_pos h2] at h
          cases hs : nuF x p with
          | none =>
            rw [hs] at h
            have := oki _ h
            have := nuEnd_gt h2 hs
            omega
          | some w => rw [hs] at h; exact absurd h (by simp)
        · rw [if_neg h2] at h
          by_cases h3 : (x p = 108 ∨ x p = 100) ∧ dp < 8
          · rw [if_pos h3] at h
            have := ih _ _ _ _ h
            omega
          · rw [if_neg h3] at h; exact absurd h (by simp)
    | some (b, k) =>
      rw [pv_s] at h
      by_cases h1 : x p = 101
      · rw [if_pos h1] at h
        have := oki _ h
        omega
      · rw [if_neg h1] at h
        cases b with
        | true =>
          rw [if_pos rfl] at h
          cases hs : stF x n p with
          | some w => rw [hs] at h; exact absurd h (by simp)
          | none =>
            rw [hs] at h
            dsimp only at h
            by_cases h2 : rsk x k p = true
            · rw [if_pos h2] at h
              cases hp : pv x n f none dp (stEnd x p) with
              | error w => rw [hp] at h; exact absurd h (by simp)
              | ok u =>
                rw [hp] at h
                have a1 := ih _ _ _ _ hp
                have a2 := ih _ _ _ _ h
                have := (stEnd_gt hs).1
                omega
            · rw [if_neg h2] at h; exact absurd h (by simp)
        | false =>
          rw [if_neg (by decide)] at h
          cases hp : pv x n f none dp p with
          | error w => rw [hp] at h; exact absurd h (by simp)
          | ok u =>
            rw [hp] at h
            have a1 := ih _ _ _ _ hp
            have a2 := ih _ _ _ _ h
            omega
/-- what was noted of a part stays if nothing of that part changes -/
theorem EN_c {E E' : Nat → Int32} : ∀ f md dp p e, pv x n f md dp p = .ok e → (∀ i, p ≤ i → i < e → E' i = E i) → EN E x n f md dp p → EN E' x n f md dp p := by
  intro f
  induction f with
  | zero => intro md dp p e h; exact absurd h (by unfold pv; simp)
  | succ f ih =>
    intro md dp p e h hE hN
    have hgt := pv_gt _ _ _ _ _ h
    match md with
    | none =>
      unfold EN at hN ⊢
      refine ⟨(hE p (Nat.le_refl _) hgt).trans hN.1, ?_⟩
      by_cases h1 : dg (x p) ∨ x p = 105
      · rw [if_pos h1]; trivial
      · rw [if_neg h1]
        have hN2 := hN.2
        rw [if_neg h1] at hN2
        rw [pv_n, if_neg (fun z => h1 (Or.inl z)), if_neg (fun z => h1 (Or.inr z))] at h
        by_cases h3 : (x p = 108 ∨ x p = 100) ∧ dp < 8
        · rw [if_pos h3] at h
          exact ih _ _ _ _ h (fun i a b => hE i (by omega) b) hN2
        · rw [if_neg h3] at h; exact absurd h (by simp)
    | some (b, k) =>
      unfold EN at hN ⊢
      by_cases h1 : x p = 101
      · rw [if_pos h1]; trivial
      · rw [if_neg h1] at hN ⊢
        rw [pv_s, if_neg h1] at h
        cases b with
        | true =>
          rw [if_pos rfl] at hN ⊢
          rw [if_pos rfl] at h
          cases hs : stF x n p with
          | some w => rw [hs] at h; exact absurd h (by simp)
          | none =>
            rw [hs] at h
            dsimp only at h
            have sg := (stEnd_gt hs).1
            by_cases h2 : rsk x k p = true
            · rw [if_pos h2] at h
              cases hp : pv x n f none dp (stEnd x p) with
              | error w => rw [hp] at h; exact absurd h (by simp)
              | ok u =>
                rw [hp] at h
                rw [pvE_ok hp] at hN ⊢
                have a1 := pv_gt _ _ _ _ _ hp
                have a2 := pv_gt _ _ _ _ _ h
                exact ⟨(hE p (Nat.le_refl _) hgt).trans hN.1, ih _ _ _ _ hp (fun i a b => hE i (by omega) (by omega)) hN.2.1, ih _ _ _ _ h (fun i a b => hE i (by omega) b) hN.2.2⟩
            · rw [if_neg h2] at h; exact absurd h (by simp)
        | false =>
          rw [if_neg (by decide)] at hN h ⊢
          cases hp : pv x n f none dp p with
          | error w => rw [hp] at h; exact absurd h (by simp)
          | ok u =>
            rw [hp] at h
            rw [pvE_ok hp] at hN ⊢
            have a1 := pv_gt _ _ _ _ _ hp
            have a2 := pv_gt _ _ _ _ _ h
            exact ⟨ih _ _ _ _ hp (fun i a b => hE i a (by omega)) hN.1, ih _ _ _ _ h (fun i a b => hE i (by omega) b) hN.2⟩
end
section
variable {d : Nat} {h : PzH} {Q : Option Value → PzH → Prop} {r a cap : Nat} {V : List Int8}
theorem rs_l (B : BT h r a cap V) {u v : Int32} {y z N M : Nat} (hy : y + N ≤ V.length) (hz : z + M ≤ V.length) {v8 v9 : Value} (c8 : pz_cut v8 = v8) : ∀ k i v8 v9, i + k = N → i ≤ M → pz_cut v8 = v8 → (wp (d + 1) mX1_rises 35 [.ref 11, .int u, .int v, .int (nI N), .int (nI M), .int (nI y), .int (nI z), .int (nI i), v8, v9] [] h Q ↔ Q (some (.int (if lx (tx V) (y + i) (z + i) k (M - i) = true then 1 else 0))) h) := by
  obtain ⟨⟨b1, b2, b3, b4, b5⟩, W, n1, n2, n3, n4⟩ := B
  have W1 := W.1
  have w6 := W.2.2.2.2.2.1
  have w8 := W.2.2.2.2.2.2.2.1
  intro k
  induction k with
  | zero =>
    intro i v8 v9 hi hM c8
    rw [uX1_rises_35]
    simp only [enX1_rises, uX1_rises_0, uX1_rises_0o, uX1_rises_0f, uX1_rises_1, uX1_rises_2, uX1_rises_5, uX1_rises_6, uX1_rises_6o, uX1_rises_6f, uX1_rises_7, uX1_rises_8, uX1_rises_11, uX1_rises_13, uX1_rises_13o, uX1_rises_13f, uX1_rises_14, uX1_rises_15, uX1_rises_18, uX1_rises_19, uX1_rises_20, uX1_rises_22, uX1_rises_22o, uX1_rises_22f, uX1_rises_23, uX1_rises_24, uX1_rises_27, uX1_rises_29, uX1_rises_30, uX1_rises_32, uX1_rises_33, uX1_rises_37, uX1_rises_38, uX1_rises_41, uX1_rises_43, uX1_rises_45, uX1_rises_48, uX1_rises_48o, uX1_rises_48f, uX1_rises_49, uX1_rises_52, uX1_rises_54, uX1_rises_56, uX1_rises_57, uX1_rises_60, uX1_rises_62, uX1_rises_62o, uX1_rises_62f, uX1_rises_63, uX1_rises_66, uX1_rises_68, uX1_rises_70, uX1_rises_71, uX1_rises_74, uX1_rises_76, uX1_rises_78, uX1_rises_80, uX1_rises_83, uX1_rises_85, uX1_rises_87, uX1_rises_90, uX1_rises_91, uX1_rises_94, uX1_rises_95, uX1_rises_96, uX1_rises_99, uX1_rises_102, uX1_rises_103, uX1_rises_105, uX1_rises_108, uX1_rises_109, uX1_rises_112, uX1_rises_113, pq_C_sI, pq_C_sJ, pq_C_sR, pq_C_sA, pq_L_sI, pq_L_sJ, pq_L_sR, pq_L_sA, pq_I_sI, pq_I_sJ, pq_I_sR, pq_I_sA, pq_J_sI, pq_J_sJ, pq_J_sR, pq_J_sA, pq_R_sI, pq_R_sJ, pq_R_sR, pq_R_sA, pq_N_sI, pq_N_sJ, pq_N_sR, pq_N_sA, pq_S_sI, pq_S_sJ, pq_S_sR, pq_S_sA, pz_rf_s, pz_cut_i, pz_cut_r, pz_cut_n, pz_cut_f, pz_cut_u, pz_cut_o, true_and, and_true, true_or, or_true, Option.toList_some, Option.toList_none, List.cons_append, List.nil_append, Nat.add_left_cancel_iff, Nat.left_eq_add, Nat.add_eq_left, Nat.reduceEqDiff, if_true, if_false, ite_true, ite_false, false_and, and_false, false_or, or_false, reduceIte, reduceCtorEq, and_self, z_4, z_5, z_7, z_8, z_10, z_16, z_20, z_64, not_false_eq_true]
    rw [show i = N by omega, if_pos (nI_le (Nat.le_refl _) (by omega)), lx]
    by_cases h1 : N < M
    · rw [if_neg (nI_ge h1 (by omega)), if_pos (decide_eq_true (show 0 < M - N by omega))]
    · rw [if_pos (nI_le (by omega) (by omega)), if_neg (fun r => by have := of_decide_eq_true r; omega)]
  | succ k ih =>
    intro i v8 v9 hi hM c8
    rw [uX1_rises_35]
    by_cases h1 : i < M
    · simp only [enX1_rises, uX1_rises_0, uX1_rises_0o, uX1_rises_0f, uX1_rises_1, uX1_rises_2, uX1_rises_5, uX1_rises_6, uX1_rises_6o, uX1_rises_6f, uX1_rises_7, uX1_rises_8, uX1_rises_11, uX1_rises_13, uX1_rises_13o, uX1_rises_13f, uX1_rises_14, uX1_rises_15, uX1_rises_18, uX1_rises_19, uX1_rises_20, uX1_rises_22, uX1_rises_22o, uX1_rises_22f, uX1_rises_23, uX1_rises_24, uX1_rises_27, uX1_rises_29, uX1_rises_30, uX1_rises_32, uX1_rises_33, uX1_rises_37, uX1_rises_38, uX1_rises_41, uX1_rises_43, uX1_rises_45, uX1_rises_48, uX1_rises_48o, uX1_rises_48f, uX1_rises_49, uX1_rises_52, uX1_rises_54, uX1_rises_56, uX1_rises_57, uX1_rises_60, uX1_rises_62, uX1_rises_62o, uX1_rises_62f, uX1_rises_63, uX1_rises_66, uX1_rises_68, uX1_rises_70, uX1_rises_71, uX1_rises_74, uX1_rises_76, uX1_rises_78, uX1_rises_80, uX1_rises_83, uX1_rises_85, uX1_rises_87, uX1_rises_90, uX1_rises_91, uX1_rises_94, uX1_rises_95, uX1_rises_96, uX1_rises_99, uX1_rises_102, uX1_rises_103, uX1_rises_105, uX1_rises_108, uX1_rises_109, uX1_rises_112, uX1_rises_113, pq_C_sI, pq_C_sJ, pq_C_sR, pq_C_sA, pq_L_sI, pq_L_sJ, pq_L_sR, pq_L_sA, pq_I_sI, pq_I_sJ, pq_I_sR, pq_I_sA, pq_J_sI, pq_J_sJ, pq_J_sR, pq_J_sA, pq_R_sI, pq_R_sJ, pq_R_sR, pq_R_sA, pq_N_sI, pq_N_sJ, pq_N_sR, pq_N_sA, pq_S_sI, pq_S_sJ, pq_S_sR, pq_S_sA, pz_rf_s, pz_cut_i, pz_cut_r, pz_cut_n, pz_cut_f, pz_cut_u, pz_cut_o, true_and, and_true, true_or, or_true, Option.toList_some, Option.toList_none, List.cons_append, List.nil_append, Nat.add_left_cancel_iff, Nat.left_eq_add, Nat.add_eq_left, Nat.reduceEqDiff, if_true, if_false, ite_true, ite_false, false_and, and_false, false_or, or_false, reduceIte, reduceCtorEq, and_self, z_4, z_5, z_7, z_8, z_10, z_16, z_20, z_64, not_false_eq_true, b1, b2, W1, nI_add, c_bAt W (show y + i < 2 ^ 31 by omega), c_bAt W (show z + i < 2 ^ 31 by omega), c8, nI_1]
      rw [if_neg (nI_ge (show i < N by omega) (by omega)), if_neg (nI_ge h1 (by omega))]
      obtain ⟨m', e2⟩ : ∃ m', M - i = m' + 1 := ⟨M - i - 1, by omega⟩
      have t2 : tx V (y + i) < 256 := by rw [tx_lt (by omega)]; exact ub_lt _
      have t4 : tx V (z + i) < 256 := by rw [tx_lt (by omega)]; exact ub_lt _
      have e3 : bI (tx V (y + i)) = nI (tx V (y + i)) := if_pos t2
      have e4 : bI (tx V (z + i)) = nI (tx V (z + i)) := if_pos t4
      rw [e3, e4, e2, lx]
      by_cases h2 : tx V (y + i) = tx V (z + i)
      · rw [if_pos (by rw [h2]), if_pos h2, ih (i + 1) _ _ (by omega) (by omega) rfl, show M - (i + 1) = m' by omega, Nat.add_assoc, Nat.add_assoc]
      · rw [if_neg (fun r => h2 ((nI_eq (by omega) (by omega)).mp r)), if_neg h2]
        by_cases h3 : tx V (y + i) < tx V (z + i)
        · rw [if_neg (nI_ge h3 (by omega)), if_pos (by simpa using h3)]
        · rw [if_pos (nI_le (by omega) (by omega)), if_neg (by simpa using h3)]
    · simp only [enX1_rises, uX1_rises_0, uX1_rises_0o, uX1_rises_0f, uX1_rises_1, uX1_rises_2, uX1_rises_5, uX1_rises_6, uX1_rises_6o, uX1_rises_6f, uX1_rises_7, uX1_rises_8, uX1_rises_11, uX1_rises_13, uX1_rises_13o, uX1_rises_13f, uX1_rises_14, uX1_rises_15, uX1_rises_18, uX1_rises_19, uX1_rises_20, uX1_rises_22, uX1_rises_22o, uX1_rises_22f, uX1_rises_23, uX1_rises_24, uX1_rises_27, uX1_rises_29, uX1_rises_30, uX1_rises_32, uX1_rises_33, uX1_rises_37, uX1_rises_38, uX1_rises_41, uX1_rises_43, uX1_rises_45, uX1_rises_48, uX1_rises_48o, uX1_rises_48f, uX1_rises_49, uX1_rises_52, uX1_rises_54, uX1_rises_56, uX1_rises_57, uX1_rises_60, uX1_rises_62, uX1_rises_62o, uX1_rises_62f, uX1_rises_63, uX1_rises_66, uX1_rises_68, uX1_rises_70, uX1_rises_71, uX1_rises_74, uX1_rises_76, uX1_rises_78, uX1_rises_80, uX1_rises_83, uX1_rises_85, uX1_rises_87, uX1_rises_90, uX1_rises_91, uX1_rises_94, uX1_rises_95, uX1_rises_96, uX1_rises_99, uX1_rises_102, uX1_rises_103, uX1_rises_105, uX1_rises_108, uX1_rises_109, uX1_rises_112, uX1_rises_113, pq_C_sI, pq_C_sJ, pq_C_sR, pq_C_sA, pq_L_sI, pq_L_sJ, pq_L_sR, pq_L_sA, pq_I_sI, pq_I_sJ, pq_I_sR, pq_I_sA, pq_J_sI, pq_J_sJ, pq_J_sR, pq_J_sA, pq_R_sI, pq_R_sJ, pq_R_sR, pq_R_sA, pq_N_sI, pq_N_sJ, pq_N_sR, pq_N_sA, pq_S_sI, pq_S_sJ, pq_S_sR, pq_S_sA, pz_rf_s, pz_cut_i, pz_cut_r, pz_cut_n, pz_cut_f, pz_cut_u, pz_cut_o, true_and, and_true, true_or, or_true, Option.toList_some, Option.toList_none, List.cons_append, List.nil_append, Nat.add_left_cancel_iff, Nat.left_eq_add, Nat.add_eq_left, Nat.reduceEqDiff, if_true, if_false, ite_true, ite_false, false_and, and_false, false_or, or_false, reduceIte, reduceCtorEq, and_self, z_4, z_5, z_7, z_8, z_10, z_16, z_20, z_64, not_false_eq_true]
      rw [if_neg (nI_ge (show i < N by omega) (by omega)), if_pos (nI_le (by omega) (by omega)), if_pos (nI_le (by omega) (by omega)), show M - i = 0 by omega, lx, if_neg (by decide)]
theorem c_rises (B : BT h r a cap V) {u v : Nat} (hu : stF (tx V) V.length u = none) (hv : stF (tx V) V.length v = none) (eu : pz_I h 14 u = nI (stEnd (tx V) u)) (ev : pz_I h 14 v = nI (stEnd (tx V) v)) : pz_M (d + 3) mX1_rises [.ref 11, .int (nI u), .int (nI v)] h Q ↔ Q (some (.int (if rsg (tx V) u v = true then 1 else 0))) h := by
  have B' := B
  obtain ⟨⟨b1, b2, b3, b4, b5⟩, W, n1, n2, n3, n4⟩ := B
  have w6 := W.2.2.2.2.2.1
  have w8 := W.2.2.2.2.2.2.2.1
  have dc : ∀ {Q : Option Value → PzH → Prop} {w : Nat}, stF (tx V) V.length w = none → (pz_M (d + 2) mX1_decimal [.ref 11, .int (nI w)] h Q ↔ Q (some (.int (nI (stN (tx V) w)))) h) := fun {Q w} hw => by
    obtain ⟨⟨s1, s2, s3, s4⟩, s5, s6⟩ := stF_SK hw
    have := (stEnd_gt hw)
    refine c_decimal B' (k := stE (tx V) w - w) (by omega) s3 (Or.inr ?_) (by omega)
    rw [show w + (stE (tx V) w - w) = stE (tx V) w by omega, s4]
    decide
  have gu := stEnd_gt hu
  have gv := stEnd_gt hv
  have eo : ∀ {Q : Option Value → PzH → Prop} {w : Nat}, w < 6000 → (pz_M (d + 2) mX1_endOf [.ref 11, .int (nI w)] h Q ↔ Q (some (.int (pz_I h 14 w))) h) := fun {Q w} hw => c_endOf B' hw
  have e1 : nI (stEnd (tx V) u) - nI (stN (tx V) u) = nI (stE (tx V) u + 1) := by
    rw [pk_sub (show stN (tx V) u ≤ stEnd (tx V) u by show _ ≤ stE (tx V) u + 1 + stN (tx V) u; omega)]
    congr 1
    show stE (tx V) u + 1 + stN (tx V) u - stN (tx V) u = _
    omega
  have e2 : nI (stEnd (tx V) v) - nI (stN (tx V) v) = nI (stE (tx V) v + 1) := by
    rw [pk_sub (show stN (tx V) v ≤ stEnd (tx V) v by show _ ≤ stE (tx V) v + 1 + stN (tx V) v; omega)]
    congr 1
    show stE (tx V) v + 1 + stN (tx V) v - stN (tx V) v = _
    omega
  simp only [enX1_rises, uX1_rises_0, uX1_rises_0o, uX1_rises_0f, uX1_rises_1, uX1_rises_2, uX1_rises_5, uX1_rises_6, uX1_rises_6o, uX1_rises_6f, uX1_rises_7, uX1_rises_8, uX1_rises_11, uX1_rises_13, uX1_rises_13o, uX1_rises_13f, uX1_rises_14, uX1_rises_15, uX1_rises_18, uX1_rises_19, uX1_rises_20, uX1_rises_22, uX1_rises_22o, uX1_rises_22f, uX1_rises_23, uX1_rises_24, uX1_rises_27, uX1_rises_29, uX1_rises_30, uX1_rises_32, uX1_rises_33, uX1_rises_37, uX1_rises_38, uX1_rises_41, uX1_rises_43, uX1_rises_45, uX1_rises_48, uX1_rises_48o, uX1_rises_48f, uX1_rises_49, uX1_rises_52, uX1_rises_54, uX1_rises_56, uX1_rises_57, uX1_rises_60, uX1_rises_62, uX1_rises_62o, uX1_rises_62f, uX1_rises_63, uX1_rises_66, uX1_rises_68, uX1_rises_70, uX1_rises_71, uX1_rises_74, uX1_rises_76, uX1_rises_78, uX1_rises_80, uX1_rises_83, uX1_rises_85, uX1_rises_87, uX1_rises_90, uX1_rises_91, uX1_rises_94, uX1_rises_95, uX1_rises_96, uX1_rises_99, uX1_rises_102, uX1_rises_103, uX1_rises_105, uX1_rises_108, uX1_rises_109, uX1_rises_112, uX1_rises_113, pq_C_sI, pq_C_sJ, pq_C_sR, pq_C_sA, pq_L_sI, pq_L_sJ, pq_L_sR, pq_L_sA, pq_I_sI, pq_I_sJ, pq_I_sR, pq_I_sA, pq_J_sI, pq_J_sJ, pq_J_sR, pq_J_sA, pq_R_sI, pq_R_sJ, pq_R_sR, pq_R_sA, pq_N_sI, pq_N_sJ, pq_N_sR, pq_N_sA, pq_S_sI, pq_S_sJ, pq_S_sR, pq_S_sA, pz_rf_s, pz_cut_i, pz_cut_r, pz_cut_n, pz_cut_f, pz_cut_u, pz_cut_o, true_and, and_true, true_or, or_true, Option.toList_some, Option.toList_none, List.cons_append, List.nil_append, Nat.add_left_cancel_iff, Nat.left_eq_add, Nat.add_eq_left, Nat.reduceEqDiff, if_true, if_false, ite_true, ite_false, false_and, and_false, false_or, or_false, reduceIte, reduceCtorEq, and_self, z_4, z_5, z_7, z_8, z_10, z_16, z_20, z_64, not_false_eq_true, b1, dc hu, dc hv, eo (show u < 6000 by omega), eo (show v < 6000 by omega), eu, ev, e1, e2]
  exact rs_l B' (N := stN (tx V) u) (M := stN (tx V) v) (show stE (tx V) u + 1 + stN (tx V) u ≤ V.length from gu.2) (show stE (tx V) v + 1 + stN (tx V) v ≤ V.length from gv.2) (v8 := .retAddr 0) (v9 := .retAddr 0) rfl (stN (tx V) u) 0 _ _ (by omega) (by omega) rfl
end
