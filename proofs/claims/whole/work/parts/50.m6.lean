/-! ===== the reference: the order of keys; the parse ===== -/
def lx (x : Nat → Nat) : Nat → Nat → Nat → Nat → Bool
  | _, _, 0, m => decide (0 < m)
  | _, _, _ + 1, 0 => false
  | y, z, n + 1, m + 1 => if x y = x z then lx x (y + 1) (z + 1) n m else decide (x y < x z)
def rsg (x : Nat → Nat) (a b : Nat) : Bool := lx x (stE x a + 1) (stE x b + 1) (stN x a) (stN x b)
def rsk (x : Nat → Nat) (k : Option Nat) (p : Nat) : Bool := match k with | some q => rsg x q p | none => true
/-- a value (none), or what is inside of a list or dictionary (whether pairs, the last key), with that many open -/
def pv (x : Nat → Nat) (n : Nat) : Nat → Option (Bool × Option Nat) → Nat → Nat → Except Nat Nat
  | 0, _, _, p => .error p
  | f + 1, none, dp, p => if dg (x p) then (match stF x n p with | none => .ok (stEnd x p) | some w => .error w)
      else if x p = 105 then (match nuF x p with | none => .ok (nuEnd x p) | some w => .error w)
      else if (x p = 108 ∨ x p = 100) ∧ dp < 8 then pv x n f (some (decide (x p = 100), none)) (dp + 1) (p + 1)
      else .error p
  | f + 1, some (b, k), dp, p => if x p = 101 then .ok (p + 1)
      else if b = true then (match stF x n p with
        | some w => .error w
        | none => if rsk x k p = true then (match pv x n f none dp (stEnd x p) with
            | .error w => .error w
            | .ok e => pv x n f (some (b, some p)) dp e) else .error p)
      else (match pv x n f none dp p with
        | .error w => .error w
        | .ok e => pv x n f (some (b, none)) dp e)
def GI (g : Nat → Nat → Int32) (w : Int32) (dp : Nat) (o k : Nat → Int32) : Nat → Nat → Int32 := pz_u1 (pz_u1 (pz_u2 (pz_u2 g 0 10 w) 0 13 (nI dp)) 7 o) 8 k
section
variable {d : Nat} {h : PzH} {Q : Option Value → PzH → Prop} {mo : Nat} {g : Nat → Nat → Int32} {x : Nat → Nat} {n : Nat}
theorem stF_SK {p : Nat} (h : stF x n p = none) : SK x p 4 58 (stE x p) ∧ stEnd x p ≤ n ∧ stN x p < 10000 := by
  unfold stF at h
  by_cases h1 : dgo x p 4 58 = true
  · rw [if_pos h1] at h
    by_cases h2 : stEnd x p ≤ n
    · exact ⟨dgo_SK (by omega) h1, h2, stN_lt h1⟩
    · rw [if_neg h2] at h
      exact absurd h (by simp)
  · rw [if_neg h1] at h
    exact absurd h (by simp)
theorem g_rsl (H : MO h mo) (T : TX (g 1) n x) {a b : Int32} {y z N M : Nat} (hy : y + N ≤ n) (hz : z + M ≤ n) : ∀ k i, i + k = N → i ≤ M → (wp (d + 2) mX10_rises 30 [.ref mo, .int a, .int b, .int (nI y), .int (nI z), .int (nI N), .int (nI M), .int (nI i)] [] (mh h mo g) Q ↔ Q (some (.int (if lx x (y + i) (z + i) k (M - i) = true then 1 else 0))) (mh h mo g)) := by
  have hn := T.1
  intro k
  induction k with
  | zero =>
    intro i hi hM
    rw [uX10_rises_30]
    simp only [enX10_rises, uX10_rises_0, uX10_rises_0o, uX10_rises_0f, uX10_rises_1, uX10_rises_2, uX10_rises_5, uX10_rises_6, uX10_rises_6o, uX10_rises_6f, uX10_rises_7, uX10_rises_8, uX10_rises_11, uX10_rises_13, uX10_rises_13o, uX10_rises_13f, uX10_rises_14, uX10_rises_15, uX10_rises_18, uX10_rises_20, uX10_rises_20o, uX10_rises_20f, uX10_rises_21, uX10_rises_22, uX10_rises_25, uX10_rises_27, uX10_rises_28, uX10_rises_32, uX10_rises_34, uX10_rises_37, uX10_rises_39, uX10_rises_41, uX10_rises_44, uX10_rises_44o, uX10_rises_44f, uX10_rises_45, uX10_rises_48, uX10_rises_49, uX10_rises_51, uX10_rises_52, uX10_rises_53, uX10_rises_53o, uX10_rises_53f, uX10_rises_54, uX10_rises_57, uX10_rises_59, uX10_rises_61, uX10_rises_62, uX10_rises_63, uX10_rises_66, uX10_rises_69, uX10_rises_72, uX10_rises_74, uX10_rises_76, uX10_rises_79, uX10_rises_81, uX10_rises_83, uX10_rises_86, uX10_rises_86o, uX10_rises_86f, uX10_rises_87, uX10_rises_90, uX10_rises_91, uX10_rises_93, uX10_rises_94, uX10_rises_95, uX10_rises_98, uX10_rises_99, uX10_rises_99o, uX10_rises_99f, uX10_rises_100, uX10_rises_103, uX10_rises_105, uX10_rises_107, uX10_rises_108, uX10_rises_109, uX10_rises_112, uX10_rises_113, uX10_rises_116, uX10_rises_117, uX10_rises_120, uX10_rises_121, uX10_rises_124, uX10_rises_126, uX10_rises_128, uX10_rises_131, uX10_rises_132, uX10_rises_135, uX10_rises_136, mo_C H, mo_R_tape H, mo_C_tape H, mo_L_tape H, pq_C_sI, pq_C_sJ, pq_C_sR, pq_C_sA, pq_L_sI, pq_L_sJ, pq_L_sR, pq_L_sA, pq_I_sI, pq_I_sJ, pq_I_sR, pq_I_sA, pq_J_sI, pq_J_sJ, pq_J_sR, pq_J_sA, pq_R_sI, pq_R_sJ, pq_R_sR, pq_R_sA, pq_N_sI, pq_N_sJ, pq_N_sR, pq_N_sA, pq_S_sI, pq_S_sJ, pq_S_sR, pq_S_sA, pz_rf_s, pz_cut_i, pz_cut_r, pz_cut_n, pz_cut_f, pz_cut_u, pz_cut_o, true_and, and_true, true_or, or_true, Option.toList_some, Option.toList_none, List.cons_append, List.nil_append, Nat.add_left_cancel_iff, Nat.left_eq_add, Nat.add_eq_left, Nat.reduceEqDiff, if_true, if_false, ite_true, ite_false, false_and, and_false, false_or, or_false, reduceIte, reduceCtorEq, and_self, mh_C, mh_L, mh_R, mh_J, mh_I0, mh_I, mh_Ir, mh_sI0, mh_sI, mh_sA, gu_11, gu_22, gu_r, gu_21s, gu_21c, gu_22s, gu_11s, gu_11c, gu_22c, Nat.reduceLeDiff, Nat.reduceLT, ne_eq, not_false_eq_true, not_true_eq_false, Nat.reduceEqDiff, Nat.lt_irrefl, eq_self, z_4, z_5, z_7, z_8, z_10, z_16, z_20, z_64]
    rw [show i = N by omega, if_pos (nI_le (Nat.le_refl _) (by omega)), if_pos (nI_le (Nat.le_refl _) (by omega)), lx]
    by_cases h1 : N < M
    · rw [if_neg (nI_ge h1 (by omega)), if_pos (decide_eq_true (show 0 < M - N by omega))]
    · rw [if_pos (nI_le (by omega) (by omega)), if_neg (fun r => by have := of_decide_eq_true r; omega)]
  | succ k ih =>
    intro i hi hM
    rw [uX10_rises_30]
    simp only [enX10_rises, uX10_rises_0, uX10_rises_0o, uX10_rises_0f, uX10_rises_1, uX10_rises_2, uX10_rises_5, uX10_rises_6, uX10_rises_6o, uX10_rises_6f, uX10_rises_7, uX10_rises_8, uX10_rises_11, uX10_rises_13, uX10_rises_13o, uX10_rises_13f, uX10_rises_14, uX10_rises_15, uX10_rises_18, uX10_rises_20, uX10_rises_20o, uX10_rises_20f, uX10_rises_21, uX10_rises_22, uX10_rises_25, uX10_rises_27, uX10_rises_28, uX10_rises_32, uX10_rises_34, uX10_rises_37, uX10_rises_39, uX10_rises_41, uX10_rises_44, uX10_rises_44o, uX10_rises_44f, uX10_rises_45, uX10_rises_48, uX10_rises_49, uX10_rises_51, uX10_rises_52, uX10_rises_53, uX10_rises_53o, uX10_rises_53f, uX10_rises_54, uX10_rises_57, uX10_rises_59, uX10_rises_61, uX10_rises_62, uX10_rises_63, uX10_rises_66, uX10_rises_69, uX10_rises_72, uX10_rises_74, uX10_rises_76, uX10_rises_79, uX10_rises_81, uX10_rises_83, uX10_rises_86, uX10_rises_86o, uX10_rises_86f, uX10_rises_87, uX10_rises_90, uX10_rises_91, uX10_rises_93, uX10_rises_94, uX10_rises_95, uX10_rises_98, uX10_rises_99, uX10_rises_99o, uX10_rises_99f, uX10_rises_100, uX10_rises_103, uX10_rises_105, uX10_rises_107, uX10_rises_108, uX10_rises_109, uX10_rises_112, uX10_rises_113, uX10_rises_116, uX10_rises_117, uX10_rises_120, uX10_rises_121, uX10_rises_124, uX10_rises_126, uX10_rises_128, uX10_rises_131, uX10_rises_132, uX10_rises_135, uX10_rises_136, mo_C H, mo_R_tape H, mo_C_tape H, mo_L_tape H, pq_C_sI, pq_C_sJ, pq_C_sR, pq_C_sA, pq_L_sI, pq_L_sJ, pq_L_sR, pq_L_sA, pq_I_sI, pq_I_sJ, pq_I_sR, pq_I_sA, pq_J_sI, pq_J_sJ, pq_J_sR, pq_J_sA, pq_R_sI, pq_R_sJ, pq_R_sR, pq_R_sA, pq_N_sI, pq_N_sJ, pq_N_sR, pq_N_sA, pq_S_sI, pq_S_sJ, pq_S_sR, pq_S_sA, pz_rf_s, pz_cut_i, pz_cut_r, pz_cut_n, pz_cut_f, pz_cut_u, pz_cut_o, true_and, and_true, true_or, or_true, Option.toList_some, Option.toList_none, List.cons_append, List.nil_append, Nat.add_left_cancel_iff, Nat.left_eq_add, Nat.add_eq_left, Nat.reduceEqDiff, if_true, if_false, ite_true, ite_false, false_and, and_false, false_or, or_false, reduceIte, reduceCtorEq, and_self, mh_C, mh_L, mh_R, mh_J, mh_I0, mh_I, mh_Ir, mh_sI0, mh_sI, mh_sA, gu_11, gu_22, gu_r, gu_21s, gu_21c, gu_22s, gu_11s, gu_11c, gu_22c, Nat.reduceLeDiff, Nat.reduceLT, ne_eq, not_false_eq_true, not_true_eq_false, Nat.reduceEqDiff, Nat.lt_irrefl, eq_self, z_4, z_5, z_7, z_8, z_10, z_16, z_20, z_64]
    rw [if_neg (nI_ge (show i < N by omega) (by omega)), if_neg (nI_ge (show i < N by omega) (by omega))]
    by_cases h1 : i < M
    · rw [if_neg (nI_ge h1 (by omega)), if_neg (nI_ge h1 (by omega))]
      simp (disch := omega) only [nI_add, pz_in_nI, nI_clamp, true_and]
      obtain ⟨m', e2⟩ : ∃ m', M - i = m' + 1 := ⟨M - i - 1, by omega⟩
      obtain ⟨t1, t2⟩ := (T.2 (y + i)).1 (by omega)
      obtain ⟨t3, t4⟩ := (T.2 (z + i)).1 (by omega)
      rw [t1, t3, e2, lx]
      by_cases h2 : x (y + i) = x (z + i)
      · rw [if_neg (show ¬ ¬ b8 (x (y + i)) = b8 (x (z + i)) from fun r => r ((b8_inj t2 t4).mpr h2)), if_pos h2, nI_1, ih (i + 1) (by omega) (by omega), show M - (i + 1) = m' by omega, Nat.add_assoc, Nat.add_assoc]
      · rw [if_pos (show ¬ b8 (x (y + i)) = b8 (x (z + i)) from fun r => h2 ((b8_inj t2 t4).mp r)), if_neg h2, b8_and _ t2, b8_and _ t4]
        by_cases h3 : x (y + i) < x (z + i)
        · rw [if_neg (nI_ge h3 (by omega)), if_pos (by simpa using h3)]
        · rw [if_pos (nI_le (by omega) (by omega)), if_neg (by simpa using h3)]
    · rw [if_pos (nI_le (by omega) (by omega)), if_pos (nI_le (by omega) (by omega))]
      rw [if_pos (nI_le (by omega) (by omega)), show M - i = 0 by omega, lx, if_neg (by decide)]
theorem g_rises (H : MO h mo) (T : TX (g 1) n x) {a b : Nat} (ha : stF x n a = none) (hb : stF x n b = none) : pz_M (d + 3) mX10_rises [.ref mo, .int (nI a), .int (nI b)] (mh h mo g) Q ↔ Q (some (.int (if rsg x a b = true then 1 else 0))) (mh h mo g) := by
  obtain ⟨a1, a2, a3⟩ := stF_SK ha
  obtain ⟨b1, b2, b3⟩ := stF_SK hb
  simp only [enX10_rises, uX10_rises_0, uX10_rises_0o, uX10_rises_0f, uX10_rises_1, uX10_rises_2, uX10_rises_5, uX10_rises_6, uX10_rises_6o, uX10_rises_6f, uX10_rises_7, uX10_rises_8, uX10_rises_11, uX10_rises_13, uX10_rises_13o, uX10_rises_13f, uX10_rises_14, uX10_rises_15, uX10_rises_18, uX10_rises_20, uX10_rises_20o, uX10_rises_20f, uX10_rises_21, uX10_rises_22, uX10_rises_25, uX10_rises_27, uX10_rises_28, uX10_rises_32, uX10_rises_34, uX10_rises_37, uX10_rises_39, uX10_rises_41, uX10_rises_44, uX10_rises_44o, uX10_rises_44f, uX10_rises_45, uX10_rises_48, uX10_rises_49, uX10_rises_51, uX10_rises_52, uX10_rises_53, uX10_rises_53o, uX10_rises_53f, uX10_rises_54, uX10_rises_57, uX10_rises_59, uX10_rises_61, uX10_rises_62, uX10_rises_63, uX10_rises_66, uX10_rises_69, uX10_rises_72, uX10_rises_74, uX10_rises_76, uX10_rises_79, uX10_rises_81, uX10_rises_83, uX10_rises_86, uX10_rises_86o, uX10_rises_86f, uX10_rises_87, uX10_rises_90, uX10_rises_91, uX10_rises_93, uX10_rises_94, uX10_rises_95, uX10_rises_98, uX10_rises_99, uX10_rises_99o, uX10_rises_99f, uX10_rises_100, uX10_rises_103, uX10_rises_105, uX10_rises_107, uX10_rises_108, uX10_rises_109, uX10_rises_112, uX10_rises_113, uX10_rises_116, uX10_rises_117, uX10_rises_120, uX10_rises_121, uX10_rises_124, uX10_rises_126, uX10_rises_128, uX10_rises_131, uX10_rises_132, uX10_rises_135, uX10_rises_136, mo_C H, mo_R_tape H, mo_C_tape H, mo_L_tape H, pq_C_sI, pq_C_sJ, pq_C_sR, pq_C_sA, pq_L_sI, pq_L_sJ, pq_L_sR, pq_L_sA, pq_I_sI, pq_I_sJ, pq_I_sR, pq_I_sA, pq_J_sI, pq_J_sJ, pq_J_sR, pq_J_sA, pq_R_sI, pq_R_sJ, pq_R_sR, pq_R_sA, pq_N_sI, pq_N_sJ, pq_N_sR, pq_N_sA, pq_S_sI, pq_S_sJ, pq_S_sR, pq_S_sA, pz_rf_s, pz_cut_i, pz_cut_r, pz_cut_n, pz_cut_f, pz_cut_u, pz_cut_o, true_and, and_true, true_or, or_true, Option.toList_some, Option.toList_none, List.cons_append, List.nil_append, Nat.add_left_cancel_iff, Nat.left_eq_add, Nat.add_eq_left, Nat.reduceEqDiff, if_true, if_false, ite_true, ite_false, false_and, and_false, false_or, or_false, reduceIte, reduceCtorEq, and_self, mh_C, mh_L, mh_R, mh_J, mh_I0, mh_I, mh_Ir, mh_sI0, mh_sI, mh_sA, gu_11, gu_22, gu_r, gu_21s, gu_21c, gu_22s, gu_11s, gu_11c, gu_22c, Nat.reduceLeDiff, Nat.reduceLT, ne_eq, not_false_eq_true, not_true_eq_false, Nat.reduceEqDiff, Nat.lt_irrefl, eq_self, z_4, z_5, z_7, z_8, z_10, z_16, z_20, z_64, g_textAt H T a1, g_textAt H T b1, g_textSize H T a1, g_textSize H T b1]
  rw [show vlk x a (stE x a - a) = stN x a from rfl, show vlk x b (stE x b - b) = stN x b from rfl]
  exact g_rsl H T (y := stE x a + 1) (z := stE x b + 1) (by unfold stEnd at a2; omega) (by unfold stEnd at b2; omega) (stN x a) 0 (by omega) (by omega)
end
