/-! ===== the reference: wires read ===== -/
/-- a byte as at() tells it -/
def ub (b : Int8) : Nat := b.toInt32.toBitVec.toNat % 2 ^ 8
theorem ub_lt (b : Int8) : ub b < 256 := Nat.mod_lt _ (by decide)
theorem ub_and (b : Int8) : b.toInt32 &&& 255 = nI (ub b) := pk_and _ 8 (by decide)
/-- four bytes as a number -/
def be32 (l : List Int8) (i : Nat) : Nat := 16777216 * ub (l.getD i 0) + (65536 * ub (l.getD (i + 1) 0) + (256 * ub (l.getD (i + 2) 0) + ub (l.getD (i + 3) 0)))
theorem be32_lt {l : List Int8} {i : Nat} : be32 l i < 4294967296 := by
  have a := ub_lt (l.getD i 0)
  have b := ub_lt (l.getD (i + 1) 0)
  have c := ub_lt (l.getD (i + 2) 0)
  have e := ub_lt (l.getD (i + 3) 0)
  unfold be32
  omega
theorem be_or {a b c e : Nat} (ha : a < 256) (hb : b < 256) (hc : c < 256) (he : e < 256) : (((nI a).toInt64 <<< ((24 : Int32).toInt64 &&& 63) ||| (nI b <<< ((16 : Int32) &&& 31)).toInt64) ||| (nI c <<< ((8 : Int32) &&& 31)).toInt64) ||| (nI e).toInt64 = lN (16777216 * a + (65536 * b + (256 * c + e))) := by
  rw [nI_l (show a < 2 ^ 31 by omega), show (24 : Int32) = nI 24 from rfl, wb_shl a (by decide), pk_shlN (n := b) _ 16 (by decide) (by omega), pk_shlN (n := c) _ 8 (by decide) (by omega), nI_l (by omega), nI_l (by omega), nI_l (by omega)]
  rw [g_or (k := 24) (p := 2 ^ 24) rfl (by omega) (by omega)]
  rw [show a * 2 ^ 24 + b * 2 ^ 16 = (a * 256 + b) * 2 ^ 16 by omega, g_or (k := 16) (p := 2 ^ 16) rfl (by omega) (by omega)]
  rw [show (a * 256 + b) * 2 ^ 16 + c * 2 ^ 8 = ((a * 256 + b) * 256 + c) * 2 ^ 8 by omega, g_or (k := 8) (p := 2 ^ 8) rfl (by omega) (by omega)]
  congr 1
  omega
/-- a number that is an index below n -/
def vI (a : Int32) (n : Nat) : Option Nat := if a < 0 then none else if a < nI n then some a.toNatClampNeg else none
theorem vI_some {a : Int32} {n j : Nat} (hn : n < 2 ^ 31) (h : vI a n = some j) : j < n ∧ a = nI j := by
  unfold vI at h
  by_cases h0 : a < 0
  · rw [if_pos h0] at h
    exact absurd h (by simp)
  · rw [if_neg h0] at h
    by_cases h1 : a < nI n
    · rw [if_pos h1] at h
      obtain ⟨i, hi, rfl⟩ := nI_of h0
      have e := (nI_ltI hi hn).mp h1
      rw [nI_clamp hi] at h
      have := Option.some.inj h
      subst this
      exact ⟨e, rfl⟩
    · rw [if_neg h1] at h
      exact absurd h (by simp)
theorem vI_of {n j : Nat} (hn : n < 2 ^ 31) (h : j < n) : vI (nI j) n = some j := by
  unfold vI
  rw [if_neg (nI_pos (by omega)), if_pos (nI_lt h hn), nI_clamp (by omega)]
theorem vI_is {a : Int32} {n : Nat} : (if a < 0 then (0 : Int32) else if a < nI n then 1 else 0) = if (vI a n).isSome then 1 else 0 := by
  unfold vI
  by_cases h0 : a < 0
  · rw [if_pos h0, if_pos h0]; rfl
  · rw [if_neg h0, if_neg h0]
    by_cases h1 : a < nI n
    · rw [if_pos h1, if_pos h1]; rfl
    · rw [if_neg h1, if_neg h1]; rfl
/-- two that are connected -/
def ajB (B : Tb) (a b : Int32) : Option (Nat × Nat) := match vI a 5, vI b 5 with
  | some x, some y => if B 23 (5 * x + y) = 0 then none else some (x, y)
  | _, _ => none
theorem ajB_some {B : Tb} {a b : Int32} {x y : Nat} (h : ajB B a b = some (x, y)) : x < 5 ∧ y < 5 ∧ a = nI x ∧ b = nI y ∧ B 23 (5 * x + y) ≠ 0 := by
  unfold ajB at h
  cases ea : vI a 5 with
  | none => rw [ea] at h; exact absurd h (by simp)
  | some u =>
    cases eb : vI b 5 with
    | none => rw [ea, eb] at h; exact absurd h (by simp)
    | some w =>
      rw [ea, eb] at h
      dsimp only at h
      by_cases q : B 23 (5 * u + w) = 0
      · rw [if_pos q] at h; exact absurd h (by simp)
      · rw [if_neg q] at h
        have := Option.some.inj h
        have e1 : u = x := congrArg Prod.fst this
        have e2 : w = y := congrArg Prod.snd this
        subst e1 e2
        obtain ⟨a1, a2⟩ := vI_some (by decide) ea
        obtain ⟨b1, b2⟩ := vI_some (by decide) eb
        exact ⟨a1, b1, a2, b2, q⟩
section
variable {d : Nat} {h : PzH} {Q : Option Value → PzH → Prop} {mo : Nat} {g : Tb} {A : St} {l : List Int8}
theorem g_areJoined (H : MO h mo) {a b : Int32} : pz_M (d + 2) mX10_areJoined [.ref mo, .int a, .int b] (mh h mo g) Q ↔ Q (some (.int (if (ajB g a b).isSome then 1 else 0))) (mh h mo g) := by
  simp only [enX10_areJoined, uX10_areJoined_0, uX10_areJoined_1, uX10_areJoined_2, uX10_areJoined_5, uX10_areJoined_8, uX10_areJoined_9, uX10_areJoined_10, uX10_areJoined_13, uX10_areJoined_16, uX10_areJoined_16o, uX10_areJoined_16f, uX10_areJoined_17, uX10_areJoined_20, uX10_areJoined_21, uX10_areJoined_22, uX10_areJoined_23, uX10_areJoined_24, uX10_areJoined_25, uX10_areJoined_26, uX10_areJoined_29, uX10_areJoined_30, uX10_areJoined_33, uX10_areJoined_34, mo_C H, mo_R_joined H, mo_C_joined H, mo_L_joined H, pq_C_sI, pq_C_sJ, pq_C_sR, pq_C_sA, pq_L_sI, pq_L_sJ, pq_L_sR, pq_L_sA, pq_I_sI, pq_I_sJ, pq_I_sR, pq_I_sA, pq_J_sI, pq_J_sJ, pq_J_sR, pq_J_sA, pq_R_sI, pq_R_sJ, pq_R_sR, pq_R_sA, pq_N_sI, pq_N_sJ, pq_N_sR, pq_N_sA, pq_S_sI, pq_S_sJ, pq_S_sR, pq_S_sA, pz_rf_s, pz_cut_i, pz_cut_r, pz_cut_n, pz_cut_f, pz_cut_u, pz_cut_o, true_and, and_true, true_or, or_true, Option.toList_some, Option.toList_none, List.cons_append, List.nil_append, Nat.add_left_cancel_iff, Nat.left_eq_add, Nat.add_eq_left, Nat.reduceEqDiff, if_true, if_false, ite_true, ite_false, false_and, and_false, false_or, or_false, reduceIte, reduceCtorEq, and_self, mh_C, mh_L, mh_R, mh_J, mh_I0, mh_I, mh_Ir, mh_sI0, mh_sI, mh_sA, gu_11, gu_22, gu_r, gu_21s, gu_21c, gu_22s, gu_11s, gu_11c, gu_22c, Nat.reduceLeDiff, Nat.reduceLT, ne_eq, not_false_eq_true, not_true_eq_false, Nat.reduceEqDiff, Nat.lt_irrefl, eq_self, z_4, z_5, z_7, z_8, z_10, z_16, z_20, z_64, g_isIn]
  rw [show (5 : Int32) = nI 5 from rfl, vI_is, vI_is]
  unfold ajB
  cases ea : vI a 5 with
  | none => simp
  | some u =>
    cases eb : vI b 5 with
    | none => simp
    | some w =>
      obtain ⟨a1, rfl⟩ := vI_some (by decide) ea
      obtain ⟨b1, rfl⟩ := vI_some (by decide) eb
      simp (disch := omega) only [Option.isSome_some, if_true, pk_mul, nI_add, nI_clamp, pz_in_nI, true_and, show ¬ (1 : Int32) = 0 by decide, if_false]
      by_cases q : g 23 (5 * u + w) = 0
      · simp [q]
      · simp [q]
theorem g_wireByte (H : MO h mo) (R : RG g A) {k i : Nat} (hk : k < 25) (hi : i < (sW A k).length) (hl : i < 4200) : pz_M (d + 1) mX10_wireByte [.ref mo, .int (nI k), .int (nI i)] (mh h mo g) Q ↔ Q (some (.int (nI (ub ((sW A k).getD i 0))))) (mh h mo g) := by
  obtain ⟨w1, w2⟩ := R.1.2.2.2.2.2.2.2.1 k hk
  simp only [enX10_wireByte, uX10_wireByte_0, uX10_wireByte_0o, uX10_wireByte_0f, uX10_wireByte_1, uX10_wireByte_4, uX10_wireByte_7, uX10_wireByte_8, uX10_wireByte_9, uX10_wireByte_10, uX10_wireByte_11, uX10_wireByte_12, uX10_wireByte_15, uX10_wireByte_16, mo_C H, mo_R_wire H, mo_C_wire H, mo_L_wire H, pq_C_sI, pq_C_sJ, pq_C_sR, pq_C_sA, pq_L_sI, pq_L_sJ, pq_L_sR, pq_L_sA, pq_I_sI, pq_I_sJ, pq_I_sR, pq_I_sA, pq_J_sI, pq_J_sJ, pq_J_sR, pq_J_sA, pq_R_sI, pq_R_sJ, pq_R_sR, pq_R_sA, pq_N_sI, pq_N_sJ, pq_N_sR, pq_N_sA, pq_S_sI, pq_S_sJ, pq_S_sR, pq_S_sA, pz_rf_s, pz_cut_i, pz_cut_r, pz_cut_n, pz_cut_f, pz_cut_u, pz_cut_o, true_and, and_true, true_or, or_true, Option.toList_some, Option.toList_none, List.cons_append, List.nil_append, Nat.add_left_cancel_iff, Nat.left_eq_add, Nat.add_eq_left, Nat.reduceEqDiff, if_true, if_false, ite_true, ite_false, false_and, and_false, false_or, or_false, reduceIte, reduceCtorEq, and_self, mh_C, mh_L, mh_R, mh_J, mh_I0, mh_I, mh_Ir, mh_sI0, mh_sI, mh_sA, gu_11, gu_22, gu_r, gu_21s, gu_21c, gu_22s, gu_11s, gu_11c, gu_22c, Nat.reduceLeDiff, Nat.reduceLT, ne_eq, not_false_eq_true, not_true_eq_false, Nat.reduceEqDiff, Nat.lt_irrefl, eq_self, z_4, z_5, z_7, z_8, z_10, z_16, z_20, z_64]
  simp (disch := omega) only [nI_4200, pk_mul, nI_add, nI_clamp, pz_in_nI, true_and]
  rw [w2 i hi, ub_and]
theorem g_wireFour (H : MO h mo) (R : RG g A) {k i : Nat} (hk : k < 25) (hi : i + 4 ≤ (sW A k).length) (hl : i < 4100) : pz_M (d + 2) mX10_wireFour [.ref mo, .int (nI k), .int (nI i)] (mh h mo g) Q ↔ Q (some (.long (lN (be32 (sW A k) i)))) (mh h mo g) := by
  simp only [enX10_wireFour, uX10_wireFour_0, uX10_wireFour_0o, uX10_wireFour_0f, uX10_wireFour_1, uX10_wireFour_2, uX10_wireFour_3, uX10_wireFour_6, uX10_wireFour_7, uX10_wireFour_9, uX10_wireFour_10, uX10_wireFour_10o, uX10_wireFour_10f, uX10_wireFour_11, uX10_wireFour_12, uX10_wireFour_13, uX10_wireFour_14, uX10_wireFour_15, uX10_wireFour_18, uX10_wireFour_20, uX10_wireFour_21, uX10_wireFour_22, uX10_wireFour_23, uX10_wireFour_23o, uX10_wireFour_23f, uX10_wireFour_24, uX10_wireFour_25, uX10_wireFour_26, uX10_wireFour_27, uX10_wireFour_28, uX10_wireFour_31, uX10_wireFour_33, uX10_wireFour_34, uX10_wireFour_35, uX10_wireFour_36, uX10_wireFour_36o, uX10_wireFour_36f, uX10_wireFour_37, uX10_wireFour_38, uX10_wireFour_39, uX10_wireFour_40, uX10_wireFour_41, uX10_wireFour_44, uX10_wireFour_45, uX10_wireFour_46, mo_C H, mo_R_wire H, mo_C_wire H, mo_L_wire H, pq_C_sI, pq_C_sJ, pq_C_sR, pq_C_sA, pq_L_sI, pq_L_sJ, pq_L_sR, pq_L_sA, pq_I_sI, pq_I_sJ, pq_I_sR, pq_I_sA, pq_J_sI, pq_J_sJ, pq_J_sR, pq_J_sA, pq_R_sI, pq_R_sJ, pq_R_sR, pq_R_sA, pq_N_sI, pq_N_sJ, pq_N_sR, pq_N_sA, pq_S_sI, pq_S_sJ, pq_S_sR, pq_S_sA, pz_rf_s, pz_cut_i, pz_cut_r, pz_cut_n, pz_cut_f, pz_cut_u, pz_cut_o, true_and, and_true, true_or, or_true, Option.toList_some, Option.toList_none, List.cons_append, List.nil_append, Nat.add_left_cancel_iff, Nat.left_eq_add, Nat.add_eq_left, Nat.reduceEqDiff, if_true, if_false, ite_true, ite_false, false_and, and_false, false_or, or_false, reduceIte, reduceCtorEq, and_self, mh_C, mh_L, mh_R, mh_J, mh_I0, mh_I, mh_Ir, mh_sI0, mh_sI, mh_sA, gu_11, gu_22, gu_r, gu_21s, gu_21c, gu_22s, gu_11s, gu_11c, gu_22c, Nat.reduceLeDiff, Nat.reduceLT, ne_eq, not_false_eq_true, not_true_eq_false, Nat.reduceEqDiff, Nat.lt_irrefl, eq_self, z_4, z_5, z_7, z_8, z_10, z_16, z_20, z_64, nI_1, show (2 : Int32) = nI 2 from rfl, show (3 : Int32) = nI 3 from rfl, nI_add, g_wireByte H R hk (show i < (sW A k).length by omega) (by omega), g_wireByte H R hk (show i + 1 < (sW A k).length by omega) (by omega), g_wireByte H R hk (show i + 2 < (sW A k).length by omega) (by omega), g_wireByte H R hk (show i + 3 < (sW A k).length by omega) (by omega)]
  rw [be_or (ub_lt _) (ub_lt _) (ub_lt _) (ub_lt _)]
  exact Iff.rfl
end
