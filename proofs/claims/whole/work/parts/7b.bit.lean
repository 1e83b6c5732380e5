/-! ===== the reference: bits, requested ===== -/
theorem pk_remd {n k : Nat} : nI n - nI (n / k * k) = nI (n % k) := by
  rw [pk_sub (Nat.div_mul_le_self n k)]
  congr 1
  have := Nat.div_add_mod n k
  rw [Nat.mul_comm] at this
  omega
/-- bit i of a row of bytes, the highest first -/
def mbit (m : List Int8) (o i : Nat) : Int32 := ((m.getD (o + i / 8) 0).toInt32 >>> ((7 - nI (i % 8)) &&& 31)) &&& 1
def bitOk (A : St) (m : List Int8) (p : Nat) (f : Prop) [Decidable f] : Nat → Bool
  | 0 => decide f
  | i + 1 => bitOk A m p f i && decide (i < p ∨ mbit m 1 i = 0)
def bitF (m : List Int8) (i : Nat) : Int32 := if mbit m 1 i = 1 then 1 else 0
def bitA (A : St) (a b p : Nat) (m : List Int8) (first : Prop) [Decidable first] : Int32 × St :=
  if bitOk A m p first (8 * (m.length - 1)) = true then (5, (pz_u1 (sB A) 30 (put (sB A 30) (64 * (5 * a + b)) p (bitF m)), A.2)) else (25, clA A a b 5)
section
variable {d : Nat} {h : PzH} {Q : Option Value → PzH → Prop} {mo : Nat} {g : Tb} {A : St} {l c p : Nat} {m : List Int8}
theorem RM_fl1 {g : Tb} {A : St} {l : List Int8} {r : Nat} {f : Nat → Int32} (h : RM g A l) (hr : r ∈ FLr) : RM (pz_u1 g r f) (pz_u1 (sB A) r f, A.2) l := by
  have h0 : r ≠ 0 := by rintro rfl; revert hr; decide
  have nn : ∀ a, a ∉ FLr → pz_u1 g r f a = g a := fun a ha => by rw [gu_11, if_neg (show ¬ a = r from fun q => ha (q ▸ hr))]
  have n0 : ∀ j, pz_u1 g r f 0 j = g 0 j := fun j => by rw [gu_11, if_neg (fun q => h0 q.symm)]
  obtain ⟨⟨⟨h1, h2, h3, h4, h5, h6, h7, h8, h9, ⟨h10, h10'⟩, h11, h11'⟩, h12⟩, h13, h14⟩ := h
  refine ⟨⟨⟨?_, ?_, FLE_u1 h3 (fun _ => rfl), ?_, ?_, ?_, ?_, ?_, ?_, ⟨?_, ?_⟩, ?_, ?_⟩, ?_⟩, ?_, ?_⟩
  · rw [n0, nn 1 (by decide)]; exact h1
  · rw [n0, nn 2 (by decide)]; exact h2
  · rw [nn 14 (by decide)]; exact h4
  · rw [nn 13 (by decide)]; exact h5
  · rw [nn 15 (by decide)]; exact h6
  · rw [nn 19 (by decide)]; exact h7
  · rw [nn 33 (by decide), nn 34 (by decide)]; exact h8
  · rw [nn 11 (by decide), nn 12 (by decide)]; exact h9
  · rw [nn 9 (by decide)]; exact h10
  · rw [nn 10 (by decide)]; exact h10'
  · rw [nn 36 (by decide)]; exact h11
  · rw [nn 37 (by decide)]; exact h11'
  · rw [nn 32 (by decide)]
    show SLS (g 32) (pz_u1 (sB A) r f 0 16) (sL A)
    rw [gu_11, if_neg (fun q => h0 q.symm)]
    exact h12
  · rw [n0]; exact h13
  · rw [nn 35 (by decide)]; exact h14
theorem g_bits (H : MO h mo) (R : RM g A []) (T : TN A l c p) (M : MSG g m) (hm : m.length ≤ 100) (hm1 : m.length = 1 + (p + 7) / 8) {a b : Nat} (ha : a < 5) (hb : b < 5) {first : Prop} [Decidable first] (K : ∀ g', RM g' (bitA A a b p m first).2 [] → Q (some (.int (bitA A a b p m first).1)) (mh h mo g')) : pz_M (d + 5) mX10_bits [.ref mo, .int (nI a), .int (nI b), .int (if first then 1 else 0)] (mh h mo g) Q := by
  have F := RM_fl R
  have e20 := (F 0 20 (Or.inr ⟨rfl, by decide⟩)).trans T.2.2.1
  have t6 := T.2.2.2.2.2.1
  have e38 : ∀ j, j < m.length → g 38 j = (m.getD j 0).toInt32 := fun j hj => by have := M.2 j hj; rwa [Nat.zero_add] at this
  simp only [enX10_bits, uX10_bits_0, uX10_bits_1, uX10_bits_3, uX10_bits_5, uX10_bits_9, uX10_bits_11, uX10_bits_11o, uX10_bits_11f, uX10_bits_12, uX10_bits_15, uX10_bits_16, uX10_bits_19, uX10_bits_21, uX10_bits_24, uX10_bits_26, uX10_bits_28, uX10_bits_29, uX10_bits_29o, uX10_bits_29f, uX10_bits_30, uX10_bits_33, uX10_bits_36, uX10_bits_36o, uX10_bits_36f, uX10_bits_37, uX10_bits_40, uX10_bits_42, uX10_bits_44, uX10_bits_45, uX10_bits_46, uX10_bits_48, uX10_bits_50, uX10_bits_52, uX10_bits_53, uX10_bits_54, uX10_bits_55, uX10_bits_56, uX10_bits_57, uX10_bits_60, uX10_bits_61, uX10_bits_64, uX10_bits_65, uX10_bits_67, uX10_bits_70, uX10_bits_73, uX10_bits_75, uX10_bits_78, uX10_bits_78o, uX10_bits_78f, uX10_bits_79, uX10_bits_80, uX10_bits_81, uX10_bits_82, uX10_bits_85, uX10_bits_86, uX10_bits_87, uX10_bits_89, uX10_bits_91, uX10_bits_91o, uX10_bits_91f, uX10_bits_92, uX10_bits_95, uX10_bits_98, uX10_bits_98o, uX10_bits_98f, uX10_bits_99, uX10_bits_102, uX10_bits_104, uX10_bits_105, uX10_bits_106, uX10_bits_107, uX10_bits_108, uX10_bits_109, uX10_bits_110, uX10_bits_112, uX10_bits_113, uX10_bits_113o, uX10_bits_113f, uX10_bits_114, uX10_bits_117, uX10_bits_118, uX10_bits_120, uX10_bits_122, uX10_bits_123, uX10_bits_124, uX10_bits_125, uX10_bits_127, uX10_bits_129, uX10_bits_131, uX10_bits_132, uX10_bits_133, uX10_bits_134, uX10_bits_135, uX10_bits_136, uX10_bits_137, uX10_bits_140, uX10_bits_141, uX10_bits_144, uX10_bits_145, uX10_bits_146, uX10_bits_149, uX10_bits_152, uX10_bits_153, mo_C H, mo_R_message H, mo_C_message H, mo_L_message H, pq_C_sI, pq_C_sJ, pq_C_sR, pq_C_sA, pq_L_sI, pq_L_sJ, pq_L_sR, pq_L_sA, pq_I_sI, pq_I_sJ, pq_I_sR, pq_I_sA, pq_J_sI, pq_J_sJ, pq_J_sR, pq_J_sA, pq_R_sI, pq_R_sJ, pq_R_sR, pq_R_sA, pq_N_sI, pq_N_sJ, pq_N_sR, pq_N_sA, pq_S_sI, pq_S_sJ, pq_S_sR, pq_S_sA, pz_rf_s, pz_cut_i, pz_cut_r, pz_cut_n, pz_cut_f, pz_cut_u, pz_cut_o, true_and, and_true, true_or, or_true, Option.toList_some, Option.toList_none, List.cons_append, List.nil_append, Nat.add_left_cancel_iff, Nat.left_eq_add, Nat.add_eq_left, Nat.reduceEqDiff, if_true, if_false, ite_true, ite_false, false_and, and_false, false_or, or_false, reduceIte, reduceCtorEq, and_self, mh_C, mh_L, mh_R, mh_J, mh_I0, mh_I, mh_Ir, mh_sI0, mh_sI, mh_sA, gu_11, gu_22, gu_r, gu_21s, gu_21c, gu_22s, gu_11s, gu_11c, gu_22c, Nat.reduceLeDiff, Nat.reduceLT, ne_eq, not_false_eq_true, not_true_eq_false, Nat.reduceEqDiff, Nat.lt_irrefl, eq_self, z_4, z_5, z_7, z_8, z_10, z_16, z_20, z_64]
  have key := wp_for (d := d + 4) (m := mX10_bits) (pc := 7) (Q := Q) (fun _ => mh h mo g) (fun i => [.ref mo, .int (nI a), .int (nI b), .int (if first then 1 else 0), .int (if bitOk A m p first i = true then 1 else 0), .int (nI (8 + i))]) (8 * (m.length - 1)) (fun i hi => by
    rw [uX10_bits_7]
    simp only [enX10_bits, uX10_bits_0, uX10_bits_1, uX10_bits_3, uX10_bits_5, uX10_bits_9, uX10_bits_11, uX10_bits_11o, uX10_bits_11f, uX10_bits_12, uX10_bits_15, uX10_bits_16, uX10_bits_19, uX10_bits_21, uX10_bits_24, uX10_bits_26, uX10_bits_28, uX10_bits_29, uX10_bits_29o, uX10_bits_29f, uX10_bits_30, uX10_bits_33, uX10_bits_36, uX10_bits_36o, uX10_bits_36f, uX10_bits_37, uX10_bits_40, uX10_bits_42, uX10_bits_44, uX10_bits_45, uX10_bits_46, uX10_bits_48, uX10_bits_50, uX10_bits_52, uX10_bits_53, uX10_bits_54, uX10_bits_55, uX10_bits_56, uX10_bits_57, uX10_bits_60, uX10_bits_61, uX10_bits_64, uX10_bits_65, uX10_bits_67, uX10_bits_70, uX10_bits_75, uX10_bits_78, uX10_bits_78o, uX10_bits_78f, uX10_bits_79, uX10_bits_80, uX10_bits_81, uX10_bits_82, uX10_bits_85, uX10_bits_86, uX10_bits_87, uX10_bits_89, uX10_bits_91, uX10_bits_91o, uX10_bits_91f, uX10_bits_92, uX10_bits_95, uX10_bits_98, uX10_bits_98o, uX10_bits_98f, uX10_bits_99, uX10_bits_102, uX10_bits_104, uX10_bits_105, uX10_bits_106, uX10_bits_107, uX10_bits_108, uX10_bits_109, uX10_bits_110, uX10_bits_112, uX10_bits_113, uX10_bits_113o, uX10_bits_113f, uX10_bits_114, uX10_bits_117, uX10_bits_118, uX10_bits_120, uX10_bits_122, uX10_bits_123, uX10_bits_124, uX10_bits_125, uX10_bits_127, uX10_bits_129, uX10_bits_131, uX10_bits_132, uX10_bits_133, uX10_bits_134, uX10_bits_135, uX10_bits_136, uX10_bits_137, uX10_bits_140, uX10_bits_141, uX10_bits_144, uX10_bits_145, uX10_bits_146, uX10_bits_149, uX10_bits_152, uX10_bits_153, mo_C H, mo_R_message H, mo_C_message H, mo_L_message H, pq_C_sI, pq_C_sJ, pq_C_sR, pq_C_sA, pq_L_sI, pq_L_sJ, pq_L_sR, pq_L_sA, pq_I_sI, pq_I_sJ, pq_I_sR, pq_I_sA, pq_J_sI, pq_J_sJ, pq_J_sR, pq_J_sA, pq_R_sI, pq_R_sJ, pq_R_sR, pq_R_sA, pq_N_sI, pq_N_sJ, pq_N_sR, pq_N_sA, pq_S_sI, pq_S_sJ, pq_S_sR, pq_S_sA, pz_rf_s, pz_cut_i, pz_cut_r, pz_cut_n, pz_cut_f, pz_cut_u, pz_cut_o, true_and, and_true, true_or, or_true, Option.toList_some, Option.toList_none, List.cons_append, List.nil_append, Nat.add_left_cancel_iff, Nat.left_eq_add, Nat.add_eq_left, Nat.reduceEqDiff, if_true, if_false, ite_true, ite_false, false_and, and_false, false_or, or_false, reduceIte, reduceCtorEq, and_self, mh_C, mh_L, mh_R, mh_J, mh_I0, mh_I, mh_Ir, mh_sI0, mh_sI, mh_sA, gu_11, gu_22, gu_r, gu_21s, gu_21c, gu_22s, gu_11s, gu_11c, gu_22c, Nat.reduceLeDiff, Nat.reduceLT, ne_eq, not_false_eq_true, not_true_eq_false, Nat.reduceEqDiff, Nat.lt_irrefl, eq_self, z_4, z_5, z_7, z_8, z_10, z_16, z_20, z_64, e20, M.1]
    have e8 : (8 : Int32) = nI 8 := rfl
    simp only [e8, pk_mul, pk_sub (show 8 ≤ 8 + i by omega), show 8 + i - 8 = i by omega, pk_div (show 8 + i < 2 ^ 31 by omega) (show 0 < 8 by decide) (show 8 < 2 ^ 31 by decide), pk_rem (show 8 + i < 2 ^ 31 by omega) (show 0 < 8 by decide) (show 8 < 2 ^ 31 by decide)]
    rw [if_neg (nI_ge (show 8 + i < 8 * m.length by omega) (by omega))]
    simp (disch := omega) only [nI_clamp, pz_in_nI, true_and, nI_1, e38 ((8 + i) / 8) (by omega)]
    show _ ↔ wp (d + 4) mX10_bits 7 [.ref mo, .int (nI a), .int (nI b), .int (if first then 1 else 0), .int (if (bitOk A m p first i && decide (i < p ∨ mbit m 1 i = 0)) = true then 1 else 0), .int (nI (8 + (i + 1)))] [] (mh h mo g) Q
    have em : mbit m 1 i = ((m.getD ((8 + i) / 8) 0).toInt32 >>> ((7 - nI ((8 + i) % 8)) &&& 31)) &&& 1 := by
      unfold mbit
      rw [show (8 + i) / 8 = 1 + i / 8 by omega, show (8 + i) % 8 = i % 8 by omega]
    rw [pk_remd, ← em]
    cases hz : bitOk A m p first i with
    | false => simp [Nat.add_assoc]
    | true =>
      by_cases q : i < p
      · rw [if_pos (nI_lt q (by omega))]
        simp [q, Nat.add_assoc]
      · rw [if_neg (nI_nlt (by omega) (by omega))]
        by_cases q2 : mbit m 1 i = 0
        · simp [q2, Nat.add_assoc]
        · simp [q, q2, Nat.add_assoc])
  refine (Iff.trans (show _ ↔ _ from ?_) key).mpr ?_
  · rw [show bitOk A m p first 0 = decide first from rfl]
    simp only [decide_eq_true_eq]
    exact Iff.rfl
  · rw [uX10_bits_7]
    simp only [enX10_bits, uX10_bits_0, uX10_bits_1, uX10_bits_3, uX10_bits_5, uX10_bits_9, uX10_bits_11, uX10_bits_11o, uX10_bits_11f, uX10_bits_12, uX10_bits_15, uX10_bits_16, uX10_bits_19, uX10_bits_21, uX10_bits_24, uX10_bits_26, uX10_bits_28, uX10_bits_29, uX10_bits_29o, uX10_bits_29f, uX10_bits_30, uX10_bits_33, uX10_bits_36, uX10_bits_36o, uX10_bits_36f, uX10_bits_37, uX10_bits_40, uX10_bits_42, uX10_bits_44, uX10_bits_45, uX10_bits_46, uX10_bits_48, uX10_bits_50, uX10_bits_52, uX10_bits_53, uX10_bits_54, uX10_bits_55, uX10_bits_56, uX10_bits_57, uX10_bits_60, uX10_bits_61, uX10_bits_64, uX10_bits_65, uX10_bits_67, uX10_bits_70, uX10_bits_73, uX10_bits_75, uX10_bits_78, uX10_bits_78o, uX10_bits_78f, uX10_bits_79, uX10_bits_80, uX10_bits_81, uX10_bits_82, uX10_bits_85, uX10_bits_86, uX10_bits_87, uX10_bits_91, uX10_bits_91o, uX10_bits_91f, uX10_bits_92, uX10_bits_95, uX10_bits_98, uX10_bits_98o, uX10_bits_98f, uX10_bits_99, uX10_bits_102, uX10_bits_104, uX10_bits_105, uX10_bits_106, uX10_bits_107, uX10_bits_108, uX10_bits_109, uX10_bits_110, uX10_bits_112, uX10_bits_113, uX10_bits_113o, uX10_bits_113f, uX10_bits_114, uX10_bits_117, uX10_bits_118, uX10_bits_120, uX10_bits_122, uX10_bits_123, uX10_bits_124, uX10_bits_125, uX10_bits_127, uX10_bits_129, uX10_bits_131, uX10_bits_132, uX10_bits_133, uX10_bits_134, uX10_bits_135, uX10_bits_136, uX10_bits_137, uX10_bits_140, uX10_bits_141, uX10_bits_144, uX10_bits_145, uX10_bits_146, uX10_bits_149, uX10_bits_152, uX10_bits_153, mo_C H, mo_R_message H, mo_C_message H, mo_L_message H, pq_C_sI, pq_C_sJ, pq_C_sR, pq_C_sA, pq_L_sI, pq_L_sJ, pq_L_sR, pq_L_sA, pq_I_sI, pq_I_sJ, pq_I_sR, pq_I_sA, pq_J_sI, pq_J_sJ, pq_J_sR, pq_J_sA, pq_R_sI, pq_R_sJ, pq_R_sR, pq_R_sA, pq_N_sI, pq_N_sJ, pq_N_sR, pq_N_sA, pq_S_sI, pq_S_sJ, pq_S_sR, pq_S_sA, pz_rf_s, pz_cut_i, pz_cut_r, pz_cut_n, pz_cut_f, pz_cut_u, pz_cut_o, true_and, and_true, true_or, or_true, Option.toList_some, Option.toList_none, List.cons_append, List.nil_append, Nat.add_left_cancel_iff, Nat.left_eq_add, Nat.add_eq_left, Nat.reduceEqDiff, if_true, if_false, ite_true, ite_false, false_and, and_false, false_or, or_false, reduceIte, reduceCtorEq, and_self, mh_C, mh_L, mh_R, mh_J, mh_I0, mh_I, mh_Ir, mh_sI0, mh_sI, mh_sA, gu_11, gu_22, gu_r, gu_21s, gu_21c, gu_22s, gu_11s, gu_11c, gu_22c, Nat.reduceLeDiff, Nat.reduceLT, ne_eq, not_false_eq_true, not_true_eq_false, Nat.reduceEqDiff, Nat.lt_irrefl, eq_self, z_4, z_5, z_7, z_8, z_10, z_16, z_20, z_64, M.1, g_shuts H ha hb]
    have e8 : (8 : Int32) = nI 8 := rfl
    simp only [e8, pk_mul]
    rw [if_pos (nI_le (show 8 * m.length ≤ 8 + 8 * (m.length - 1) by omega) (by omega))]
    unfold bitA at K
    cases hz : bitOk A m p first (8 * (m.length - 1)) with
    | false =>
      rw [hz] at K
      simp only [Bool.false_eq_true, if_false, if_true, not_true_eq_false] at K ⊢
      exact K _ (RM_cl R)
    | true =>
      rw [hz] at K
      simp only [if_true, show ¬ (1 : Int32) = 0 by decide, not_false_eq_true] at K ⊢
      have hk : 5 * a + b < 25 := by omega
      have key2 := wp_for (d := d + 4) (m := mX10_bits) (pc := 89) (Q := Q) (fun i => mh h mo (pz_u1 g 30 (put (g 30) (64 * (5 * a + b)) i (bitF m)))) (fun i => [.ref mo, .int (nI a), .int (nI b), .int (if first then 1 else 0), .int 1, .int (nI i)]) p (fun i hi => by
        rw [uX10_bits_89]
        simp only [enX10_bits, uX10_bits_0, uX10_bits_1, uX10_bits_3, uX10_bits_5, uX10_bits_7, uX10_bits_9, uX10_bits_11, uX10_bits_11o, uX10_bits_11f, uX10_bits_12, uX10_bits_15, uX10_bits_16, uX10_bits_19, uX10_bits_21, uX10_bits_24, uX10_bits_26, uX10_bits_28, uX10_bits_29, uX10_bits_29o, uX10_bits_29f, uX10_bits_30, uX10_bits_33, uX10_bits_36, uX10_bits_36o, uX10_bits_36f, uX10_bits_37, uX10_bits_40, uX10_bits_42, uX10_bits_44, uX10_bits_45, uX10_bits_46, uX10_bits_48, uX10_bits_50, uX10_bits_52, uX10_bits_53, uX10_bits_54, uX10_bits_55, uX10_bits_56, uX10_bits_57, uX10_bits_60, uX10_bits_61, uX10_bits_64, uX10_bits_65, uX10_bits_67, uX10_bits_70, uX10_bits_73, uX10_bits_75, uX10_bits_78, uX10_bits_78o, uX10_bits_78f, uX10_bits_79, uX10_bits_80, uX10_bits_81, uX10_bits_82, uX10_bits_85, uX10_bits_86, uX10_bits_87, uX10_bits_91, uX10_bits_91o, uX10_bits_91f, uX10_bits_92, uX10_bits_95, uX10_bits_98, uX10_bits_98o, uX10_bits_98f, uX10_bits_99, uX10_bits_102, uX10_bits_104, uX10_bits_105, uX10_bits_106, uX10_bits_107, uX10_bits_108, uX10_bits_109, uX10_bits_110, uX10_bits_112, uX10_bits_113, uX10_bits_113o, uX10_bits_113f, uX10_bits_114, uX10_bits_117, uX10_bits_118, uX10_bits_120, uX10_bits_122, uX10_bits_123, uX10_bits_124, uX10_bits_125, uX10_bits_127, uX10_bits_129, uX10_bits_131, uX10_bits_132, uX10_bits_133, uX10_bits_134, uX10_bits_135, uX10_bits_136, uX10_bits_137, uX10_bits_140, uX10_bits_141, uX10_bits_144, uX10_bits_145, uX10_bits_146, uX10_bits_149, uX10_bits_153, mo_C H, mo_R_message H, mo_C_message H, mo_L_message H, mo_R_theirs H, mo_C_theirs H, mo_L_theirs H, pq_C_sI, pq_C_sJ, pq_C_sR, pq_C_sA, pq_L_sI, pq_L_sJ, pq_L_sR, pq_L_sA, pq_I_sI, pq_I_sJ, pq_I_sR, pq_I_sA, pq_J_sI, pq_J_sJ, pq_J_sR, pq_J_sA, pq_R_sI, pq_R_sJ, pq_R_sR, pq_R_sA, pq_N_sI, pq_N_sJ, pq_N_sR, pq_N_sA, pq_S_sI, pq_S_sJ, pq_S_sR, pq_S_sA, pz_rf_s, pz_cut_i, pz_cut_r, pz_cut_n, pz_cut_f, pz_cut_u, pz_cut_o, true_and, and_true, true_or, or_true, Option.toList_some, Option.toList_none, List.cons_append, List.nil_append, Nat.add_left_cancel_iff, Nat.left_eq_add, Nat.add_eq_left, Nat.reduceEqDiff, if_true, if_false, ite_true, ite_false, false_and, and_false, false_or, or_false, reduceIte, reduceCtorEq, and_self, mh_C, mh_L, mh_R, mh_J, mh_I0, mh_I, mh_Ir, mh_sI0, mh_sI, mh_sA, gu_11, gu_22, gu_r, gu_21s, gu_21c, gu_22s, gu_11s, gu_11c, gu_22c, Nat.reduceLeDiff, Nat.reduceLT, ne_eq, not_false_eq_true, not_true_eq_false, Nat.reduceEqDiff, Nat.lt_irrefl, eq_self, z_4, z_5, z_7, z_8, z_10, z_16, z_20, z_64, e20]
        simp only [e8, show (5 : Int32) = nI 5 from rfl, show (64 : Int32) = nI 64 from rfl, pk_mul, nI_add, pk_div (show i < 2 ^ 31 by omega) (show 0 < 8 by decide) (show 8 < 2 ^ 31 by decide), pk_rem (show i < 2 ^ 31 by omega) (show 0 < 8 by decide) (show 8 < 2 ^ 31 by decide), show 1 + nI (i / 8) = nI (1 + i / 8) from nI_add 1 _]
        rw [if_neg (nI_ge hi (by omega))]
        simp (disch := omega) only [nI_clamp, pz_in_nI, true_and, nI_1, e38 (1 + i / 8) (by omega), nar_b0, nar_b1]
        rw [pk_remd, ← put_s, show (((m.getD (1 + i / 8) 0).toInt32 >>> ((7 - nI (i % 8)) &&& 31)) &&& 1) = mbit m 1 i from rfl]
        unfold bitF
        by_cases q : mbit m 1 i = 1
        · simp only [q, not_true_eq_false, if_false, if_true]
        · simp only [q, not_false_eq_true, if_true, if_false])
      have e30 : mh h mo g = mh h mo (pz_u1 g 30 (put (g 30) (64 * (5 * a + b)) 0 (bitF m))) := by rw [put_0, gu_1e]
      rw [e30]
      refine (Iff.trans (show _ ↔ _ from Iff.rfl) key2).mpr ?_
      rw [uX10_bits_89]
      simp only [enX10_bits, uX10_bits_0, uX10_bits_1, uX10_bits_3, uX10_bits_5, uX10_bits_7, uX10_bits_9, uX10_bits_11, uX10_bits_11o, uX10_bits_11f, uX10_bits_12, uX10_bits_15, uX10_bits_16, uX10_bits_19, uX10_bits_21, uX10_bits_24, uX10_bits_26, uX10_bits_28, uX10_bits_29, uX10_bits_29o, uX10_bits_29f, uX10_bits_30, uX10_bits_33, uX10_bits_36, uX10_bits_36o, uX10_bits_36f, uX10_bits_37, uX10_bits_40, uX10_bits_42, uX10_bits_44, uX10_bits_45, uX10_bits_46, uX10_bits_48, uX10_bits_50, uX10_bits_52, uX10_bits_53, uX10_bits_54, uX10_bits_55, uX10_bits_56, uX10_bits_57, uX10_bits_60, uX10_bits_61, uX10_bits_64, uX10_bits_65, uX10_bits_67, uX10_bits_70, uX10_bits_73, uX10_bits_75, uX10_bits_78, uX10_bits_78o, uX10_bits_78f, uX10_bits_79, uX10_bits_80, uX10_bits_81, uX10_bits_82, uX10_bits_85, uX10_bits_86, uX10_bits_87, uX10_bits_91, uX10_bits_91o, uX10_bits_91f, uX10_bits_92, uX10_bits_95, uX10_bits_98, uX10_bits_98o, uX10_bits_98f, uX10_bits_99, uX10_bits_102, uX10_bits_104, uX10_bits_105, uX10_bits_106, uX10_bits_107, uX10_bits_108, uX10_bits_109, uX10_bits_110, uX10_bits_112, uX10_bits_113, uX10_bits_113o, uX10_bits_113f, uX10_bits_114, uX10_bits_117, uX10_bits_118, uX10_bits_120, uX10_bits_122, uX10_bits_123, uX10_bits_124, uX10_bits_125, uX10_bits_127, uX10_bits_129, uX10_bits_131, uX10_bits_132, uX10_bits_133, uX10_bits_134, uX10_bits_135, uX10_bits_136, uX10_bits_137, uX10_bits_140, uX10_bits_141, uX10_bits_144, uX10_bits_145, uX10_bits_146, uX10_bits_149, uX10_bits_152, uX10_bits_153, mo_C H, mo_R_message H, mo_C_message H, mo_L_message H, mo_R_theirs H, mo_C_theirs H, mo_L_theirs H, pq_C_sI, pq_C_sJ, pq_C_sR, pq_C_sA, pq_L_sI, pq_L_sJ, pq_L_sR, pq_L_sA, pq_I_sI, pq_I_sJ, pq_I_sR, pq_I_sA, pq_J_sI, pq_J_sJ, pq_J_sR, pq_J_sA, pq_R_sI, pq_R_sJ, pq_R_sR, pq_R_sA, pq_N_sI, pq_N_sJ, pq_N_sR, pq_N_sA, pq_S_sI, pq_S_sJ, pq_S_sR, pq_S_sA, pz_rf_s, pz_cut_i, pz_cut_r, pz_cut_n, pz_cut_f, pz_cut_u, pz_cut_o, true_and, and_true, true_or, or_true, Option.toList_some, Option.toList_none, List.cons_append, List.nil_append, Nat.add_left_cancel_iff, Nat.left_eq_add, Nat.add_eq_left, Nat.reduceEqDiff, if_true, if_false, ite_true, ite_false, false_and, and_false, false_or, or_false, reduceIte, reduceCtorEq, and_self, mh_C, mh_L, mh_R, mh_J, mh_I0, mh_I, mh_Ir, mh_sI0, mh_sI, mh_sA, gu_11, gu_22, gu_r, gu_21s, gu_21c, gu_22s, gu_11s, gu_11c, gu_22c, Nat.reduceLeDiff, Nat.reduceLT, ne_eq, not_false_eq_true, not_true_eq_false, Nat.reduceEqDiff, Nat.lt_irrefl, eq_self, z_4, z_5, z_7, z_8, z_10, z_16, z_20, z_64, e20]
      rw [if_pos (nI_le (Nat.le_refl _) (by omega))]
      refine K _ ?_
      have := RM_fl1 (r := 30) (f := put (g 30) (64 * (5 * a + b)) p (bitF m)) R (by decide)
      rw [FLE_row F (show 30 ∈ FLr by decide)] at this ⊢
      exact this
end
