/-! ===== the class: rows of bytes, runs ===== -/
def txL (k : Nat) : List Int8 := ofF (fun i => (pz_ch k i).toInt8) (pz_sl.getD k 0)
section
variable {d : Nat} {h : PzH} {Q : Option Value → PzH → Prop} {r a cap : Nat} {l : List Int8}
theorem c_number {i : Nat} (w : ROW h r a cap l) (hi : i < 6000) : pz_M (d + 1) mX6_number [.ref r, .int (nI i)] h Q ↔ Q (some (.long (if i + 4 ≤ l.length then lN (be32 l i) else -1))) h := by
  have W := w
  obtain ⟨w1, w2, w3, w4, w5, w6, w7, w8, w9⟩ := w
  simp only [enX6_number, uX6_number_0, uX6_number_1, uX6_number_4, uX6_number_5, uX6_number_5o, uX6_number_5f, uX6_number_6, uX6_number_9, uX6_number_10, uX6_number_11, uX6_number_14, uX6_number_17, uX6_number_18, uX6_number_18o, uX6_number_18f, uX6_number_19, uX6_number_22, uX6_number_23, uX6_number_24, uX6_number_25, uX6_number_28, uX6_number_29, uX6_number_31, uX6_number_32, uX6_number_32o, uX6_number_32f, uX6_number_33, uX6_number_36, uX6_number_37, uX6_number_38, uX6_number_39, uX6_number_40, uX6_number_41, uX6_number_44, uX6_number_45, uX6_number_47, uX6_number_48, uX6_number_49, uX6_number_49o, uX6_number_49f, uX6_number_50, uX6_number_53, uX6_number_54, uX6_number_55, uX6_number_56, uX6_number_57, uX6_number_58, uX6_number_61, uX6_number_62, uX6_number_64, uX6_number_65, uX6_number_66, uX6_number_66o, uX6_number_66f, uX6_number_67, uX6_number_70, uX6_number_71, uX6_number_72, uX6_number_73, uX6_number_74, uX6_number_75, uX6_number_78, uX6_number_79, uX6_number_80, w1, w2, w3, w4, w7, pq_C_sI, pq_C_sJ, pq_C_sR, pq_C_sA, pq_L_sI, pq_L_sJ, pq_L_sR, pq_L_sA, pq_I_sI, pq_I_sJ, pq_I_sR, pq_I_sA, pq_J_sI, pq_J_sJ, pq_J_sR, pq_J_sA, pq_R_sI, pq_R_sJ, pq_R_sR, pq_R_sA, pq_N_sI, pq_N_sJ, pq_N_sR, pq_N_sA, pq_S_sI, pq_S_sJ, pq_S_sR, pq_S_sA, pz_rf_s, pz_cut_i, pz_cut_r, pz_cut_n, pz_cut_f, pz_cut_u, pz_cut_o, true_and, and_true, true_or, or_true, Option.toList_some, Option.toList_none, List.cons_append, List.nil_append, Nat.add_left_cancel_iff, Nat.left_eq_add, Nat.add_eq_left, Nat.reduceEqDiff, if_true, if_false, ite_true, ite_false, false_and, and_false, false_or, or_false, reduceIte, reduceCtorEq, and_self]
  rw [if_neg (nI_pos (by omega))]
  by_cases q : i + 4 ≤ l.length
  · have e : ∀ j, j < l.length → pz_I h a j = (l.getD j 0).toInt32 := fun j hj => by have := w9 j hj; rwa [Nat.zero_add] at this
    rw [if_pos q, show nI l.length - 4 = nI (l.length - 4) from pk_sub (b := 4) (by omega), if_pos (nI_le (by omega) (by omega))]
    simp only [nI_1, show (2 : Int32) = nI 2 from rfl, show (3 : Int32) = nI 3 from rfl, nI_add]
    simp (disch := omega) only [nI_clamp, pz_in_nI, true_and, e i (by omega), e (i + 1) (by omega), e (i + 2) (by omega), e (i + 3) (by omega), ub_l]
    have h0 := ub_lt (l.getD i 0)
    have h1 := ub_lt (l.getD (i + 1) 0)
    have h2 := ub_lt (l.getD (i + 2) 0)
    have h3 := ub_lt (l.getD (i + 3) 0)
    rw [show (24 : Int32) = nI 24 from rfl, show (16 : Int32) = nI 16 from rfl, show (8 : Int32) = nI 8 from rfl, wb_shl _ (by decide), wb_shl _ (by decide), wb_shl _ (by decide)]
    unfold be32
    generalize ub (l.getD i 0) = a at *
    generalize ub (l.getD (i + 1) 0) = b at *
    generalize ub (l.getD (i + 2) 0) = c at *
    generalize ub (l.getD (i + 3) 0) = e at *
    rw [g_or (k := 24) (p := 2 ^ 24) rfl (by omega) (by omega)]
    rw [show a * 2 ^ 24 + b * 2 ^ 16 = (a * 256 + b) * 2 ^ 16 by omega, g_or (k := 16) (p := 2 ^ 16) rfl (by omega) (by omega)]
    rw [show (a * 256 + b) * 2 ^ 16 + c * 2 ^ 8 = ((a * 256 + b) * 256 + c) * 2 ^ 8 by omega, g_or (k := 8) (p := 2 ^ 8) rfl (by omega) (by omega)]
    rw [show ((a * 256 + b) * 256 + c) * 2 ^ 8 + e = 16777216 * a + (65536 * b + (256 * c + e)) by omega]
  · rw [if_neg q, if_neg]
    intro z
    by_cases q2 : 4 ≤ l.length
    · rw [show nI l.length - 4 = nI (l.length - 4) from pk_sub (b := 4) q2] at z
      have := (nI_leI (by omega) (by omega)).mp z
      omega
    · have hn := pk_sneg (a := l.length) (b := 4) (by decide) (by omega)
      have z1 := Int32.lt_iff_toInt_lt.mp (show nI l.length - 4 < 0 from hn)
      have z2 := Int32.le_iff_toInt_le.mp z
      rw [nI_toInt (by omega)] at z2
      have e0 : (0 : Int32).toInt = 0 := by decide
      omega
theorem c_addNumber {v : Int32} (w : ROW h r a cap l) (hl : l.length + 4 ≤ cap) (K : ∀ h', HF [r, a] h h' → ROW h' r a cap (l ++ be4 v) → Q none h') : pz_M (d + 2) mX6_addNumber [.ref r, .int v] h Q := by
  have W := w
  obtain ⟨w1, w2, w3, w4, w5, w6, w7, w8, w9⟩ := w
  have e1 : ¬ r = a := w5
  simp only [enX6_addNumber, uX6_addNumber_0, uX6_addNumber_0o, uX6_addNumber_0f, uX6_addNumber_1, uX6_addNumber_2, uX6_addNumber_5, uX6_addNumber_8, uX6_addNumber_8o, uX6_addNumber_8f, uX6_addNumber_9, uX6_addNumber_12, uX6_addNumber_12o, uX6_addNumber_12f, uX6_addNumber_13, uX6_addNumber_16, uX6_addNumber_17, uX6_addNumber_19, uX6_addNumber_20, uX6_addNumber_21, uX6_addNumber_22, uX6_addNumber_22o, uX6_addNumber_22f, uX6_addNumber_23, uX6_addNumber_26, uX6_addNumber_26o, uX6_addNumber_26f, uX6_addNumber_27, uX6_addNumber_30, uX6_addNumber_31, uX6_addNumber_32, uX6_addNumber_33, uX6_addNumber_35, uX6_addNumber_36, uX6_addNumber_37, uX6_addNumber_38, uX6_addNumber_38o, uX6_addNumber_38f, uX6_addNumber_39, uX6_addNumber_42, uX6_addNumber_42o, uX6_addNumber_42f, uX6_addNumber_43, uX6_addNumber_46, uX6_addNumber_47, uX6_addNumber_48, uX6_addNumber_49, uX6_addNumber_51, uX6_addNumber_52, uX6_addNumber_53, uX6_addNumber_54, uX6_addNumber_54o, uX6_addNumber_54f, uX6_addNumber_55, uX6_addNumber_58, uX6_addNumber_58o, uX6_addNumber_58f, uX6_addNumber_59, uX6_addNumber_62, uX6_addNumber_63, uX6_addNumber_64, uX6_addNumber_65, uX6_addNumber_66, uX6_addNumber_67, uX6_addNumber_67o, uX6_addNumber_67f, uX6_addNumber_68, uX6_addNumber_69, uX6_addNumber_72, uX6_addNumber_73, uX6_addNumber_74, uX6_addNumber_77, w1, w2, w3, w4, w7, pq_C_sI, pq_C_sJ, pq_C_sR, pq_C_sA, pq_L_sI, pq_L_sJ, pq_L_sR, pq_L_sA, pq_I_sI, pq_I_sJ, pq_I_sR, pq_I_sA, pq_J_sI, pq_J_sJ, pq_J_sR, pq_J_sA, pq_R_sI, pq_R_sJ, pq_R_sR, pq_R_sA, pq_N_sI, pq_N_sJ, pq_N_sR, pq_N_sA, pq_S_sI, pq_S_sJ, pq_S_sR, pq_S_sA, pz_rf_s, pz_cut_i, pz_cut_r, pz_cut_n, pz_cut_f, pz_cut_u, pz_cut_o, true_and, and_true, true_or, or_true, Option.toList_some, Option.toList_none, List.cons_append, List.nil_append, Nat.add_left_cancel_iff, Nat.left_eq_add, Nat.add_eq_left, Nat.reduceEqDiff, if_true, if_false, ite_true, ite_false, false_and, and_false, false_or, or_false, reduceIte, reduceCtorEq, and_self, c_fits W]
  rw [if_neg (show ¬ (4 : Int32) < 0 by decide), if_neg (show ¬ nI (cap - l.length) < 4 from nI_nlt (b := 4) (by omega) (by omega))]
  simp only [show (2 : Int32) = nI 2 from rfl, show (3 : Int32) = nI 3 from rfl, nI_add, e1, w7, false_and, if_false, nI_1]
  simp (disch := omega) only [show ¬ (1 : Int32) = 0 by decide, if_false, nI_clamp, pz_in_nI, true_and, pk_vb, pq_sI_A (a := a), pq_sA_sA, pq_I_sA, e1, w7, nI_add, nI_1, if_true]
  rw [show nI l.length + 4 = nI (l.length + 4) from nI_add _ 4]
  have := ROW_w (m := l ++ be4 v) (f := upd (upd (upd (upd (pz_I h a) l.length (v.toUInt32 >>> ((24 : Int32).toUInt32 &&& Int32.toUInt32 31)).toInt32.toInt8.toInt32) (l.length + 1) (v.toUInt32 >>> ((16 : Int32).toUInt32 &&& Int32.toUInt32 31)).toInt32.toInt8.toInt32) (l.length + 2) (v.toUInt32 >>> ((8 : Int32).toUInt32 &&& Int32.toUInt32 31)).toInt32.toInt8.toInt32) (l.length + 3) v.toInt8.toInt32) W (by rw [List.length_append]; simp [be4]; omega) (SEG_app w9 (fun i hi => by rw [Nat.zero_add, pk_un (by omega), pk_un (by omega), pk_un (by omega), pk_un (by omega)]) (fun i hi => by
    have hi4 : i < 4 := by simpa [be4] using hi
    have hc : i = 0 ∨ i = 1 ∨ i = 2 ∨ i = 3 := by omega
    have s24 := sh_u8 24 (by decide) v
    have s16 := sh_u8 16 (by decide) v
    have s8 := sh_u8 8 (by decide) v
    rw [Nat.zero_add]
    rcases hc with rfl | rfl | rfl | rfl
    · rw [pk_un (by omega), pk_un (by omega), pk_un (by omega), Nat.add_zero, pk_us]
      exact congrArg Int8.toInt32 s24
    · rw [pk_un (by omega), pk_un (by omega), pk_us]
      exact congrArg Int8.toInt32 s16
    · rw [pk_un (by omega), pk_us]
      exact congrArg Int8.toInt32 s8
    · rw [pk_us]
      have : (v >>> ((0 : Int32) &&& 31)).toInt8 = v.toInt8 := i8_ext (fun i hi => by
        have := b_sshr 0 (by decide) v (show i < 32 by omega)
        rw [if_pos (by omega), Nat.zero_add] at this
        exact this)
      exact (congrArg Int8.toInt32 this).symm))
  rw [List.length_append] at this
  exact K _ this.2 this.1
theorem c_addText {k : UInt32} (w : ROW h r a cap l) (hk : k.toNat < pz_sn) (hk2 : pz_sl.getD k.toNat 0 ≤ 100) (hl : l.length + pz_sl.getD k.toNat 0 ≤ cap) (K : ∀ h', HF [r, a] h h' → ROW h' r a cap (l ++ txL k.toNat) → Q none h') : pz_M (d + 3) mX6_addText [.ref r, .float k] h Q := by
  simp only [enX6_addText, uX6_addText_0, uX6_addText_1, uX6_addText_3, uX6_addText_3o, uX6_addText_3f, uX6_addText_4, uX6_addText_7, uX6_addText_10, uX6_addText_10o, uX6_addText_10f, uX6_addText_11, uX6_addText_11o, uX6_addText_11f, uX6_addText_12, uX6_addText_13, uX6_addText_16, uX6_addText_19, uX6_addText_22, uX6_addText_25, pq_C_sI, pq_C_sJ, pq_C_sR, pq_C_sA, pq_L_sI, pq_L_sJ, pq_L_sR, pq_L_sA, pq_I_sI, pq_I_sJ, pq_I_sR, pq_I_sA, pq_J_sI, pq_J_sJ, pq_J_sR, pq_J_sA, pq_R_sI, pq_R_sJ, pq_R_sR, pq_R_sA, pq_N_sI, pq_N_sJ, pq_N_sR, pq_N_sA, pq_S_sI, pq_S_sJ, pq_S_sR, pq_S_sA, pz_rf_s, pz_cut_i, pz_cut_r, pz_cut_n, pz_cut_f, pz_cut_u, pz_cut_o, true_and, and_true, true_or, or_true, Option.toList_some, Option.toList_none, List.cons_append, List.nil_append, Nat.add_left_cancel_iff, Nat.left_eq_add, Nat.add_eq_left, Nat.reduceEqDiff, if_true, if_false, ite_true, ite_false, false_and, and_false, false_or, or_false, reduceIte, reduceCtorEq, and_self]
  have w6 := w.2.2.2.2.2.1
  refine wp_up (pz_sl.getD k.toNat 0) (fun i ls h' => ls = [.ref r, .float k, .int (nI i)] ∧ HF [r, a] h h' ∧ ROW h' r a cap (l ++ ofF (fun i => (pz_ch k.toNat i).toInt8) i)) ?_ ?_ _ _ ⟨rfl, HF_refl, by rw [ofF_0, List.append_nil]; exact w⟩
  · rintro i ls h' hi ⟨rfl, F, W⟩ K'
    rw [uX6_addText_2]
    simp only [enX6_addText, uX6_addText_0, uX6_addText_1, uX6_addText_3, uX6_addText_3o, uX6_addText_3f, uX6_addText_4, uX6_addText_7, uX6_addText_10, uX6_addText_10o, uX6_addText_10f, uX6_addText_11, uX6_addText_11o, uX6_addText_11f, uX6_addText_12, uX6_addText_13, uX6_addText_16, uX6_addText_19, uX6_addText_22, uX6_addText_25, pq_C_sI, pq_C_sJ, pq_C_sR, pq_C_sA, pq_L_sI, pq_L_sJ, pq_L_sR, pq_L_sA, pq_I_sI, pq_I_sJ, pq_I_sR, pq_I_sA, pq_J_sI, pq_J_sJ, pq_J_sR, pq_J_sA, pq_R_sI, pq_R_sJ, pq_R_sR, pq_R_sA, pq_N_sI, pq_N_sJ, pq_N_sR, pq_N_sA, pq_S_sI, pq_S_sJ, pq_S_sR, pq_S_sA, pz_rf_s, pz_cut_i, pz_cut_r, pz_cut_n, pz_cut_f, pz_cut_u, pz_cut_o, true_and, and_true, true_or, or_true, Option.toList_some, Option.toList_none, List.cons_append, List.nil_append, Nat.add_left_cancel_iff, Nat.left_eq_add, Nat.add_eq_left, Nat.reduceEqDiff, if_true, if_false, ite_true, ite_false, false_and, and_false, false_or, or_false, reduceIte, reduceCtorEq, and_self, hk, W.1]
    rw [if_neg (nI_ge hi (by omega))]
    simp (disch := omega) only [nI_clamp, pz_in_nI, true_and]
    refine c_add W (by rw [List.length_append, ofF_len]; omega) (fun h2 F2 W2 => ?_)
    simp only [enX6_addText, uX6_addText_0, uX6_addText_1, uX6_addText_3, uX6_addText_3o, uX6_addText_3f, uX6_addText_4, uX6_addText_7, uX6_addText_10, uX6_addText_10o, uX6_addText_10f, uX6_addText_11, uX6_addText_11o, uX6_addText_11f, uX6_addText_12, uX6_addText_13, uX6_addText_16, uX6_addText_19, uX6_addText_22, uX6_addText_25, pq_C_sI, pq_C_sJ, pq_C_sR, pq_C_sA, pq_L_sI, pq_L_sJ, pq_L_sR, pq_L_sA, pq_I_sI, pq_I_sJ, pq_I_sR, pq_I_sA, pq_J_sI, pq_J_sJ, pq_J_sR, pq_J_sA, pq_R_sI, pq_R_sJ, pq_R_sR, pq_R_sA, pq_N_sI, pq_N_sJ, pq_N_sR, pq_N_sA, pq_S_sI, pq_S_sJ, pq_S_sR, pq_S_sA, pz_rf_s, pz_cut_i, pz_cut_r, pz_cut_n, pz_cut_f, pz_cut_u, pz_cut_o, true_and, and_true, true_or, or_true, Option.toList_some, Option.toList_none, List.cons_append, List.nil_append, Nat.add_left_cancel_iff, Nat.left_eq_add, Nat.add_eq_left, Nat.reduceEqDiff, if_true, if_false, ite_true, ite_false, false_and, and_false, false_or, or_false, reduceIte, reduceCtorEq, and_self, nI_1]
    refine K' _ _ ⟨rfl, HF_trans F F2, ?_⟩
    rw [ofF_s, ← List.append_assoc]
    exact W2
  · rintro ls h' ⟨rfl, F, W⟩
    rw [uX6_addText_2]
    simp only [enX6_addText, uX6_addText_0, uX6_addText_1, uX6_addText_3, uX6_addText_3o, uX6_addText_3f, uX6_addText_4, uX6_addText_7, uX6_addText_10, uX6_addText_10o, uX6_addText_10f, uX6_addText_11, uX6_addText_11o, uX6_addText_11f, uX6_addText_12, uX6_addText_13, uX6_addText_16, uX6_addText_19, uX6_addText_22, uX6_addText_25, pq_C_sI, pq_C_sJ, pq_C_sR, pq_C_sA, pq_L_sI, pq_L_sJ, pq_L_sR, pq_L_sA, pq_I_sI, pq_I_sJ, pq_I_sR, pq_I_sA, pq_J_sI, pq_J_sJ, pq_J_sR, pq_J_sA, pq_R_sI, pq_R_sJ, pq_R_sR, pq_R_sA, pq_N_sI, pq_N_sJ, pq_N_sR, pq_N_sA, pq_S_sI, pq_S_sJ, pq_S_sR, pq_S_sA, pz_rf_s, pz_cut_i, pz_cut_r, pz_cut_n, pz_cut_f, pz_cut_u, pz_cut_o, true_and, and_true, true_or, or_true, Option.toList_some, Option.toList_none, List.cons_append, List.nil_append, Nat.add_left_cancel_iff, Nat.left_eq_add, Nat.add_eq_left, Nat.reduceEqDiff, if_true, if_false, ite_true, ite_false, false_and, and_false, false_or, or_false, reduceIte, reduceCtorEq, and_self, hk]
    rw [if_pos (nI_le (Nat.le_refl _) (by omega))]
    exact K h' F W
theorem cpy_put {f g : Nat → Int32} {sp dp n : Nat} : va_cpy f g sp dp n = put g dp n (fun i => f (sp + i)) := by
  funext j
  by_cases q : dp ≤ j ∧ j < dp + n
  · rw [pk_cpy_in q.1 q.2]
    unfold put
    rw [if_pos q]
  · rw [pk_cpy_out (by omega), put_out (by omega)]
/-- a part of another row -/
theorem c_addPart {r2 a2 cap2 : Nat} {m : List Int8} {b n : Nat} (w : ROW h r a cap l) (w2 : ROW h r2 a2 cap2 m) (hr : r ≠ a2 ∧ r2 ≠ a) (hb : b + n ≤ m.length) (hl : l.length + n ≤ cap) (K : ∀ h', HF [r, a] h h' → ROW h' r a cap (l ++ ofF (fun i => m.getD (b + i) 0) n) → Q none h') : pz_M (d + 2) mX6_addPart [.ref r, .ref r2, .int (nI b), .int (nI n)] h Q := by
  have W := w
  obtain ⟨w1, w2', w3, w4, w5, w6, w7, w8, w9⟩ := w
  obtain ⟨v1, v2, v3, v4, v5, v6, v7, v8, v9⟩ := w2
  have e1 : ¬ r = a := w5
  simp only [enX6_addPart, uX6_addPart_0, uX6_addPart_1, uX6_addPart_4, uX6_addPart_4o, uX6_addPart_4f, uX6_addPart_5, uX6_addPart_6, uX6_addPart_9, uX6_addPart_12, uX6_addPart_13, uX6_addPart_13o, uX6_addPart_13f, uX6_addPart_14, uX6_addPart_17, uX6_addPart_18, uX6_addPart_19, uX6_addPart_22, uX6_addPart_22o, uX6_addPart_22f, uX6_addPart_23, uX6_addPart_26, uX6_addPart_27, uX6_addPart_27o, uX6_addPart_27f, uX6_addPart_28, uX6_addPart_31, uX6_addPart_31o, uX6_addPart_31f, uX6_addPart_32, uX6_addPart_35, uX6_addPart_36, uX6_addPart_39, uX6_addPart_39o, uX6_addPart_39f, uX6_addPart_40, uX6_addPart_41, uX6_addPart_44, uX6_addPart_45, uX6_addPart_46, uX6_addPart_49, w1, w2', w3, w4, w7, v1, v2, v3, v4, v7, pq_C_sI, pq_C_sJ, pq_C_sR, pq_C_sA, pq_L_sI, pq_L_sJ, pq_L_sR, pq_L_sA, pq_I_sI, pq_I_sJ, pq_I_sR, pq_I_sA, pq_J_sI, pq_J_sJ, pq_J_sR, pq_J_sA, pq_R_sI, pq_R_sJ, pq_R_sR, pq_R_sA, pq_N_sI, pq_N_sJ, pq_N_sR, pq_N_sA, pq_S_sI, pq_S_sJ, pq_S_sR, pq_S_sA, pz_rf_s, pz_cut_i, pz_cut_r, pz_cut_n, pz_cut_f, pz_cut_u, pz_cut_o, true_and, and_true, true_or, or_true, Option.toList_some, Option.toList_none, List.cons_append, List.nil_append, Nat.add_left_cancel_iff, Nat.left_eq_add, Nat.add_eq_left, Nat.reduceEqDiff, if_true, if_false, ite_true, ite_false, false_and, and_false, false_or, or_false, reduceIte, reduceCtorEq, and_self, c_fits W]
  rw [if_neg (nI_pos (by omega)), if_neg (nI_pos (by omega)), if_neg (nI_nlt (by omega) (by omega)), pk_sub (by omega)]
  simp only [show ¬ (1 : Int32) = 0 by decide, if_false]
  rw [if_neg (nI_nlt (by omega) (by omega))]
  simp (disch := omega) only [nI_clamp, true_and, nI_pos, not_false_eq_true, show b + n ≤ cap2 by omega, hl, v3, or_true, cpy_put, e1, if_false, w7, nI_add]
  have := ROW_w (m := l ++ ofF (fun i => m.getD (b + i) 0) n) (f := put (pz_I h a) l.length n (fun i => pz_I h a2 (b + i))) W (by rw [List.length_append, ofF_len]; omega) (SEG_app w9 (fun i hi => put_out (by omega)) (SEG_of (fun i hi => by
    rw [Nat.zero_add, put_in hi]
    have := v9 (b + i) (by omega)
    rwa [Nat.zero_add] at this)))
  rw [List.length_append, ofF_len] at this
  exact K _ this.2 this.1
theorem c_dropFirst {n : Nat} (w : ROW h r a cap l) (hn : n ≤ l.length) (K : ∀ h', HF [r, a] h h' → ROW h' r a cap (l.drop n) → Q none h') : pz_M (d + 1) mX6_dropFirst [.ref r, .int (nI n)] h Q := by
  have W := w
  obtain ⟨w1, w2', w3, w4, w5, w6, w7, w8, w9⟩ := w
  have e1 : ¬ r = a := w5
  simp only [enX6_dropFirst, uX6_dropFirst_0, uX6_dropFirst_1, uX6_dropFirst_4, uX6_dropFirst_5, uX6_dropFirst_5o, uX6_dropFirst_5f, uX6_dropFirst_6, uX6_dropFirst_9, uX6_dropFirst_12, uX6_dropFirst_12o, uX6_dropFirst_12f, uX6_dropFirst_13, uX6_dropFirst_16, uX6_dropFirst_17, uX6_dropFirst_17o, uX6_dropFirst_17f, uX6_dropFirst_18, uX6_dropFirst_21, uX6_dropFirst_22, uX6_dropFirst_22o, uX6_dropFirst_22f, uX6_dropFirst_23, uX6_dropFirst_26, uX6_dropFirst_27, uX6_dropFirst_28, uX6_dropFirst_31, uX6_dropFirst_31o, uX6_dropFirst_31f, uX6_dropFirst_32, uX6_dropFirst_33, uX6_dropFirst_36, uX6_dropFirst_37, uX6_dropFirst_38, uX6_dropFirst_41, w1, w2', w3, w4, w7, pq_C_sI, pq_C_sJ, pq_C_sR, pq_C_sA, pq_L_sI, pq_L_sJ, pq_L_sR, pq_L_sA, pq_I_sI, pq_I_sJ, pq_I_sR, pq_I_sA, pq_J_sI, pq_J_sJ, pq_J_sR, pq_J_sA, pq_R_sI, pq_R_sJ, pq_R_sR, pq_R_sA, pq_N_sI, pq_N_sJ, pq_N_sR, pq_N_sA, pq_S_sI, pq_S_sJ, pq_S_sR, pq_S_sA, pz_rf_s, pz_cut_i, pz_cut_r, pz_cut_n, pz_cut_f, pz_cut_u, pz_cut_o, true_and, and_true, true_or, or_true, Option.toList_some, Option.toList_none, List.cons_append, List.nil_append, Nat.add_left_cancel_iff, Nat.left_eq_add, Nat.add_eq_left, Nat.reduceEqDiff, if_true, if_false, ite_true, ite_false, false_and, and_false, false_or, or_false, reduceIte, reduceCtorEq, and_self]
  rw [if_neg (nI_pos (by omega)), if_neg (nI_nlt hn (by omega)), pk_sub hn]
  simp (disch := omega) only [nI_clamp, true_and, nI_pos, not_false_eq_true, show n + (l.length - n) ≤ cap by omega, show (0 : Int32).toNatClampNeg = 0 from rfl, show ¬ (0 : Int32) < 0 by decide, Nat.zero_add, show l.length - n ≤ cap by omega, w3, or_true, cpy_put, e1, if_false, w7, pk_sub hn]
  have := ROW_w (m := l.drop n) (f := put (pz_I h a) 0 (l.length - n) (fun i => pz_I h a (n + i))) W (by rw [List.length_drop]; omega) (fun i hi => by
    rw [List.length_drop] at hi
    rw [put_in hi, getD_drop]
    have := w9 (n + i) (by omega)
    rwa [Nat.zero_add] at this)
  rw [List.length_drop] at this
  exact K _ this.2 this.1
end
