/-! ===== the class: rows of bytes ===== -/
/-- only the numbers of these cells differ -/
def HF (cs : List Nat) (h h' : PzH) : Prop := pz_C h' = pz_C h ∧ pz_L h' = pz_L h ∧ pz_R h' = pz_R h ∧ pz_N h' = pz_N h ∧ pz_S h' = pz_S h ∧ pz_XL h' = pz_XL h ∧ pz_XS h' = pz_XS h ∧ (∀ b, b ∉ cs → pz_I h' b = pz_I h b) ∧ (∀ b, b ∉ cs → pz_J h' b = pz_J h b)
theorem HF_refl {cs : List Nat} {h : PzH} : HF cs h h := ⟨rfl, rfl, rfl, rfl, rfl, rfl, rfl, fun _ _ => rfl, fun _ _ => rfl⟩
theorem HF_trans {cs : List Nat} {h1 h2 h3 : PzH} (a : HF cs h1 h2) (b : HF cs h2 h3) : HF cs h1 h3 := by
  obtain ⟨a1, a2, a3, a4, a5, a6, a7, a8, a9⟩ := a
  obtain ⟨b1, b2, b3, b4, b5, b6, b7, b8, b9⟩ := b
  exact ⟨b1.trans a1, b2.trans a2, b3.trans a3, b4.trans a4, b5.trans a5, b6.trans a6, b7.trans a7, fun x hx => (b8 x hx).trans (a8 x hx), fun x hx => (b9 x hx).trans (a9 x hx)⟩
theorem HF_up {cs cs' : List Nat} {h1 h2 : PzH} (a : HF cs h1 h2) (s : ∀ b, b ∈ cs → b ∈ cs') : HF cs' h1 h2 := by
  obtain ⟨a1, a2, a3, a4, a5, a6, a7, a8, a9⟩ := a
  exact ⟨a1, a2, a3, a4, a5, a6, a7, fun x hx => a8 x (fun z => hx (s x z)), fun x hx => a9 x (fun z => hx (s x z))⟩
theorem HF_sI {cs : List Nat} {h : PzH} {a k : Nat} {v : Int32} (ha : a ∈ cs) : HF cs h (pz_sI h a k v) := ⟨rfl, rfl, rfl, rfl, rfl, rfl, rfl, fun b hb => by
  funext j
  rw [pq_I_sI, if_neg (show ¬ (b = a ∧ j = k) from fun z => hb (z.1 ▸ ha))], fun _ _ => rfl⟩
theorem HF_sA {cs : List Nat} {h : PzH} {a : Nat} {f : Nat → Int32} (ha : a ∈ cs) : HF cs h (pz_sA h a f) := ⟨rfl, rfl, rfl, rfl, rfl, rfl, rfl, fun b hb => by
  rw [pq_I_sA, if_neg (show ¬ b = a from fun z => hb (z ▸ ha))], fun _ _ => rfl⟩
theorem HF_sJ {cs : List Nat} {h : PzH} {a k : Nat} {v : Int64} (ha : a ∈ cs) : HF cs h (pz_sJ h a k v) := ⟨rfl, rfl, rfl, rfl, rfl, rfl, rfl, fun _ _ => rfl, fun b hb => by
  funext j
  rw [pq_J_sJ, if_neg (show ¬ (b = a ∧ j = k) from fun z => hb (z.1 ▸ ha))]⟩
/-- a Row, its array, its limit, its bytes -/
def ROW (h : PzH) (r a cap : Nat) (l : List Int8) : Prop := pz_C h r = 6 ∧ pz_R h r 0 = some a ∧ pz_C h a = 101 ∧ pz_L h a = cap ∧ r ≠ a ∧ cap ≤ 6000 ∧ pz_I h r 1 = nI l.length ∧ l.length ≤ cap ∧ SEG (pz_I h a) 0 l
theorem ROW_fr {cs : List Nat} {h h' : PzH} {r a cap : Nat} {l : List Int8} (w : ROW h r a cap l) (f : HF cs h h') (hr : r ∉ cs) (ha : a ∉ cs) : ROW h' r a cap l := by
  obtain ⟨w1, w2, w3, w4, w5, w6, w7, w8, w9⟩ := w
  obtain ⟨a1, a2, a3, _, _, _, _, a8, _⟩ := f
  refine ⟨by rw [a1]; exact w1, by rw [a3]; exact w2, by rw [a1]; exact w3, by rw [a2]; exact w4, w5, w6, by rw [a8 r hr]; exact w7, w8, by rw [a8 a ha]; exact w9⟩
theorem ub_l (b : Int8) : b.toInt32.toInt64 &&& 255 = lN (ub b) := by
  have k : ∀ c, c < 256 → ((nI c).toInt8.toInt32.toInt64 &&& 255) = lN c := by decide +kernel
  have := k (ub b) (ub_lt b)
  rwa [ub_8] at this
theorem i8_ext {x y : Int32} (h : ∀ i, i < 8 → bt x i = bt y i) : x.toInt8 = y.toInt8 := by
  apply Int8.toBitVec_inj.mp
  rw [Int32.toBitVec_toInt8, Int32.toBitVec_toInt8]
  apply BitVec.eq_of_getLsbD_eq
  intro i hi
  have := h i hi
  unfold bt at this
  rw [BitVec.getLsbD_signExtend, BitVec.getLsbD_signExtend]
  simp only [hi, decide_true, Bool.true_and, show i < 32 by omega, if_true]
  exact this
theorem sh_u8 (n : Nat) (hn : n ≤ 24) (v : Int32) : ((v.toUInt32 >>> ((nI n).toUInt32 &&& Int32.toUInt32 31)).toInt32).toInt8 = (v >>> (nI n &&& 31)).toInt8 := by
  refine i8_ext (fun i hi => ?_)
  rw [b_ushr n (by omega), b_sshr n (by omega) v (by omega), if_pos (by omega)]
section
variable {d : Nat} {h : PzH} {Q : Option Value → PzH → Prop} {r a cap : Nat} {l : List Int8}
theorem c_size (w : ROW h r a cap l) : pz_M (d + 1) mX6_size [.ref r] h Q ↔ Q (some (.int (nI l.length))) h := by
  obtain ⟨w1, w2, w3, w4, w5, w6, w7, w8, w9⟩ := w
  simp only [enX6_size, uX6_size_0, uX6_size_0o, uX6_size_0f, uX6_size_1, uX6_size_4, w1, true_and, w7]
/-- a byte, or -1 -/
def atL (l : List Int8) (i : Int32) : Int32 := match vI i l.length with
  | some j => nI (ub (l.getD j 0))
  | none => -1
theorem c_at {i : Int32} (w : ROW h r a cap l) : pz_M (d + 1) mX6_at [.ref r, .int i] h Q ↔ Q (some (.int (atL l i))) h := by
  obtain ⟨w1, w2, w3, w4, w5, w6, w7, w8, w9⟩ := w
  simp only [enX6_at, uX6_at_0, uX6_at_1, uX6_at_4, uX6_at_5, uX6_at_5o, uX6_at_5f, uX6_at_6, uX6_at_9, uX6_at_12, uX6_at_13, uX6_at_16, uX6_at_16o, uX6_at_16f, uX6_at_17, uX6_at_20, uX6_at_21, uX6_at_22, uX6_at_25, uX6_at_26, w1, w2, w3, w4, w7, pq_C_sI, pq_C_sJ, pq_C_sR, pq_C_sA, pq_L_sI, pq_L_sJ, pq_L_sR, pq_L_sA, pq_I_sI, pq_I_sJ, pq_I_sR, pq_I_sA, pq_J_sI, pq_J_sJ, pq_J_sR, pq_J_sA, pq_R_sI, pq_R_sJ, pq_R_sR, pq_R_sA, pq_N_sI, pq_N_sJ, pq_N_sR, pq_N_sA, pq_S_sI, pq_S_sJ, pq_S_sR, pq_S_sA, pz_rf_s, pz_cut_i, pz_cut_r, pz_cut_n, pz_cut_f, pz_cut_u, pz_cut_o, true_and, and_true, true_or, or_true, Option.toList_some, Option.toList_none, List.cons_append, List.nil_append, Nat.add_left_cancel_iff, Nat.left_eq_add, Nat.add_eq_left, Nat.reduceEqDiff, if_true, if_false, ite_true, ite_false, false_and, and_false, false_or, or_false, reduceIte, reduceCtorEq, and_self]
  unfold atL vI
  by_cases h0 : i < 0
  · rw [if_pos h0, if_pos h0]
  · rw [if_neg h0, if_neg h0]
    by_cases h1 : i < nI l.length
    · rw [if_pos h1, if_pos h1]
      obtain ⟨j, hj, rfl⟩ := nI_of h0
      have hj2 := (nI_ltI hj (by omega)).mp h1
      have e := w9 j hj2
      rw [Nat.zero_add] at e
      simp (disch := omega) only [nI_clamp, pz_in_nI, true_and, e, ub_and]
    · rw [if_neg h1, if_neg h1]
theorem c_fits {n : Int32} (w : ROW h r a cap l) : pz_M (d + 1) mX6_fits [.ref r, .int n] h Q ↔ Q (some (.int (if n < 0 then 0 else if nI (cap - l.length) < n then 0 else 1))) h := by
  obtain ⟨w1, w2, w3, w4, w5, w6, w7, w8, w9⟩ := w
  simp only [enX6_fits, uX6_fits_0, uX6_fits_1, uX6_fits_4, uX6_fits_5, uX6_fits_5o, uX6_fits_5f, uX6_fits_6, uX6_fits_9, uX6_fits_10, uX6_fits_10o, uX6_fits_10f, uX6_fits_11, uX6_fits_14, uX6_fits_15, uX6_fits_18, uX6_fits_19, uX6_fits_22, uX6_fits_23, w1, w2, w3, w4, w7, pq_C_sI, pq_C_sJ, pq_C_sR, pq_C_sA, pq_L_sI, pq_L_sJ, pq_L_sR, pq_L_sA, pq_I_sI, pq_I_sJ, pq_I_sR, pq_I_sA, pq_J_sI, pq_J_sJ, pq_J_sR, pq_J_sA, pq_R_sI, pq_R_sJ, pq_R_sR, pq_R_sA, pq_N_sI, pq_N_sJ, pq_N_sR, pq_N_sA, pq_S_sI, pq_S_sJ, pq_S_sR, pq_S_sA, pz_rf_s, pz_cut_i, pz_cut_r, pz_cut_n, pz_cut_f, pz_cut_u, pz_cut_o, true_and, and_true, true_or, or_true, Option.toList_some, Option.toList_none, List.cons_append, List.nil_append, Nat.add_left_cancel_iff, Nat.left_eq_add, Nat.add_eq_left, Nat.reduceEqDiff, if_true, if_false, ite_true, ite_false, false_and, and_false, false_or, or_false, reduceIte, reduceCtorEq, and_self]
  rw [show Int32.ofNat cap = nI cap from rfl, pk_sub w8]
  repeat' split
  all_goals first | rfl | contradiction | simp_all
theorem c_cut {n : Nat} (w : ROW h r a cap l) (hn : n ≤ l.length) (K : ∀ h', HF [r, a] h h' → ROW h' r a cap (l.take n) → Q none h') : pz_M (d + 1) mX6_cut [.ref r, .int (nI n)] h Q := by
  have W := w
  obtain ⟨w1, w2, w3, w4, w5, w6, w7, w8, w9⟩ := w
  simp only [enX6_cut, uX6_cut_0, uX6_cut_1, uX6_cut_4, uX6_cut_5, uX6_cut_5o, uX6_cut_5f, uX6_cut_6, uX6_cut_9, uX6_cut_12, uX6_cut_12o, uX6_cut_12f, uX6_cut_13, uX6_cut_14, uX6_cut_17, w1, w7, pq_C_sI, pq_C_sJ, pq_C_sR, pq_C_sA, pq_L_sI, pq_L_sJ, pq_L_sR, pq_L_sA, pq_I_sI, pq_I_sJ, pq_I_sR, pq_I_sA, pq_J_sI, pq_J_sJ, pq_J_sR, pq_J_sA, pq_R_sI, pq_R_sJ, pq_R_sR, pq_R_sA, pq_N_sI, pq_N_sJ, pq_N_sR, pq_N_sA, pq_S_sI, pq_S_sJ, pq_S_sR, pq_S_sA, pz_rf_s, pz_cut_i, pz_cut_r, pz_cut_n, pz_cut_f, pz_cut_u, pz_cut_o, true_and, and_true, true_or, or_true, Option.toList_some, Option.toList_none, List.cons_append, List.nil_append, Nat.add_left_cancel_iff, Nat.left_eq_add, Nat.add_eq_left, Nat.reduceEqDiff, if_true, if_false, ite_true, ite_false, false_and, and_false, false_or, or_false, reduceIte, reduceCtorEq, and_self]
  rw [if_neg (nI_pos (by omega)), if_neg (nI_nlt hn (by omega))]
  refine K _ (HF_sI (by simp)) ⟨w1, w2, w3, w4, w5, w6, ?_, by rw [List.length_take]; omega, ?_⟩
  · rw [pq_I_sI, if_pos ⟨rfl, rfl⟩, List.length_take, Nat.min_eq_left hn]
  · have : pz_I (pz_sI h r 1 (nI n)) a = pz_I h a := by
      funext j
      rw [pq_I_sI, if_neg (fun z => w5 z.1.symm)]
    rw [this]
    exact SEG_take w9
theorem c_cut0 (w : ROW h r a cap l) (K : ∀ h', HF [r, a] h h' → ROW h' r a cap [] → Q none h') : pz_M (d + 1) mX6_cut [.ref r, .int 0] h Q := c_cut (n := 0) w (Nat.zero_le _) K
theorem c_change {i v : Int32} (w : ROW h r a cap l) (K : ∀ h', HF [a] h h' → ROW h' r a cap (match vI i l.length with | some j => l.set j v.toInt8 | none => l) → Q (some (.int (if (vI i l.length).isSome then 1 else 0))) h') : pz_M (d + 1) mX6_change [.ref r, .int i, .int v] h Q := by
  have W := w
  obtain ⟨w1, w2, w3, w4, w5, w6, w7, w8, w9⟩ := w
  simp only [enX6_change, uX6_change_0, uX6_change_1, uX6_change_4, uX6_change_5, uX6_change_5o, uX6_change_5f, uX6_change_6, uX6_change_9, uX6_change_12, uX6_change_13, uX6_change_14, uX6_change_14o, uX6_change_14f, uX6_change_15, uX6_change_18, uX6_change_19, uX6_change_20, uX6_change_21, uX6_change_22, uX6_change_23, w1, w2, w3, w4, w7, pq_C_sI, pq_C_sJ, pq_C_sR, pq_C_sA, pq_L_sI, pq_L_sJ, pq_L_sR, pq_L_sA, pq_I_sI, pq_I_sJ, pq_I_sR, pq_I_sA, pq_J_sI, pq_J_sJ, pq_J_sR, pq_J_sA, pq_R_sI, pq_R_sJ, pq_R_sR, pq_R_sA, pq_N_sI, pq_N_sJ, pq_N_sR, pq_N_sA, pq_S_sI, pq_S_sJ, pq_S_sR, pq_S_sA, pz_rf_s, pz_cut_i, pz_cut_r, pz_cut_n, pz_cut_f, pz_cut_u, pz_cut_o, true_and, and_true, true_or, or_true, Option.toList_some, Option.toList_none, List.cons_append, List.nil_append, Nat.add_left_cancel_iff, Nat.left_eq_add, Nat.add_eq_left, Nat.reduceEqDiff, if_true, if_false, ite_true, ite_false, false_and, and_false, false_or, or_false, reduceIte, reduceCtorEq, and_self]
  unfold vI at K
  by_cases h0 : i < 0
  · rw [if_pos h0] at K ⊢
    exact K h HF_refl W
  · rw [if_neg h0] at K ⊢
    by_cases h1 : i < nI l.length
    · rw [if_pos h1] at K ⊢
      obtain ⟨j, hj, rfl⟩ := nI_of h0
      have hj2 := (nI_ltI hj (by omega)).mp h1
      rw [nI_clamp hj] at K ⊢
      simp (disch := omega) only [pz_in_nI, true_and, pk_vb]
      refine K _ (HF_sI (by simp)) ⟨w1, w2, w3, w4, w5, w6, ?_, ?_, ?_⟩
      · rw [pq_I_sI, if_neg (fun z => w5 z.1)]
        simpa using w7
      · simpa using w8
      · have e : pz_I (pz_sI h a j v.toInt8.toInt32) a = upd (pz_I h a) j v.toInt8.toInt32 := by
          funext k
          rw [pq_I_sI]
          unfold upd
          by_cases z : k = j
          · rw [if_pos ⟨rfl, z⟩, if_pos z]
          · rw [if_neg (fun y => z y.2), if_neg z]
        rw [e]
        have := SEG_set (k := j) (b := v.toInt8) w9
        rwa [Nat.zero_add] at this
    · rw [if_neg h1] at K ⊢
      exact K h HF_refl W
theorem ROW_w {f : Nat → Int32} {m : List Int8} (w : ROW h r a cap l) (hm : m.length ≤ cap) (e : SEG f 0 m) : ROW (pz_sI (pz_sA h a f) r 1 (nI m.length)) r a cap m ∧ HF [r, a] h (pz_sI (pz_sA h a f) r 1 (nI m.length)) := by
  obtain ⟨w1, w2, w3, w4, w5, w6, w7, w8, w9⟩ := w
  refine ⟨⟨w1, w2, w3, w4, w5, w6, ?_, hm, ?_⟩, HF_trans (HF_sA (by simp)) (HF_sI (by simp))⟩
  · rw [pq_I_sI, if_pos ⟨rfl, rfl⟩]
  · have : pz_I (pz_sI (pz_sA h a f) r 1 (nI m.length)) a = f := by
      funext j
      rw [pq_I_sI, if_neg (fun z => w5 z.1.symm), pq_I_sA, if_pos rfl]
    rw [this]
    exact e
theorem pq_sI_A {k : Nat} {v : Int32} : pz_sI h a k v = pz_sA h a (upd (pz_I h a) k v) := by
  have := pq_sI_sA (h := h) (a := a) (k := k) (f := pz_I h a) (v := v)
  rw [pq_sA_eta] at this
  exact this
theorem c_add {v : Int32} (w : ROW h r a cap l) (hl : l.length < cap) (K : ∀ h', HF [r, a] h h' → ROW h' r a cap (l ++ [v.toInt8]) → Q none h') : pz_M (d + 2) mX6_add [.ref r, .int v] h Q := by
  have W := w
  obtain ⟨w1, w2, w3, w4, w5, w6, w7, w8, w9⟩ := w
  simp only [enX6_add, uX6_add_0, uX6_add_0o, uX6_add_0f, uX6_add_1, uX6_add_2, uX6_add_5, uX6_add_8, uX6_add_8o, uX6_add_8f, uX6_add_9, uX6_add_12, uX6_add_12o, uX6_add_12f, uX6_add_13, uX6_add_16, uX6_add_17, uX6_add_18, uX6_add_19, uX6_add_19o, uX6_add_19f, uX6_add_20, uX6_add_21, uX6_add_24, uX6_add_25, uX6_add_26, uX6_add_29, w1, w2, w3, w4, w7, pq_C_sI, pq_C_sJ, pq_C_sR, pq_C_sA, pq_L_sI, pq_L_sJ, pq_L_sR, pq_L_sA, pq_I_sI, pq_I_sJ, pq_I_sR, pq_I_sA, pq_J_sI, pq_J_sJ, pq_J_sR, pq_J_sA, pq_R_sI, pq_R_sJ, pq_R_sR, pq_R_sA, pq_N_sI, pq_N_sJ, pq_N_sR, pq_N_sA, pq_S_sI, pq_S_sJ, pq_S_sR, pq_S_sA, pz_rf_s, pz_cut_i, pz_cut_r, pz_cut_n, pz_cut_f, pz_cut_u, pz_cut_o, true_and, and_true, true_or, or_true, Option.toList_some, Option.toList_none, List.cons_append, List.nil_append, Nat.add_left_cancel_iff, Nat.left_eq_add, Nat.add_eq_left, Nat.reduceEqDiff, if_true, if_false, ite_true, ite_false, false_and, and_false, false_or, or_false, reduceIte, reduceCtorEq, and_self, c_fits W]
  rw [if_neg (show ¬ (1 : Int32) < 0 by decide), if_neg (show ¬ nI (cap - l.length) < 1 from nI_nlt (b := 1) (by omega) (by omega))]
  simp (disch := omega) only [show ¬ (1 : Int32) = 0 by decide, if_false, nI_clamp, pz_in_nI, true_and, pk_vb, nI_1, pq_sI_A (a := a)]
  have e1 : ¬ r = a := w5
  simp only [w7, pq_I_sA, e1, false_and, if_false, nI_1]
  have := ROW_w (m := l ++ [v.toInt8]) (f := upd (pz_I h a) l.length v.toInt8.toInt32) W (by rw [List.length_append]; simp; omega) (SEG_app w9 (fun i hi => by rw [Nat.zero_add]; exact pk_un (by omega)) (fun i hi => by
    have : i = 0 := by simp at hi; omega
    subst this
    rw [Nat.zero_add, Nat.add_zero, pk_us]
    rfl))
  rw [List.length_append] at this
  exact K _ this.2 this.1
theorem c_add0 {v : Int32} (w : ROW h r a cap l) (hl : l.length = cap) : pz_M (d + 2) mX6_add [.ref r, .int v] h Q ↔ Q none h := by
  have W := w
  obtain ⟨w1, w2, w3, w4, w5, w6, w7, w8, w9⟩ := w
  simp only [enX6_add, uX6_add_0, uX6_add_0o, uX6_add_0f, uX6_add_1, uX6_add_2, uX6_add_5, uX6_add_8, uX6_add_8o, uX6_add_8f, uX6_add_9, uX6_add_12, uX6_add_12o, uX6_add_12f, uX6_add_13, uX6_add_16, uX6_add_17, uX6_add_18, uX6_add_19, uX6_add_19o, uX6_add_19f, uX6_add_20, uX6_add_21, uX6_add_24, uX6_add_25, uX6_add_26, uX6_add_29, w1, w2, w3, w4, w7, pq_C_sI, pq_C_sJ, pq_C_sR, pq_C_sA, pq_L_sI, pq_L_sJ, pq_L_sR, pq_L_sA, pq_I_sI, pq_I_sJ, pq_I_sR, pq_I_sA, pq_J_sI, pq_J_sJ, pq_J_sR, pq_J_sA, pq_R_sI, pq_R_sJ, pq_R_sR, pq_R_sA, pq_N_sI, pq_N_sJ, pq_N_sR, pq_N_sA, pq_S_sI, pq_S_sJ, pq_S_sR, pq_S_sA, pz_rf_s, pz_cut_i, pz_cut_r, pz_cut_n, pz_cut_f, pz_cut_u, pz_cut_o, true_and, and_true, true_or, or_true, Option.toList_some, Option.toList_none, List.cons_append, List.nil_append, Nat.add_left_cancel_iff, Nat.left_eq_add, Nat.add_eq_left, Nat.reduceEqDiff, if_true, if_false, ite_true, ite_false, false_and, and_false, false_or, or_false, reduceIte, reduceCtorEq, and_self, c_fits W]
  rw [if_neg (show ¬ (1 : Int32) < 0 by decide), if_pos (show nI (cap - l.length) < 1 from nI_lt (b := 1) (by omega) (by decide))]
  simp
end
