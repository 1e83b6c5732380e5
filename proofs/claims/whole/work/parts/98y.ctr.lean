/-! ===== constructors ===== -/
section
variable {h : PzH} {t l n b j : Nat}
theorem pq_C_new : pz_C (pz_new h t l n) b = if b = pz_N h then t else pz_C h b := rfl
theorem pq_L_new : pz_L (pz_new h t l n) b = if b = pz_N h then l else pz_L h b := rfl
theorem pq_I_new : pz_I (pz_new h t l n) b = if b = pz_N h then (fun _ => 0) else pz_I h b := rfl
theorem pq_J_new : pz_J (pz_new h t l n) b = if b = pz_N h then (fun _ => 0) else pz_J h b := rfl
theorem pq_R_new : pz_R (pz_new h t l n) b = if b = pz_N h then (fun _ => none) else pz_R h b := rfl
theorem pq_N_new : pz_N (pz_new h t l n) = pz_N h + 1 := rfl
theorem pq_S_new : pz_S (pz_new h t l n) = pz_S h + n := rfl
end
/-- the cells below are the same -/
def CX (y : Nat) (h h' : PzH) : Prop := (∀ b, b < y → pz_C h' b = pz_C h b ∧ pz_L h' b = pz_L h b ∧ pz_I h' b = pz_I h b ∧ pz_J h' b = pz_J h b ∧ pz_R h' b = pz_R h b) ∧ pz_XL h' = pz_XL h ∧ pz_XS h' = pz_XS h
section
variable {h h1 h2 : PzH} {y : Nat}
theorem CX_refl : CX y h h := ⟨fun _ _ => ⟨rfl, rfl, rfl, rfl, rfl⟩, rfl, rfl⟩
theorem CX_trans (a : CX y h h1) (b : CX y h1 h2) : CX y h h2 := ⟨fun x hx => by
  obtain ⟨p1, p2, p3, p4, p5⟩ := a.1 x hx
  obtain ⟨q1, q2, q3, q4, q5⟩ := b.1 x hx
  exact ⟨q1.trans p1, q2.trans p2, q3.trans p3, q4.trans p4, q5.trans p5⟩, b.2.1.trans a.2.1, b.2.2.trans a.2.2⟩
theorem CX_le {z : Nat} (a : CX y h h1) (hz : z ≤ y) : CX z h h1 := ⟨fun x hx => a.1 x (by omega), a.2⟩
theorem CX_new {t l n : Nat} (hN : y ≤ pz_N h) : CX y h (pz_new h t l n) := by
  refine ⟨fun b hb => ?_, rfl, rfl⟩
  have ne : ¬ b = pz_N h := by omega
  exact ⟨if_neg ne, if_neg ne, if_neg ne, if_neg ne, if_neg ne⟩
theorem CX_sR {a k : Nat} {v : Option Nat} (ha : y ≤ a) : CX y h (pz_sR h a k v) := by
  refine ⟨fun b hb => ⟨rfl, rfl, rfl, rfl, ?_⟩, rfl, rfl⟩
  funext j
  rw [pq_R_sR, if_neg (fun z => by omega)]
theorem CX_sI {a k : Nat} {v : Int32} (ha : y ≤ a) : CX y h (pz_sI h a k v) := by
  refine ⟨fun b hb => ⟨rfl, rfl, ?_, rfl, rfl⟩, rfl, rfl⟩
  funext j
  rw [pq_I_sI, if_neg (fun z => by omega)]
theorem CX_sJ {a k : Nat} {v : Int64} (ha : y ≤ a) : CX y h (pz_sJ h a k v) := by
  refine ⟨fun b hb => ⟨rfl, rfl, rfl, ?_, rfl⟩, rfl, rfl⟩
  funext j
  rw [pq_J_sJ, if_neg (fun z => by omega)]
theorem ROW_CX {r a cap : Nat} {l : List Int8} (w : ROW h r a cap l) (f : CX y h h1) (hr : r < y) (ha : a < y) : ROW h1 r a cap l := by
  obtain ⟨w1, w2, w3, w4, w5, w6, w7, w8, w9⟩ := w
  obtain ⟨p1, p2, p3, p4, p5⟩ := f.1 r hr
  obtain ⟨q1, q2, q3, q4, q5⟩ := f.1 a ha
  exact ⟨p1.trans w1, by rw [p5]; exact w2, q1.trans w3, q2.trans w4, w5, w6, by rw [p3]; exact w7, w8, by rw [q3]; exact w9⟩
theorem ROW_sR {r a cap x k : Nat} {v : Option Nat} {l : List Int8} (w : ROW h r a cap l) (hx : r ≠ x) : ROW (pz_sR h x k v) r a cap l := by
  obtain ⟨w1, w2, w3, w4, w5, w6, w7, w8, w9⟩ := w
  exact ⟨w1, by rw [pq_R_sR, if_neg (fun z => hx z.1)]; exact w2, w3, w4, w5, w6, w7, w8, w9⟩
theorem ROW_sI {r a cap x k : Nat} {v : Int32} {l : List Int8} (w : ROW h r a cap l) (hx : r ≠ x) (ha : a ≠ x) : ROW (pz_sI h x k v) r a cap l := by
  obtain ⟨w1, w2, w3, w4, w5, w6, w7, w8, w9⟩ := w
  exact ⟨w1, w2, w3, w4, w5, w6, by rw [pq_I_sI, if_neg (fun z => hx z.1)]; exact w7, w8, fun i hi => by rw [pq_I_sI, if_neg (fun z => ha z.1)]; exact w9 i hi⟩
theorem ROW_new {r a cap t l n : Nat} {m : List Int8} (w : ROW h r a cap m) (hr : r < pz_N h) (ha : a < pz_N h) : ROW (pz_new h t l n) r a cap m := ROW_CX w (CX_new (Nat.le_refl _)) hr ha
theorem ROW_sJ {r a cap x k : Nat} {v : Int64} {l : List Int8} (w : ROW h r a cap l) : ROW (pz_sJ h x k v) r a cap l := w
end
section
variable {d : Nat} {h h1 : PzH} {Q : Option Value → PzH → Prop} {x cap : Nat}
/-- a row -/
theorem i_row {v : Int32} (ev : v = nI cap) (hC : pz_C h x = 6) (hN : pz_N h = x + 1) (hc : cap ≤ 6000) (K : ∀ h', CX x h h' → pz_N h' = x + 2 → pz_S h' = pz_S h + cap → ROW h' x (x + 1) cap [] → Q none h') : pz_M (d + 1) mX6_init [.ref x, .int v] h Q := by
  subst ev
  have em : pz_max 0 (nI cap) = nI cap := by
    unfold pz_max
    split
    · rfl
    · rename_i z
      have : ¬ nI cap < 0 := by
        intro y
        exact absurd y (by rw [show (0 : Int32) = nI 0 from rfl]; exact nI_nlt (by omega) (by omega))
      first
        | exact absurd z (by simpa using this)
        | (have e : nI cap = 0 := by
            by_cases c0 : cap = 0
            · subst c0; rfl
            · exact absurd (show (0 : Int32) < nI cap from nI_lt (a := 0) (by omega) (by omega)) z
           exact e.symm)
  simp only [enX6_init, uX6_init_0, uX6_init_0o, uX6_init_0f, uX6_init_1, uX6_init_4, uX6_init_4o, uX6_init_4f, uX6_init_5, uX6_init_6, uX6_init_9, uX6_init_9o, uX6_init_9f, uX6_init_10, uX6_init_11, uX6_init_12, uX6_init_15, uX6_init_17, uX6_init_17o, uX6_init_20, pq_C_sI, pq_C_sJ, pq_C_sR, pq_C_sA, pq_L_sI, pq_L_sJ, pq_L_sR, pq_L_sA, pq_I_sI, pq_I_sJ, pq_I_sR, pq_I_sA, pq_J_sI, pq_J_sJ, pq_J_sR, pq_J_sA, pq_R_sI, pq_R_sJ, pq_R_sR, pq_R_sA, pq_N_sI, pq_N_sJ, pq_N_sR, pq_N_sA, pq_S_sI, pq_S_sJ, pq_S_sR, pq_S_sA, pz_rf_s, pz_cut_i, pz_cut_r, pz_cut_n, pz_cut_f, pz_cut_u, pz_cut_o, true_and, and_true, true_or, or_true, Option.toList_some, Option.toList_none, List.cons_append, List.nil_append, Nat.add_left_cancel_iff, Nat.left_eq_add, Nat.add_eq_left, Nat.reduceEqDiff, if_true, if_false, ite_true, ite_false, false_and, and_false, false_or, or_false, reduceIte, reduceCtorEq, and_self, z_4, z_5, z_7, z_8, z_10, z_16, z_20, z_64, not_false_eq_true, hC, em, nI_clamp (show cap < 2 ^ 31 by omega), pq_C_new, pq_N_new, hN]
  refine ⟨⟨fun y => absurd y (by rw [show (0 : Int32) = nI 0 from rfl]; exact nI_nlt (by omega) (by omega)), by omega, by decide⟩, K _ (CX_trans (CX_sI (Nat.le_refl _)) (CX_trans (CX_new (by show x ≤ pz_N h; omega)) (CX_sR (Nat.le_refl _)))) ?_ rfl ?_⟩
  · show pz_N h + 1 = _
    rw [hN]
  · have ne : ¬ x = x + 1 := by omega
    refine ⟨?_, ?_, ?_, ?_, by omega, hc, ?_, by simp, fun i hi => absurd hi (by simp)⟩
    · simp only [pq_C_sR, pq_C_new, pq_C_sI, pq_N_sI, hN, ne, if_false]
      exact hC
    · rw [pq_R_sR, if_pos ⟨rfl, rfl⟩]
    · simp only [pq_C_sR, pq_C_new, pq_N_sI, hN, if_true]
    · simp only [pq_L_sR, pq_L_new, pq_N_sI, hN, if_true]
    · simp only [pq_I_sR, pq_I_new, pq_N_sI, hN, ne, if_false, pq_I_sI, and_self, if_true]
      rfl
/-- what is to be found of a new object's cell, once a child is laid -/
theorem new_C {t l n y : Nat} (hN : pz_N h = y) : pz_C (pz_new h t l n) y = t := by rw [pq_C_new, if_pos hN.symm]
/-- a new row under a parent: the cell, then its constructor -/
theorem n_row {v : Int32} (ev : v = nI cap) (hN : pz_N h = x) (hc : cap ≤ 6000) (K : ∀ h', CX x h h' → pz_N h' = x + 2 → pz_S h' = pz_S h + 2 + cap → ROW h' x (x + 1) cap [] → Q none h') : pz_M (d + 1) mX6_init [.ref x, .int v] (pz_new h 6 0 2) Q :=
  i_row ev (new_C hN) (by rw [pq_N_new, hN]) hc (fun h' F n s w => K h' (CX_trans (CX_new (by omega)) F) n s w)
theorem kz_4 : Int32.toNatClampNeg 4 = 4 := by decide
theorem kz_5 : Int32.toNatClampNeg 5 = 5 := by decide
theorem kz_8 : Int32.toNatClampNeg 8 = 8 := by decide
theorem kz_16 : Int32.toNatClampNeg 16 = 16 := by decide
theorem kz_20 : Int32.toNatClampNeg 20 = 20 := by decide
theorem kz_25 : Int32.toNatClampNeg 25 = 25 := by decide
theorem kz_64 : Int32.toNatClampNeg 64 = 64 := by decide
theorem kz_80 : Int32.toNatClampNeg 80 = 80 := by decide
theorem kz_6000 : Int32.toNatClampNeg 6000 = 6000 := by decide
/-- SHA-1 -/
theorem i_sha (hC : pz_C h 7 = 7) (hN : pz_N h = 8) (K : ∀ h', CX 7 h h' → pz_N h' = 10 → pz_S h' = pz_S h + 85 → SH h' → Q none h') : pz_M (d + 1) mX7_init [.ref 7] h Q := by
  simp only [enX7_init, uX7_init_0, uX7_init_0o, uX7_init_0f, uX7_init_1, uX7_init_4, uX7_init_4o, uX7_init_4f, uX7_init_5, uX7_init_7, uX7_init_9, uX7_init_9o, uX7_init_12, uX7_init_12o, uX7_init_12f, uX7_init_13, uX7_init_14, uX7_init_16, uX7_init_16o, uX7_init_19, pq_C_sI, pq_C_sJ, pq_C_sR, pq_C_sA, pq_L_sI, pq_L_sJ, pq_L_sR, pq_L_sA, pq_I_sI, pq_I_sJ, pq_I_sR, pq_I_sA, pq_J_sI, pq_J_sJ, pq_J_sR, pq_J_sA, pq_R_sI, pq_R_sJ, pq_R_sR, pq_R_sA, pq_N_sI, pq_N_sJ, pq_N_sR, pq_N_sA, pq_S_sI, pq_S_sJ, pq_S_sR, pq_S_sA, pz_rf_s, pz_cut_i, pz_cut_r, pz_cut_n, pz_cut_f, pz_cut_u, pz_cut_o, true_and, and_true, true_or, or_true, Option.toList_some, Option.toList_none, List.cons_append, List.nil_append, Nat.add_left_cancel_iff, Nat.left_eq_add, Nat.add_eq_left, Nat.reduceEqDiff, if_true, if_false, ite_true, ite_false, false_and, and_false, false_or, or_false, reduceIte, reduceCtorEq, and_self, z_4, z_5, z_7, z_8, z_10, z_16, z_20, z_64, not_false_eq_true, hC, pq_C_new, pq_L_new, pq_I_new, pq_J_new, pq_R_new, pq_N_new, pq_S_new, Nat.add_assoc, Nat.reduceAdd, kz_4, kz_5, kz_8, kz_16, kz_20, kz_25, kz_64, kz_80, kz_6000, hN]
  refine ⟨by decide, by decide, K _ (by repeat (first | exact CX_refl | refine CX_trans ?_ (CX_sR (by omega)) | refine CX_trans ?_ (CX_sI (by omega)) | refine CX_trans ?_ (CX_sJ (by omega)) | refine CX_trans ?_ (CX_new (by first | omega | (simp only [pq_N_sR, pq_N_sI, pq_N_sJ, pq_N_new]; omega))))) ?_ ?_ ?_⟩
  · simp only [pq_C_sI, pq_C_sJ, pq_C_sR, pq_C_sA, pq_L_sI, pq_L_sJ, pq_L_sR, pq_L_sA, pq_I_sI, pq_I_sJ, pq_I_sR, pq_I_sA, pq_J_sI, pq_J_sJ, pq_J_sR, pq_J_sA, pq_R_sI, pq_R_sJ, pq_R_sR, pq_R_sA, pq_N_sI, pq_N_sJ, pq_N_sR, pq_N_sA, pq_S_sI, pq_S_sJ, pq_S_sR, pq_S_sA, pz_rf_s, pz_cut_i, pz_cut_r, pz_cut_n, pz_cut_f, pz_cut_u, pz_cut_o, true_and, and_true, true_or, or_true, Option.toList_some, Option.toList_none, List.cons_append, List.nil_append, Nat.add_left_cancel_iff, Nat.left_eq_add, Nat.add_eq_left, Nat.reduceEqDiff, if_true, if_false, ite_true, ite_false, false_and, and_false, false_or, or_false, reduceIte, reduceCtorEq, and_self, pq_C_new, pq_L_new, pq_I_new, pq_J_new, pq_R_new, pq_N_new, pq_S_new, Nat.add_assoc, Nat.reduceAdd, kz_4, kz_5, kz_8, kz_16, kz_20, kz_25, kz_64, kz_80, kz_6000, hN]
  · simp only [pq_C_sI, pq_C_sJ, pq_C_sR, pq_C_sA, pq_L_sI, pq_L_sJ, pq_L_sR, pq_L_sA, pq_I_sI, pq_I_sJ, pq_I_sR, pq_I_sA, pq_J_sI, pq_J_sJ, pq_J_sR, pq_J_sA, pq_R_sI, pq_R_sJ, pq_R_sR, pq_R_sA, pq_N_sI, pq_N_sJ, pq_N_sR, pq_N_sA, pq_S_sI, pq_S_sJ, pq_S_sR, pq_S_sA, pz_rf_s, pz_cut_i, pz_cut_r, pz_cut_n, pz_cut_f, pz_cut_u, pz_cut_o, true_and, and_true, true_or, or_true, Option.toList_some, Option.toList_none, List.cons_append, List.nil_append, Nat.add_left_cancel_iff, Nat.left_eq_add, Nat.add_eq_left, Nat.reduceEqDiff, if_true, if_false, ite_true, ite_false, false_and, and_false, false_or, or_false, reduceIte, reduceCtorEq, and_self, pq_C_new, pq_L_new, pq_I_new, pq_J_new, pq_R_new, pq_N_new, pq_S_new, Nat.add_assoc, Nat.reduceAdd, kz_4, kz_5, kz_8, kz_16, kz_20, kz_25, kz_64, kz_80, kz_6000, hN]
  · unfold SH
    simp only [pq_C_sI, pq_C_sJ, pq_C_sR, pq_C_sA, pq_L_sI, pq_L_sJ, pq_L_sR, pq_L_sA, pq_I_sI, pq_I_sJ, pq_I_sR, pq_I_sA, pq_J_sI, pq_J_sJ, pq_J_sR, pq_J_sA, pq_R_sI, pq_R_sJ, pq_R_sR, pq_R_sA, pq_N_sI, pq_N_sJ, pq_N_sR, pq_N_sA, pq_S_sI, pq_S_sJ, pq_S_sR, pq_S_sA, pz_rf_s, pz_cut_i, pz_cut_r, pz_cut_n, pz_cut_f, pz_cut_u, pz_cut_o, true_and, and_true, true_or, or_true, Option.toList_some, Option.toList_none, List.cons_append, List.nil_append, Nat.add_left_cancel_iff, Nat.left_eq_add, Nat.add_eq_left, Nat.reduceEqDiff, if_true, if_false, ite_true, ite_false, false_and, and_false, false_or, or_false, reduceIte, reduceCtorEq, and_self, pq_C_new, pq_L_new, pq_I_new, pq_J_new, pq_R_new, pq_N_new, pq_S_new, Nat.add_assoc, Nat.reduceAdd, kz_4, kz_5, kz_8, kz_16, kz_20, kz_25, kz_64, kz_80, kz_6000, hN, hC]
/-- a torrent -/
def TF (h : PzH) (t : Nat) : Prop := TOR h t ∧ (pz_I h t 0 = 0 ∧ pz_I h t 1 = 0 ∧ pz_I h t 2 = 0 ∧ pz_I h t 3 = 0) ∧ ROW h (t + 4) (t + 5) 20 [] ∧ ROW h (t + 6) (t + 7) 1280 []
def TA (h : PzH) (t : Nat) : Prop := pz_C h t = 8 ∧ (pz_R h t 4 = some (t + 1) ∧ pz_C h (t + 1) = 100 ∧ pz_L h (t + 1) = 16) ∧ (pz_R h t 5 = some (t + 2) ∧ pz_C h (t + 2) = 100 ∧ pz_L h (t + 2) = 16) ∧ (pz_R h t 6 = some (t + 3) ∧ pz_C h (t + 3) = 100 ∧ pz_L h (t + 3) = 16) ∧ (pz_I h t 0 = 0 ∧ pz_I h t 1 = 0 ∧ pz_I h t 2 = 0 ∧ pz_I h t 3 = 0)
theorem TA_CX {t : Nat} (T : TA h t) (f : CX (t + 4) h h1) : TA h1 t := by
  obtain ⟨p1, p2, p3, p4, p5⟩ := f.1 t (by omega)
  obtain ⟨a1, a2, _⟩ := f.1 (t + 1) (by omega)
  obtain ⟨b1, b2, _⟩ := f.1 (t + 2) (by omega)
  obtain ⟨c1, c2, _⟩ := f.1 (t + 3) (by omega)
  unfold TA
  rw [p1, p5, p3, a1, a2, b1, b2, c1, c2]
  exact T
theorem TA_sR {t k : Nat} {v : Option Nat} (T : TA h t) (hk : 7 ≤ k) : TA (pz_sR h t k v) t := by
  unfold TA
  simp only [pq_R_sR, pq_C_sR, pq_L_sR, pq_I_sR, show ¬ (4 = k) by omega, show ¬ (5 = k) by omega, show ¬ (6 = k) by omega, and_false, if_false]
  exact T
theorem tor_a {t : Nat} (T : TA h t) (hN : pz_N h = t + 4) (K : ∀ h', CX t h h' → pz_N h' = t + 8 → pz_S h' = pz_S h + 1304 → TF h' t → Q none h') : wp (d + 1) mX8_init 48 [.ref t] [] h Q := by
  simp only [enX8_init, uX8_init_0, uX8_init_0o, uX8_init_0f, uX8_init_1, uX8_init_4, uX8_init_4o, uX8_init_4f, uX8_init_5, uX8_init_6, uX8_init_9, uX8_init_9o, uX8_init_9f, uX8_init_10, uX8_init_11, uX8_init_14, uX8_init_14o, uX8_init_14f, uX8_init_15, uX8_init_16, uX8_init_19, uX8_init_19o, uX8_init_19f, uX8_init_20, uX8_init_21, uX8_init_24, uX8_init_24o, uX8_init_24f, uX8_init_25, uX8_init_27, uX8_init_29, uX8_init_29o, uX8_init_32, uX8_init_32o, uX8_init_32f, uX8_init_33, uX8_init_35, uX8_init_37, uX8_init_37o, uX8_init_40, uX8_init_40o, uX8_init_40f, uX8_init_41, uX8_init_43, uX8_init_45, uX8_init_45o, uX8_init_48, uX8_init_48o, uX8_init_48f, uX8_init_49, uX8_init_52, uX8_init_53, uX8_init_55, uX8_init_58, uX8_init_58o, uX8_init_61, uX8_init_61o, uX8_init_61f, uX8_init_62, uX8_init_65, uX8_init_66, uX8_init_69, uX8_init_72, uX8_init_72o, uX8_init_75, pq_C_sI, pq_C_sJ, pq_C_sR, pq_C_sA, pq_L_sI, pq_L_sJ, pq_L_sR, pq_L_sA, pq_I_sI, pq_I_sJ, pq_I_sR, pq_I_sA, pq_J_sI, pq_J_sJ, pq_J_sR, pq_J_sA, pq_R_sI, pq_R_sJ, pq_R_sR, pq_R_sA, pq_N_sI, pq_N_sJ, pq_N_sR, pq_N_sA, pq_S_sI, pq_S_sJ, pq_S_sR, pq_S_sA, pz_rf_s, pz_cut_i, pz_cut_r, pz_cut_n, pz_cut_f, pz_cut_u, pz_cut_o, true_and, and_true, true_or, or_true, Option.toList_some, Option.toList_none, List.cons_append, List.nil_append, Nat.add_left_cancel_iff, Nat.left_eq_add, Nat.add_eq_left, Nat.reduceEqDiff, if_true, if_false, ite_true, ite_false, false_and, and_false, false_or, or_false, reduceIte, reduceCtorEq, and_self, z_4, z_5, z_7, z_8, z_10, z_16, z_20, z_64, not_false_eq_true, hN]
  refine n_row (cap := 20) rfl hN (by decide) (fun h1 F1 n1 s1 w1 => ?_)
  have T1 := TA_CX T F1
  simp only [enX8_init, uX8_init_0, uX8_init_0o, uX8_init_0f, uX8_init_1, uX8_init_4, uX8_init_4o, uX8_init_4f, uX8_init_5, uX8_init_6, uX8_init_9, uX8_init_9o, uX8_init_9f, uX8_init_10, uX8_init_11, uX8_init_14, uX8_init_14o, uX8_init_14f, uX8_init_15, uX8_init_16, uX8_init_19, uX8_init_19o, uX8_init_19f, uX8_init_20, uX8_init_21, uX8_init_24, uX8_init_24o, uX8_init_24f, uX8_init_25, uX8_init_27, uX8_init_29, uX8_init_29o, uX8_init_32, uX8_init_32o, uX8_init_32f, uX8_init_33, uX8_init_35, uX8_init_37, uX8_init_37o, uX8_init_40, uX8_init_40o, uX8_init_40f, uX8_init_41, uX8_init_43, uX8_init_45, uX8_init_45o, uX8_init_48, uX8_init_48o, uX8_init_48f, uX8_init_49, uX8_init_52, uX8_init_53, uX8_init_55, uX8_init_58, uX8_init_58o, uX8_init_61, uX8_init_61o, uX8_init_61f, uX8_init_62, uX8_init_65, uX8_init_66, uX8_init_69, uX8_init_72, uX8_init_72o, uX8_init_75, pq_C_sI, pq_C_sJ, pq_C_sR, pq_C_sA, pq_L_sI, pq_L_sJ, pq_L_sR, pq_L_sA, pq_I_sI, pq_I_sJ, pq_I_sR, pq_I_sA, pq_J_sI, pq_J_sJ, pq_J_sR, pq_J_sA, pq_R_sI, pq_R_sJ, pq_R_sR, pq_R_sA, pq_N_sI, pq_N_sJ, pq_N_sR, pq_N_sA, pq_S_sI, pq_S_sJ, pq_S_sR, pq_S_sA, pz_rf_s, pz_cut_i, pz_cut_r, pz_cut_n, pz_cut_f, pz_cut_u, pz_cut_o, true_and, and_true, true_or, or_true, Option.toList_some, Option.toList_none, List.cons_append, List.nil_append, Nat.add_left_cancel_iff, Nat.left_eq_add, Nat.add_eq_left, Nat.reduceEqDiff, if_true, if_false, ite_true, ite_false, false_and, and_false, false_or, or_false, reduceIte, reduceCtorEq, and_self, z_4, z_5, z_7, z_8, z_10, z_16, z_20, z_64, not_false_eq_true, n1, T1.1]
  have T2 := TA_sR (k := 7) (v := some (t + 4)) T1 (by decide)
  have w2 := ROW_sR (x := t) (k := 7) (v := some (t + 4)) w1 (by omega)
  have r2 : pz_R (pz_sR h1 t 7 (some (t + 4))) t 7 = some (t + 4) := by rw [pq_R_sR, if_pos ⟨rfl, rfl⟩]
  have n2 : pz_N (pz_sR h1 t 7 (some (t + 4))) = t + 6 := n1
  have s2 : pz_S (pz_sR h1 t 7 (some (t + 4))) = pz_S h + 22 := s1
  have F2 : CX t h (pz_sR h1 t 7 (some (t + 4))) := CX_trans (CX_le F1 (by omega)) (CX_sR (Nat.le_refl _))
  generalize pz_sR h1 t 7 (some (t + 4)) = h2 at *
  refine n_row (cap := 1280) rfl n2 (by decide) (fun h3 F3 n3 s3 w3 => ?_)
  have T3 := TA_CX T2 (CX_le F3 (by omega))
  simp only [enX8_init, uX8_init_0, uX8_init_0o, uX8_init_0f, uX8_init_1, uX8_init_4, uX8_init_4o, uX8_init_4f, uX8_init_5, uX8_init_6, uX8_init_9, uX8_init_9o, uX8_init_9f, uX8_init_10, uX8_init_11, uX8_init_14, uX8_init_14o, uX8_init_14f, uX8_init_15, uX8_init_16, uX8_init_19, uX8_init_19o, uX8_init_19f, uX8_init_20, uX8_init_21, uX8_init_24, uX8_init_24o, uX8_init_24f, uX8_init_25, uX8_init_27, uX8_init_29, uX8_init_29o, uX8_init_32, uX8_init_32o, uX8_init_32f, uX8_init_33, uX8_init_35, uX8_init_37, uX8_init_37o, uX8_init_40, uX8_init_40o, uX8_init_40f, uX8_init_41, uX8_init_43, uX8_init_45, uX8_init_45o, uX8_init_48, uX8_init_48o, uX8_init_48f, uX8_init_49, uX8_init_52, uX8_init_53, uX8_init_55, uX8_init_58, uX8_init_58o, uX8_init_61, uX8_init_61o, uX8_init_61f, uX8_init_62, uX8_init_65, uX8_init_66, uX8_init_69, uX8_init_72, uX8_init_72o, uX8_init_75, pq_C_sI, pq_C_sJ, pq_C_sR, pq_C_sA, pq_L_sI, pq_L_sJ, pq_L_sR, pq_L_sA, pq_I_sI, pq_I_sJ, pq_I_sR, pq_I_sA, pq_J_sI, pq_J_sJ, pq_J_sR, pq_J_sA, pq_R_sI, pq_R_sJ, pq_R_sR, pq_R_sA, pq_N_sI, pq_N_sJ, pq_N_sR, pq_N_sA, pq_S_sI, pq_S_sJ, pq_S_sR, pq_S_sA, pz_rf_s, pz_cut_i, pz_cut_r, pz_cut_n, pz_cut_f, pz_cut_u, pz_cut_o, true_and, and_true, true_or, or_true, Option.toList_some, Option.toList_none, List.cons_append, List.nil_append, Nat.add_left_cancel_iff, Nat.left_eq_add, Nat.add_eq_left, Nat.reduceEqDiff, if_true, if_false, ite_true, ite_false, false_and, and_false, false_or, or_false, reduceIte, reduceCtorEq, and_self, z_4, z_5, z_7, z_8, z_10, z_16, z_20, z_64, not_false_eq_true, n3, T3.1]
  have r3 : pz_R h3 t 7 = some (t + 4) := by rw [(F3.1 t (by omega)).2.2.2.2]; exact r2
  have T4 := TA_sR (k := 8) (v := some (t + 6)) T3 (by decide)
  refine K _ (CX_trans F2 (CX_trans (CX_le F3 (by omega)) (CX_sR (Nat.le_refl _)))) n3 ?_ ⟨⟨T4.1, T4.2.1, T4.2.2.1, T4.2.2.2.1, ?_, ?_⟩, T4.2.2.2.2, ROW_sR (ROW_CX w2 F3 (by omega) (by omega)) (by omega), ROW_sR w3 (by omega)⟩
  · show pz_S h3 = _
    rw [s3, s2]
  · rw [pq_R_sR, if_neg (by omega)]; exact r3
  · rw [pq_R_sR, if_pos ⟨rfl, rfl⟩]
theorem i_tor {t : Nat} (hC : pz_C h t = 8) (hN : pz_N h = t + 1) (K : ∀ h', CX t h h' → pz_N h' = t + 8 → pz_S h' = pz_S h + 1352 → TF h' t → Q none h') : pz_M (d + 2) mX8_init [.ref t] h Q := by
  simp only [enX8_init, uX8_init_0, uX8_init_0o, uX8_init_0f, uX8_init_1, uX8_init_4, uX8_init_4o, uX8_init_4f, uX8_init_5, uX8_init_6, uX8_init_9, uX8_init_9o, uX8_init_9f, uX8_init_10, uX8_init_11, uX8_init_14, uX8_init_14o, uX8_init_14f, uX8_init_15, uX8_init_16, uX8_init_19, uX8_init_19o, uX8_init_19f, uX8_init_20, uX8_init_21, uX8_init_24, uX8_init_24o, uX8_init_24f, uX8_init_25, uX8_init_27, uX8_init_29, uX8_init_29o, uX8_init_32, uX8_init_32o, uX8_init_32f, uX8_init_33, uX8_init_35, uX8_init_37, uX8_init_37o, uX8_init_40, uX8_init_40o, uX8_init_40f, uX8_init_41, uX8_init_43, uX8_init_45, uX8_init_45o, uX8_init_49, uX8_init_52, uX8_init_53, uX8_init_55, uX8_init_58, uX8_init_58o, uX8_init_61, uX8_init_61o, uX8_init_61f, uX8_init_62, uX8_init_65, uX8_init_66, uX8_init_69, uX8_init_72, uX8_init_72o, uX8_init_75, pq_C_sI, pq_C_sJ, pq_C_sR, pq_C_sA, pq_L_sI, pq_L_sJ, pq_L_sR, pq_L_sA, pq_I_sI, pq_I_sJ, pq_I_sR, pq_I_sA, pq_J_sI, pq_J_sJ, pq_J_sR, pq_J_sA, pq_R_sI, pq_R_sJ, pq_R_sR, pq_R_sA, pq_N_sI, pq_N_sJ, pq_N_sR, pq_N_sA, pq_S_sI, pq_S_sJ, pq_S_sR, pq_S_sA, pz_rf_s, pz_cut_i, pz_cut_r, pz_cut_n, pz_cut_f, pz_cut_u, pz_cut_o, true_and, and_true, true_or, or_true, Option.toList_some, Option.toList_none, List.cons_append, List.nil_append, Nat.add_left_cancel_iff, Nat.left_eq_add, Nat.add_eq_left, Nat.reduceEqDiff, if_true, if_false, ite_true, ite_false, false_and, and_false, false_or, or_false, reduceIte, reduceCtorEq, and_self, z_4, z_5, z_7, z_8, z_10, z_16, z_20, z_64, not_false_eq_true, hC, pq_C_new, pq_L_new, pq_I_new, pq_J_new, pq_R_new, pq_N_new, pq_S_new, Nat.add_assoc, Nat.reduceAdd, kz_4, kz_5, kz_8, kz_16, kz_20, kz_25, kz_64, kz_80, kz_6000, hN]
  refine ⟨by decide, by decide, by decide, tor_a ?_ ?_ (fun h' F n s T => K h' (CX_trans (by repeat (first | exact CX_refl | refine CX_trans ?_ (CX_sR (by omega)) | refine CX_trans ?_ (CX_sI (by omega)) | refine CX_trans ?_ (CX_sJ (by omega)) | refine CX_trans ?_ (CX_new (by first | omega | (simp only [pq_N_sR, pq_N_sI, pq_N_sJ, pq_N_new]; omega))))) F) n ?_ T)⟩
  · unfold TA
    simp only [pq_C_sI, pq_C_sJ, pq_C_sR, pq_C_sA, pq_L_sI, pq_L_sJ, pq_L_sR, pq_L_sA, pq_I_sI, pq_I_sJ, pq_I_sR, pq_I_sA, pq_J_sI, pq_J_sJ, pq_J_sR, pq_J_sA, pq_R_sI, pq_R_sJ, pq_R_sR, pq_R_sA, pq_N_sI, pq_N_sJ, pq_N_sR, pq_N_sA, pq_S_sI, pq_S_sJ, pq_S_sR, pq_S_sA, pz_rf_s, pz_cut_i, pz_cut_r, pz_cut_n, pz_cut_f, pz_cut_u, pz_cut_o, true_and, and_true, true_or, or_true, Option.toList_some, Option.toList_none, List.cons_append, List.nil_append, Nat.add_left_cancel_iff, Nat.left_eq_add, Nat.add_eq_left, Nat.reduceEqDiff, if_true, if_false, ite_true, ite_false, false_and, and_false, false_or, or_false, reduceIte, reduceCtorEq, and_self, pq_C_new, pq_L_new, pq_I_new, pq_J_new, pq_R_new, pq_N_new, pq_S_new, Nat.add_assoc, Nat.reduceAdd, kz_4, kz_5, kz_8, kz_16, kz_20, kz_25, kz_64, kz_80, kz_6000, hN, hC]
  · simp only [pq_C_sI, pq_C_sJ, pq_C_sR, pq_C_sA, pq_L_sI, pq_L_sJ, pq_L_sR, pq_L_sA, pq_I_sI, pq_I_sJ, pq_I_sR, pq_I_sA, pq_J_sI, pq_J_sJ, pq_J_sR, pq_J_sA, pq_R_sI, pq_R_sJ, pq_R_sR, pq_R_sA, pq_N_sI, pq_N_sJ, pq_N_sR, pq_N_sA, pq_S_sI, pq_S_sJ, pq_S_sR, pq_S_sA, pz_rf_s, pz_cut_i, pz_cut_r, pz_cut_n, pz_cut_f, pz_cut_u, pz_cut_o, true_and, and_true, true_or, or_true, Option.toList_some, Option.toList_none, List.cons_append, List.nil_append, Nat.add_left_cancel_iff, Nat.left_eq_add, Nat.add_eq_left, Nat.reduceEqDiff, if_true, if_false, ite_true, ite_false, false_and, and_false, false_or, or_false, reduceIte, reduceCtorEq, and_self, pq_C_new, pq_L_new, pq_I_new, pq_J_new, pq_R_new, pq_N_new, pq_S_new, Nat.add_assoc, Nat.reduceAdd, kz_4, kz_5, kz_8, kz_16, kz_20, kz_25, kz_64, kz_80, kz_6000, hN]
  · rw [s]
    simp only [pq_C_sI, pq_C_sJ, pq_C_sR, pq_C_sA, pq_L_sI, pq_L_sJ, pq_L_sR, pq_L_sA, pq_I_sI, pq_I_sJ, pq_I_sR, pq_I_sA, pq_J_sI, pq_J_sJ, pq_J_sR, pq_J_sA, pq_R_sI, pq_R_sJ, pq_R_sR, pq_R_sA, pq_N_sI, pq_N_sJ, pq_N_sR, pq_N_sA, pq_S_sI, pq_S_sJ, pq_S_sR, pq_S_sA, pz_rf_s, pz_cut_i, pz_cut_r, pz_cut_n, pz_cut_f, pz_cut_u, pz_cut_o, true_and, and_true, true_or, or_true, Option.toList_some, Option.toList_none, List.cons_append, List.nil_append, Nat.add_left_cancel_iff, Nat.left_eq_add, Nat.add_eq_left, Nat.reduceEqDiff, if_true, if_false, ite_true, ite_false, false_and, and_false, false_or, or_false, reduceIte, reduceCtorEq, and_self, pq_C_new, pq_L_new, pq_I_new, pq_J_new, pq_R_new, pq_N_new, pq_S_new, Nat.add_assoc, Nat.reduceAdd, kz_4, kz_5, kz_8, kz_16, kz_20, kz_25, kz_64, kz_80, kz_6000, hN]
theorem TF_CX {t y : Nat} (T : TF h t) (f : CX y h h1) (hy : t + 8 ≤ y) : TF h1 t := by
  obtain ⟨⟨t1, t2, t3, t4, t5, t6⟩, i, w1, w2⟩ := T
  obtain ⟨p1, p2, p3, p4, p5⟩ := f.1 t (by omega)
  obtain ⟨a1, a2, _⟩ := f.1 (t + 1) (by omega)
  obtain ⟨b1, b2, _⟩ := f.1 (t + 2) (by omega)
  obtain ⟨c1, c2, _⟩ := f.1 (t + 3) (by omega)
  refine ⟨?_, by rw [p3]; exact i, ROW_CX w1 f (by omega) (by omega), ROW_CX w2 f (by omega) (by omega)⟩
  unfold TOR
  rw [p1, p5, a1, a2, b1, b2, c1, c2]
  exact ⟨t1, t2, t3, t4, t5, t6⟩
end
