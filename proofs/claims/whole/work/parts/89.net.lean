/-! ===== the class tells the state; links part ===== -/
def CB (f : Nat → Int32) (B : Nat → Int32) (k : Nat) : Prop := ∀ p, p < 64 → ∃ m : Nat, m < 65536 ∧ f p = nI m ∧ ∀ q, q < 16 → m.testBit q = decide (B (1024 * k + 16 * p + q) ≠ 0)
def CR (h : PzH) (A : St) (k : Nat) : Prop :=
  pz_I h (36 + 4 * k) 0 = sB A 18 k ∧ (∃ l, ROW h (37 + 4 * k) (38 + 4 * k) 4096 l) ∧
  (sB A 18 k ≠ 0 → ROW h (37 + 4 * k) (38 + 4 * k) 4096 (sD A k) ∧ BTS (pz_J h (36 + 4 * k) 2) (fun q => sB A 20 (64 * k + q)) ∧ CB (pz_I h (39 + 4 * k)) (sB A 21) k ∧ pz_I h (36 + 4 * k) 4 = sB A 22 (5 * k + 1) ∧ pz_I h (36 + 4 * k) 5 = sB A 22 (5 * k + 2) ∧ pz_I h (36 + 4 * k) 6 = sB A 22 (5 * k + 3) ∧ pz_I h (36 + 4 * k) 7 = sB A 22 (5 * k + 4))
def TR (h : PzH) (A : St) (t : Nat) : Prop :=
  pz_I h t 0 = sB A 0 18 ∧ pz_I h t 1 = sB A 0 19 ∧ pz_I h t 2 = sB A 0 20 ∧ pz_I h t 3 = sB A 0 21 ∧
  (∀ j, j < (sF A).length → pz_I h (t + 1) j = nI ((sF A).getD j (0, 0)).1 ∧ pz_I h (t + 2) j = nI (fsum ((sF A).take j)) ∧ pz_I h (t + 3) j = nI ((sF A).getD j (0, 0)).2) ∧
  ROW h (t + 4) (t + 5) 20 (sV A 2) ∧ ROW h (t + 6) (t + 7) 1280 (sV A 3)
def TRS (h : PzH) (A : St) : Prop := ∃ t, (t = 15 ∨ t = 28) ∧ pz_R h 23 3 = some t ∧ pz_R h 10 2 = some (43 - t) ∧ TR h A t ∧ (∃ l, ROW h (47 - t) (48 - t) 20 l) ∧ (∃ l, ROW h (49 - t) (50 - t) 1280 l)
def JNK (h : PzH) : Prop := (∃ l, ROW h 26 27 68 l) ∧ (∃ l, ROW h 133 134 104 l) ∧ (∃ l, ROW h 135 136 104 l)
def BYS (h : PzH) (A : St) : Prop := ROW h 1 2 6000 (sV A 0) ∧ ROW h 3 4 6000 (sV A 1) ∧ ROW h 5 6 4096 (if sB A 0 17 = 0 then [] else sV A 4) ∧ pz_I h 0 7 = sB A 0 27
/-- the class's heap tells that state -/
def RC (h : PzH) (A : St) : Prop := CO h ∧ TRS h A ∧ BYS h A ∧ (∀ k, k < 4 → CR h A k) ∧ (∀ a b, a < 5 → b < 5 → a ≠ b → LR h A a b) ∧ JNK h
/-- a link that is closed -/
def LZ (h : PzH) (a b : Nat) (w : Int32) : Prop := pz_I h (lkA (5 * a + b)) 0 = nI a ∧ pz_I h (lkA (5 * a + b)) 1 = nI b ∧ pz_I h (lkA (5 * a + b)) 3 = 0 ∧ pz_I h (lkA (5 * a + b)) 4 = 0 ∧ pz_I h (lkA (5 * a + b)) 5 = 0 ∧ pz_I h (lkA (5 * a + b)) 6 = 0 ∧ pz_I h (lkA (5 * a + b)) 7 = 0 ∧ pz_I h (lkA (5 * a + b)) 8 = 0 ∧ pz_I h (lkA (5 * a + b)) 9 = 0 ∧ pz_J h (lkA (5 * a + b)) 10 = 0 ∧ pz_I h (lkA (5 * a + b)) 12 = 0 ∧ pz_I h (lkA (5 * a + b)) 13 = w ∧ ROW h (lkA (5 * a + b) + 1) (lkA (5 * a + b) + 2) 4000 []
theorem BTS_0 {f : Nat → Int32} (h : ∀ q, q < 64 → f q = 0) : BTS 0 f := by
  intro q hq
  rw [h q hq]
  simp
theorem ASK_0 {f : Nat → Int32} : ASK f [] := ⟨[], List.Perm.refl _, by simp, by simp, by simp⟩
theorem cl_31 {A : St} {a b j : Nat} {w : Int32} : sB (clA A a b w) 31 j = if j = 5 * b + a then w else if j = 5 * a + b then w else sB A 31 j := by
  show clG (sB A) a b w 31 j = _
  unfold clG
  rw [gu_22]
  by_cases e : j = 5 * b + a
  · rw [if_pos ⟨rfl, e⟩, if_pos e]
  · rw [if_neg (fun z => e z.2), if_neg e, gu_22]
    by_cases e2 : j = 5 * a + b
    · rw [if_pos ⟨rfl, e2⟩, if_pos e2]
    · rw [if_neg (fun z => e2 z.2), if_neg e2]
      rfl
theorem LZ_LR {h : PzH} {A : St} {a b x y : Nat} {w : Int32} (Z : LZ h x y w) (he : (x = a ∧ y = b) ∨ (x = b ∧ y = a)) : LR h (clA A a b w) x y := by
  obtain ⟨z0, z1, z3, z4, z5, z6, z7, z8, z9, z10, z12, z13, zw⟩ := Z
  have v : ∀ r, r ∈ [23, 24, 25, 28, 29] → sB (clA A a b w) r (5 * x + y) = 0 := by
    intro r hr
    rw [cl_v hr]
    rcases he with ⟨rfl, rfl⟩ | ⟨rfl, rfl⟩
    · split
      · rfl
      · rw [if_pos rfl]
    · rw [if_pos rfl]
  have v31 : sB (clA A a b w) 31 (5 * x + y) = w := by
    rw [cl_31]
    rcases he with ⟨rfl, rfl⟩ | ⟨rfl, rfl⟩
    · split
      · rfl
      · rw [if_pos rfl]
    · rw [if_pos rfl]
  have vL : sL (clA A a b w) (5 * x + y) = [] := by
    show upf (upf (sL A) (5 * a + b) []) (5 * b + a) [] (5 * x + y) = []
    unfold upf
    rcases he with ⟨rfl, rfl⟩ | ⟨rfl, rfl⟩
    · split
      · rfl
      · rw [if_pos rfl]
    · rw [if_pos rfl]
  have vW : sW (clA A a b w) (5 * y + x) = [] := by
    show upf (upf (sW A) (5 * a + b) []) (5 * b + a) [] (5 * y + x) = []
    unfold upf
    rcases he with ⟨rfl, rfl⟩ | ⟨rfl, rfl⟩
    · rw [if_pos rfl]
    · split
      · rfl
      · rw [if_pos rfl]
  unfold LR
  rw [v 23 (by decide), v 24 (by decide), v 25 (by decide), v 28 (by decide), v 29 (by decide), v31, vL, vW, z10, if_pos rfl, if_pos rfl]
  refine ⟨z0, z1, z3, z4, z5, z6, z7, z8, z9, BTS_0 (fun q hq => ?_), z12, ASK_0, z13, zw⟩
  rw [cl_30]
  rcases he with ⟨rfl, rfl⟩ | ⟨rfl, rfl⟩
  · by_cases q1 : 64 * (5 * y + x) ≤ 64 * (5 * x + y) + q ∧ 64 * (5 * x + y) + q < 64 * (5 * y + x) + 64
    · exact fil_in q1
    · rw [fil_out (by omega), fil_in (by omega)]
  · exact fil_in (by omega)
section
variable {d : Nat} {h : PzH} {Q : Option Value → PzH → Prop} {A : St}
theorem c_finish {a b : Nat} (C : CO h) (ha : a < 5) (hb : b < 5) (hab : a ≠ b) (R : LR h A a b) {w : Int32} (K : ∀ h', HF (lkC (5 * a + b)) h h' → LZ h' a b w → Q none h') : pz_M (d + 2) mX3_finish [.ref (lkA (5 * a + b)), .int w] h Q := by
  obtain ⟨l1, l2, l3, l4, l5⟩ := (C.2.2.2.2.2.2.2.1 (5 * a + b) (by omega) (by omega)).2
  obtain ⟨r0, r1, r3, r4, r5, r6, r7, r8, r9, r10, r12, r11, r13, rw⟩ := R
  generalize hk : lkA (5 * a + b) = k at l1 l2 l3 l4 l5 r0 r1 rw
  simp only [enX3_finish, uX3_finish_0, uX3_finish_0o, uX3_finish_0f, uX3_finish_1, uX3_finish_2, uX3_finish_5, uX3_finish_5o, uX3_finish_5f, uX3_finish_6, uX3_finish_7, uX3_finish_10, uX3_finish_10o, uX3_finish_10f, uX3_finish_11, uX3_finish_12, uX3_finish_15, uX3_finish_15o, uX3_finish_15f, uX3_finish_16, uX3_finish_17, uX3_finish_20, uX3_finish_20o, uX3_finish_20f, uX3_finish_21, uX3_finish_22, uX3_finish_25, uX3_finish_25o, uX3_finish_25f, uX3_finish_26, uX3_finish_27, uX3_finish_30, uX3_finish_30o, uX3_finish_30f, uX3_finish_31, uX3_finish_32, uX3_finish_35, uX3_finish_35o, uX3_finish_35f, uX3_finish_36, uX3_finish_37, uX3_finish_40, uX3_finish_40o, uX3_finish_40f, uX3_finish_41, uX3_finish_42, uX3_finish_45, uX3_finish_45o, uX3_finish_45f, uX3_finish_46, uX3_finish_47, uX3_finish_50, uX3_finish_50o, uX3_finish_50f, uX3_finish_51, uX3_finish_54, uX3_finish_55, uX3_finish_58, pq_C_sI, pq_C_sJ, pq_C_sR, pq_C_sA, pq_L_sI, pq_L_sJ, pq_L_sR, pq_L_sA, pq_I_sI, pq_I_sJ, pq_I_sR, pq_I_sA, pq_J_sI, pq_J_sJ, pq_J_sR, pq_J_sA, pq_R_sI, pq_R_sJ, pq_R_sR, pq_R_sA, pq_N_sI, pq_N_sJ, pq_N_sR, pq_N_sA, pq_S_sI, pq_S_sJ, pq_S_sR, pq_S_sA, pz_rf_s, pz_cut_i, pz_cut_r, pz_cut_n, pz_cut_f, pz_cut_u, pz_cut_o, true_and, and_true, true_or, or_true, Option.toList_some, Option.toList_none, List.cons_append, List.nil_append, Nat.add_left_cancel_iff, Nat.left_eq_add, Nat.add_eq_left, Nat.reduceEqDiff, if_true, if_false, ite_true, ite_false, false_and, and_false, false_or, or_false, reduceIte, reduceCtorEq, and_self, z_4, z_5, z_7, z_8, z_10, z_16, z_20, z_64, not_false_eq_true, l1, l2, rw.1]
  have m : k ∈ lkC (5 * a + b) := lkC_m.mpr (by omega)
  have H1 : HF (lkC (5 * a + b)) h (pz_sI (pz_sI (pz_sJ (pz_sI (pz_sI (pz_sI (pz_sI (pz_sI (pz_sI (pz_sI h k 3 0) k 4 0) k 5 0) k 6 0) k 7 0) k 8 0) k 9 0) k 10 0) k 12 0) k 13 w) := HF_trans (HF_trans (HF_trans (HF_trans (HF_trans (HF_trans (HF_trans (HF_trans (HF_trans (HF_sI m) (HF_sI m)) (HF_sI m)) (HF_sI m)) (HF_sI m)) (HF_sI m)) (HF_sI m)) (HF_sJ m)) (HF_sI m)) (HF_sI m)
  have H1' : HF [k] h (pz_sI (pz_sI (pz_sJ (pz_sI (pz_sI (pz_sI (pz_sI (pz_sI (pz_sI (pz_sI h k 3 0) k 4 0) k 5 0) k 6 0) k 7 0) k 8 0) k 9 0) k 10 0) k 12 0) k 13 w) := by
    have m : k ∈ [k] := by simp
    exact HF_trans (HF_trans (HF_trans (HF_trans (HF_trans (HF_trans (HF_trans (HF_trans (HF_trans (HF_sI m) (HF_sI m)) (HF_sI m)) (HF_sI m)) (HF_sI m)) (HF_sI m)) (HF_sI m)) (HF_sJ m)) (HF_sI m)) (HF_sI m)
  have iv : ∀ j, pz_I (pz_sI (pz_sI (pz_sJ (pz_sI (pz_sI (pz_sI (pz_sI (pz_sI (pz_sI (pz_sI h k 3 0) k 4 0) k 5 0) k 6 0) k 7 0) k 8 0) k 9 0) k 10 0) k 12 0) k 13 w) k j = if j = 13 then w else if j = 12 then 0 else if j = 9 then 0 else if j = 8 then 0 else if j = 7 then 0 else if j = 6 then 0 else if j = 5 then 0 else if j = 4 then 0 else if j = 3 then 0 else pz_I h k j := by
    intro j
    simp only [pq_I_sI, pq_I_sJ, true_and]
  have jv : pz_J (pz_sI (pz_sI (pz_sJ (pz_sI (pz_sI (pz_sI (pz_sI (pz_sI (pz_sI (pz_sI h k 3 0) k 4 0) k 5 0) k 6 0) k 7 0) k 8 0) k 9 0) k 10 0) k 12 0) k 13 w) k 10 = 0 := by
    simp only [pq_J_sI, pq_J_sJ, and_self, if_true]
  have W1 := ROW_fr rw H1' (by simp) (by simp)
  generalize pz_sI (pz_sI (pz_sJ (pz_sI (pz_sI (pz_sI (pz_sI (pz_sI (pz_sI (pz_sI h k 3 0) k 4 0) k 5 0) k 6 0) k 7 0) k 8 0) k 9 0) k 10 0) k 12 0) k 13 w = h1 at H1 H1' iv jv W1
  refine c_cut0 W1 (fun h2 F2 W2 => ?_)
  simp only [enX3_finish, uX3_finish_0, uX3_finish_0o, uX3_finish_0f, uX3_finish_1, uX3_finish_2, uX3_finish_5, uX3_finish_5o, uX3_finish_5f, uX3_finish_6, uX3_finish_7, uX3_finish_10, uX3_finish_10o, uX3_finish_10f, uX3_finish_11, uX3_finish_12, uX3_finish_15, uX3_finish_15o, uX3_finish_15f, uX3_finish_16, uX3_finish_17, uX3_finish_20, uX3_finish_20o, uX3_finish_20f, uX3_finish_21, uX3_finish_22, uX3_finish_25, uX3_finish_25o, uX3_finish_25f, uX3_finish_26, uX3_finish_27, uX3_finish_30, uX3_finish_30o, uX3_finish_30f, uX3_finish_31, uX3_finish_32, uX3_finish_35, uX3_finish_35o, uX3_finish_35f, uX3_finish_36, uX3_finish_37, uX3_finish_40, uX3_finish_40o, uX3_finish_40f, uX3_finish_41, uX3_finish_42, uX3_finish_45, uX3_finish_45o, uX3_finish_45f, uX3_finish_46, uX3_finish_47, uX3_finish_50, uX3_finish_50o, uX3_finish_50f, uX3_finish_51, uX3_finish_54, uX3_finish_55, uX3_finish_58, pq_C_sI, pq_C_sJ, pq_C_sR, pq_C_sA, pq_L_sI, pq_L_sJ, pq_L_sR, pq_L_sA, pq_I_sI, pq_I_sJ, pq_I_sR, pq_I_sA, pq_J_sI, pq_J_sJ, pq_J_sR, pq_J_sA, pq_R_sI, pq_R_sJ, pq_R_sR, pq_R_sA, pq_N_sI, pq_N_sJ, pq_N_sR, pq_N_sA, pq_S_sI, pq_S_sJ, pq_S_sR, pq_S_sA, pz_rf_s, pz_cut_i, pz_cut_r, pz_cut_n, pz_cut_f, pz_cut_u, pz_cut_o, true_and, and_true, true_or, or_true, Option.toList_some, Option.toList_none, List.cons_append, List.nil_append, Nat.add_left_cancel_iff, Nat.left_eq_add, Nat.add_eq_left, Nat.reduceEqDiff, if_true, if_false, ite_true, ite_false, false_and, and_false, false_or, or_false, reduceIte, reduceCtorEq, and_self, z_4, z_5, z_7, z_8, z_10, z_16, z_20, z_64, not_false_eq_true]
  have i2 : pz_I h2 k = pz_I h1 k := F2.2.2.2.2.2.2.2.1 k (by simp)
  have j2 : pz_J h2 k = pz_J h1 k := F2.2.2.2.2.2.2.2.2 k (by simp)
  refine K h2 (HF_trans H1 (HF_up F2 (fun x hx => ?_))) ?_
  · rw [lkC_m, hk]
    have : x = k + 1 ∨ x = k + 2 := by simpa using hx
    omega
  · unfold LZ
    rw [hk, i2, j2]
    exact ⟨(iv 0).trans r0, (iv 1).trans r1, iv 3, iv 4, iv 5, iv 6, iv 7, iv 8, iv 9, jv, iv 12, iv 13, W2⟩
end
