/-! ===== the class: where its objects lie ===== -/
def lkA (k : Nat) : Nat := 52 + 4 * (k - k / 6 - 1)
def TOR (h : PzH) (t : Nat) : Prop := pz_C h t = 8 ∧ (pz_R h t 4 = some (t + 1) ∧ pz_C h (t + 1) = 100 ∧ pz_L h (t + 1) = 16) ∧ (pz_R h t 5 = some (t + 2) ∧ pz_C h (t + 2) = 100 ∧ pz_L h (t + 2) = 16) ∧ (pz_R h t 6 = some (t + 3) ∧ pz_C h (t + 3) = 100 ∧ pz_L h (t + 3) = 16) ∧ pz_R h t 7 = some (t + 4) ∧ pz_R h t 8 = some (t + 6)
def CLI (h : PzH) (c : Nat) : Prop := pz_C h c = 2 ∧ pz_R h c 1 = some (c + 1) ∧ pz_R h c 3 = some (c + 3) ∧ pz_C h (c + 3) = 100 ∧ pz_L h (c + 3) = 64
def LNK (h : PzH) (c : Nat) : Prop := pz_C h c = 3 ∧ pz_R h c 2 = some (c + 1) ∧ pz_R h c 11 = some (c + 3) ∧ pz_C h (c + 3) = 100 ∧ pz_L h (c + 3) = 4
def NET (h : PzH) : Prop := pz_C h 23 = 5 ∧ (pz_R h 23 0 = some 24 ∧ pz_C h 24 = 110 ∧ pz_L h 24 = 4) ∧ (pz_R h 23 1 = some 25 ∧ pz_C h 25 = 111 ∧ pz_L h 25 = 25) ∧ pz_R h 23 2 = some 26
def ACT (h : PzH) : Prop := pz_C h 132 = 0 ∧ pz_R h 132 0 = some 23 ∧ pz_R h 132 1 = some 7 ∧ pz_R h 132 2 = some 133 ∧ pz_R h 132 3 = some 135 ∧ pz_R h 132 4 = some 137 ∧ pz_C h 137 = 100 ∧ pz_L h 137 = 64
def DSKO (h : PzH) : Prop := pz_C h 0 = 9 ∧ pz_R h 0 0 = some 1 ∧ pz_R h 0 1 = some 3 ∧ pz_R h 0 2 = some 5 ∧ pz_R h 0 3 = some 7 ∧ pz_R h 0 4 = some 10 ∧ pz_R h 0 5 = some 23 ∧ pz_R h 0 6 = some 132
def LOA (h : PzH) : Prop := pz_C h 10 = 4 ∧ pz_R h 10 0 = some 7 ∧ pz_R h 10 1 = some 11 ∧ pz_C h 11 = 1 ∧ pz_R h 11 1 = some 14 ∧ pz_C h 14 = 100 ∧ pz_L h 14 = 6000
def CO (h : PzH) : Prop := DSKO h ∧ SH h ∧ LOA h ∧ TOR h 15 ∧ TOR h 28 ∧ NET h ∧ (∀ k, k < 4 → pz_R h 24 k = some (36 + 4 * k) ∧ CLI h (36 + 4 * k)) ∧ (∀ k, k < 25 → k % 6 ≠ 0 → pz_R h 25 k = some (lkA k) ∧ LNK h (lkA k)) ∧ ACT h
theorem CO_fr {cs : List Nat} {h h' : PzH} (c : CO h) (f : HF cs h h') : CO h' := by
  obtain ⟨a1, a2, a3, _⟩ := f
  unfold CO DSKO SH LOA TOR NET CLI LNK ACT at c ⊢
  rw [a1, a2, a3]
  exact c
theorem lkA_in {k : Nat} (hk : k < 25) (h6 : k % 6 ≠ 0) : 52 ≤ lkA k ∧ lkA k + 3 ≤ 131 ∧ lkA k % 4 = 0 := by
  unfold lkA
  omega
theorem lkA_inj {k j : Nat} (hk : k < 25) (hj : j < 25) (h6 : k % 6 ≠ 0) (j6 : j % 6 ≠ 0) (h : lkA k = lkA j) : k = j := by
  unfold lkA at h
  omega
/-- the cells of a link -/
def lkC (k : Nat) : List Nat := [lkA k, lkA k + 1, lkA k + 2, lkA k + 3]
theorem lkC_m {k x : Nat} : x ∈ lkC k ↔ lkA k ≤ x ∧ x ≤ lkA k + 3 := by
  unfold lkC
  simp only [List.mem_cons, List.not_mem_nil, or_false]
  omega
/-- a long's bits are those flags -/
def BTS (x : Int64) (f : Nat → Int32) : Prop := ∀ q, q < 64 → x.toBitVec.getLsbD q = decide (f q ≠ 0)
/-- what is asked, in the first cells of an array -/
def ASK (f : Nat → Int32) (L : List Nat) : Prop := ∃ M : List Nat, M.Perm L ∧ M.length ≤ 4 ∧ (∀ v, v ∈ M → v < 1024) ∧ ∀ i, i < M.length → f i = nI (M.getD i 0)
/-- what the class knows of a link is the state's -/
def LR (h : PzH) (A : St) (a b : Nat) : Prop :=
  pz_I h (lkA (5 * a + b)) 0 = nI a ∧ pz_I h (lkA (5 * a + b)) 1 = nI b ∧ pz_I h (lkA (5 * a + b)) 3 = sB A 23 (5 * a + b) ∧ pz_I h (lkA (5 * a + b)) 4 = sB A 24 (5 * a + b) ∧ pz_I h (lkA (5 * a + b)) 5 = sB A 25 (5 * a + b) ∧
  (pz_I h (lkA (5 * a + b)) 6 = if sB A 23 (5 * a + b) = 0 then 0 else sB A 26 (5 * a + b)) ∧ (pz_I h (lkA (5 * a + b)) 7 = if sB A 23 (5 * a + b) = 0 then 0 else sB A 27 (5 * a + b)) ∧
  pz_I h (lkA (5 * a + b)) 8 = sB A 28 (5 * a + b) ∧ pz_I h (lkA (5 * a + b)) 9 = sB A 29 (5 * a + b) ∧ BTS (pz_J h (lkA (5 * a + b)) 10) (fun q => sB A 30 (64 * (5 * a + b) + q)) ∧
  pz_I h (lkA (5 * a + b)) 12 = nI (sL A (5 * a + b)).length ∧ ASK (pz_I h (lkA (5 * a + b) + 3)) (sL A (5 * a + b)) ∧ pz_I h (lkA (5 * a + b)) 13 = sB A 31 (5 * a + b) ∧
  ROW h (lkA (5 * a + b) + 1) (lkA (5 * a + b) + 2) 4000 (sW A (5 * b + a))
theorem LR_fr {cs : List Nat} {h h' : PzH} {A : St} {a b : Nat} (R : LR h A a b) (f : HF cs h h') (hc : ∀ x, x ∈ lkC (5 * a + b) → x ∉ cs) : LR h' A a b := by
  have m0 : lkA (5 * a + b) ∉ cs := hc _ (lkC_m.mpr (by omega))
  have m1 : lkA (5 * a + b) + 1 ∉ cs := hc _ (lkC_m.mpr (by omega))
  have m2 : lkA (5 * a + b) + 2 ∉ cs := hc _ (lkC_m.mpr (by omega))
  have m3 : lkA (5 * a + b) + 3 ∉ cs := hc _ (lkC_m.mpr (by omega))
  obtain ⟨r0, r1, r3, r4, r5, r6, r7, r8, r9, r10, r12, r11, r13, rw⟩ := R
  have f8 := f.2.2.2.2.2.2.2.1
  have f9 := f.2.2.2.2.2.2.2.2
  unfold LR
  rw [f8 _ m0, f9 _ m0, f8 _ m3]
  exact ⟨r0, r1, r3, r4, r5, r6, r7, r8, r9, r10, r12, r11, r13, ROW_fr rw f m1 m2⟩
/-- another state that says the same of this link -/
theorem LR_A {h : PzH} {A A' : St} {a b : Nat} (R : LR h A a b) (e : ∀ r, r ∈ [23, 24, 25, 26, 27, 28, 29, 31] → sB A' r (5 * a + b) = sB A r (5 * a + b)) (e30 : ∀ q, q < 64 → sB A' 30 (64 * (5 * a + b) + q) = sB A 30 (64 * (5 * a + b) + q)) (eL : sL A' (5 * a + b) = sL A (5 * a + b)) (eW : sW A' (5 * b + a) = sW A (5 * b + a)) : LR h A' a b := by
  obtain ⟨r0, r1, r3, r4, r5, r6, r7, r8, r9, r10, r12, r11, r13, rw⟩ := R
  unfold LR
  rw [e 23 (by decide), e 24 (by decide), e 25 (by decide), e 26 (by decide), e 27 (by decide), e 28 (by decide), e 29 (by decide), e 31 (by decide), eL, eW]
  refine ⟨r0, r1, r3, r4, r5, r6, r7, r8, r9, ?_, r12, r11, r13, rw⟩
  intro q hq
  rw [r10 q hq]
  show decide (sB A 30 (64 * (5 * a + b) + q) ≠ 0) = decide (sB A' 30 (64 * (5 * a + b) + q) ≠ 0)
  rw [e30 q hq]
def lkO (a b : Int32) : Option Nat := match vI a 5, vI b 5 with
  | some x, some y => if x = y then none else some (lkA (5 * x + y))
  | _, _ => none
theorem null_rf : Value.null = pz_rf none := rfl
section
variable {d : Nat} {h : PzH} {Q : Option Value → PzH → Prop}
theorem c_linkOf (C : CO h) {a b : Int32} : pz_M (d + 1) mX5_linkOf [.ref 23, .int a, .int b] h Q ↔ Q (some (pz_rf (lkO a b))) h := by
  obtain ⟨_, _, _, _, _, ⟨n1, n2, ⟨n3, n4, n5⟩, n6⟩, _, nl, _⟩ := C
  simp only [enX5_linkOf, uX5_linkOf_0, uX5_linkOf_1, uX5_linkOf_4, uX5_linkOf_5, uX5_linkOf_6, uX5_linkOf_9, uX5_linkOf_10, uX5_linkOf_13, uX5_linkOf_14, uX5_linkOf_15, uX5_linkOf_18, uX5_linkOf_19, uX5_linkOf_20, uX5_linkOf_23, uX5_linkOf_24, uX5_linkOf_27, uX5_linkOf_27o, uX5_linkOf_27f, uX5_linkOf_28, uX5_linkOf_31, uX5_linkOf_32, uX5_linkOf_33, uX5_linkOf_34, uX5_linkOf_35, uX5_linkOf_36, uX5_linkOf_37, uX5_linkOf_37o, pq_C_sI, pq_C_sJ, pq_C_sR, pq_C_sA, pq_L_sI, pq_L_sJ, pq_L_sR, pq_L_sA, pq_I_sI, pq_I_sJ, pq_I_sR, pq_I_sA, pq_J_sI, pq_J_sJ, pq_J_sR, pq_J_sA, pq_R_sI, pq_R_sJ, pq_R_sR, pq_R_sA, pq_N_sI, pq_N_sJ, pq_N_sR, pq_N_sA, pq_S_sI, pq_S_sJ, pq_S_sR, pq_S_sA, pz_rf_s, pz_cut_i, pz_cut_r, pz_cut_n, pz_cut_f, pz_cut_u, pz_cut_o, true_and, and_true, true_or, or_true, Option.toList_some, Option.toList_none, List.cons_append, List.nil_append, Nat.add_left_cancel_iff, Nat.left_eq_add, Nat.add_eq_left, Nat.reduceEqDiff, if_true, if_false, ite_true, ite_false, false_and, and_false, false_or, or_false, reduceIte, reduceCtorEq, and_self, n1, n3, n4, n5, null_rf]
  unfold lkO vI
  rw [show (5 : Int32) = nI 5 from rfl]
  by_cases a0 : a < 0
  · simp only [a0, if_true]
  · simp only [a0, if_false]
    by_cases a1 : a < nI 5
    · rw [if_neg (i32_nle.mpr a1), if_pos a1]
      by_cases b0 : b < 0
      · simp only [b0, if_true]
      · simp only [b0, if_false]
        by_cases b1 : b < nI 5
        · rw [if_neg (i32_nle.mpr b1), if_pos b1]
          obtain ⟨x, hx, rfl⟩ := nI_of a0
          obtain ⟨y, hy, rfl⟩ := nI_of b0
          have x5 := (nI_ltI hx (by decide)).mp a1
          have y5 := (nI_ltI hy (by decide)).mp b1
          simp (disch := omega) only [nI_clamp, pk_mul, nI_add, pz_in_nI, true_and]
          by_cases e : x = y
          · rw [if_neg (fun z => z (by rw [e])), if_pos e]
          · rw [if_pos (show ¬ nI x = nI y from fun z => e ((nI_eq (by omega) (by omega)).mp z)), if_neg e, (nl (5 * x + y) (by omega) (by omega)).1]
        · rw [if_pos (i32_nlt.mp b1), if_neg b1]
    · rw [if_pos (i32_nlt.mp a1), if_neg a1]
theorem lkO_of {a b : Nat} (ha : a < 5) (hb : b < 5) (hab : a ≠ b) : lkO (nI a) (nI b) = some (lkA (5 * a + b)) := by
  unfold lkO
  rw [vI_of (by decide) ha, vI_of (by decide) hb]
  exact if_neg hab
theorem lkO_eq {a : Nat} (ha : a < 5) : lkO (nI a) (nI a) = none := by
  unfold lkO
  rw [vI_of (by decide) ha]
  exact if_pos rfl
end
