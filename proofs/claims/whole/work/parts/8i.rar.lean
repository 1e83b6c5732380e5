/-! ===== the class: rarestPiece ===== -/
section
variable {d : Nat} {h : PzH} {Q : Option Value → PzH → Prop} {A : St} {l c p : Nat}
theorem bsy_n (I : OI A l c p) {a P q : Nat} (ha : a < 4) (hth : sB A 18 a ≠ 0) (hP : P < 64) (hq : q < 16) (h : bsy A a (16 * P + q)) : P < p ∧ q < nbl l c p P := by
  have e1 : (16 * P + q) / 16 = P := by omega
  have e2 : (16 * P + q) % 16 = q := by omega
  rcases h with z | z
  · have := (I.2.2 a ha hth).2 (16 * P + q) (by omega) z
    rw [e1, e2] at this
    exact this
  · obtain ⟨b, hb, hm⟩ := (anyN_iff 5).mp z
    have := I.1.2.2.2.2.2.2.1 (5 * a + b) (by omega) _ hm
    rw [e1, e2] at this
    exact ⟨this.1, nbl_of this.2⟩
theorem bz_all (I : OI A l c p) {a P m : Nat} (ha : a < 4) (hth : sB A 18 a ≠ 0) (hP : P < p) (hm : m < 65536) (hb : ∀ q, q < 16 → (m.testBit q = true ↔ bsy A a (16 * P + q))) : m = 2 ^ nbl l c p P - 1 ↔ wbl A a l c p P = none := by
  have t6 := I.1.1.2.2.2.2.2.1
  have n16 := (nbl_le I.1.1 hP).1
  constructor
  · intro e
    unfold wbl
    rw [fstN_none _ (fun k hk z => z ((hb k (by omega)).mp (by rw [e, Nat.testBit_two_pow_sub_one]; exact decide_eq_true hk)))]
    rfl
  · intro e
    have all : ∀ k, k < nbl l c p P → bsy A a (16 * P + k) := by
      intro k hk
      apply Classical.byContradiction
      intro z
      cases e2 : fstN (fun k => ¬ bsy A a (16 * P + k)) (nbl l c p P) with
      | none =>
        obtain ⟨j, j1, j2⟩ := pk_least (fun k => k < nbl l c p P ∧ ¬ bsy A a (16 * P + k)) ⟨k, hk, z⟩
        rw [fstN_some (f := fun k => ¬ bsy A a (16 * P + k)) j1.2 (fun i hi w => j2 i hi ⟨by omega, w⟩) _ j1.1] at e2
        exact absurd e2 (by simp)
      | some j =>
        unfold wbl at e
        rw [e2] at e
        exact absurd e (by simp)
    apply Nat.eq_of_testBit_eq
    intro i
    rw [Nat.testBit_two_pow_sub_one]
    by_cases hi : i < 16
    · by_cases z : i < nbl l c p P
      · rw [(hb i hi).mpr (all i z), decide_eq_true z]
      · rw [decide_eq_false z]
        cases w : m.testBit i with
        | false => rfl
        | true => exact absurd (bsy_n I ha hth (by omega) hi ((hb i hi).mp w)).2 z
    · rw [Nat.testBit_lt_two_pow (show m < 2 ^ i from Nat.lt_of_lt_of_le hm (Nat.pow_le_pow_right (n := 2) (by decide) (show 16 ≤ i by omega))), decide_eq_false (by omega)]
theorem bz_fst (I : OI A l c p) {a P m v : Nat} (hP : P < p) (hb : ∀ q, q < 16 → (m.testBit q = true ↔ bsy A a (16 * P + q))) (h : wbl A a l c p P = some v) : m.testBit (v % 16) = false ∧ ∀ q, q < v % 16 → m.testBit q = true := by
  have n16 := (nbl_le I.1.1 hP).1
  unfold wbl at h
  cases e : fstN (fun k => ¬ bsy A a (16 * P + k)) (nbl l c p P) with
  | none => rw [e] at h; exact absurd h (by simp)
  | some k =>
    rw [e] at h
    have e2 : 16 * P + k = v := Option.some.inj h
    obtain ⟨k1, k2, k3⟩ := fstN_sp _ e
    have ek : v % 16 = k := by omega
    rw [ek]
    refine ⟨?_, fun q hq => (hb q (by omega)).mpr (Classical.byContradiction (fun z => k3 q hq z))⟩
    cases w : m.testBit k with
    | false => rfl
    | true => exact absurd ((hb k (by omega)).mp w) k2
def rbO (o : Option Nat) : Int32 := match o with
  | none => -1
  | some v => nI (v / 16)
theorem nxt_n {a b : Nat} : ∀ q, (nxt A a b l c p q).1 = none → (nxt A a b l c p q).2 = 6
  | 0, _ => rfl
  | q + 1, h => by
    unfold nxt at h ⊢
    split at h
    · rename_i z
      rw [if_pos z]
      exact nxt_n q h
    · rename_i z
      rw [if_neg z]
      split at h
      · exact absurd (show wbl A a l c p q = none from h) (fun w => z (Or.inr (Or.inr w)))
      · rename_i z2
        rw [if_neg z2]
        exact nxt_n q h
theorem hld_4 (I : OI A l c p) {a q : Nat} (ha : a < 4) : hld A a q < 5 := by
  have z : sB A 24 (5 * a + a) = 0 := Classical.byContradiction (fun z => ((I.2.1 a a (by omega) (by omega)).1 (LI_j (by omega) (by omega) I.2 z)).1 rfl)
  unfold hld
  have key : ∀ (f : Nat → Prop) [DecidablePred f] (n k : Nat), k < n → ¬ f k → cnt f n < n := by
    intro f _ n
    induction n with
    | zero => intro k hk; omega
    | succ n ih =>
      intro k hk hf
      have := cnt_le (f := f) n
      unfold cnt
      by_cases e : k = n
      · subst e
        rw [if_neg hf]
        omega
      · have := ih k (by omega) hf
        split <;> omega
  exact key _ 5 a (by omega) (fun w => w.1 z)
theorem c_rarest (R : RC h A) (I : OI A l c p) {a b : Nat} (ha : a < 4) (hb : b < 5) (hab : a ≠ b) (hth : sB A 18 a ≠ 0) (Z : BZ (pz_I h 137) (bsy A a)) : pz_M (d + 4) mX0_rarestPiece [.ref 132, .ref (36 + 4 * a), .ref (lkA (5 * a + b))] h Q ↔ Q (some (.int (rbO (nxt A a b l c p p).1))) h := by
  obtain ⟨a1, a2, a3, a4, a5, a6, a7, a8⟩ := ACT_of R
  obtain ⟨⟨k1, k2, k3, k4, k5⟩, L⟩ := LN_of R (show a < 5 by omega) hb hab
  obtain ⟨⟨c1, c2, c3, c4, c5⟩, CRa⟩ := CL_of R ha
  obtain ⟨_, bits, _⟩ := CRa.2.2 hth
  obtain ⟨t, ht, tr, tc, T⟩ := TS_of R
  have r10 := L.2.2.2.2.2.2.2.2.2.1
  have r0 := L.1
  have t6 := I.1.1.2.2.2.2.2.1
  have n1 := R.1.2.2.2.2.2.1.1
  have e20 := T.2.2.1.trans I.1.1.2.2.1
  simp only [enX0_rarestPiece, uX0_rarestPiece_0, uX0_rarestPiece_0o, uX0_rarestPiece_0f, uX0_rarestPiece_1, uX0_rarestPiece_4, uX0_rarestPiece_4o, uX0_rarestPiece_4f, uX0_rarestPiece_5, uX0_rarestPiece_8, uX0_rarestPiece_11, uX0_rarestPiece_12, uX0_rarestPiece_13, uX0_rarestPiece_14, uX0_rarestPiece_15, uX0_rarestPiece_17, uX0_rarestPiece_18, uX0_rarestPiece_20, uX0_rarestPiece_21, uX0_rarestPiece_25, uX0_rarestPiece_25o, uX0_rarestPiece_25f, uX0_rarestPiece_26, uX0_rarestPiece_29, uX0_rarestPiece_32, uX0_rarestPiece_35, uX0_rarestPiece_38, uX0_rarestPiece_40, uX0_rarestPiece_42, uX0_rarestPiece_45, uX0_rarestPiece_46, uX0_rarestPiece_48, uX0_rarestPiece_49, uX0_rarestPiece_50, uX0_rarestPiece_51, uX0_rarestPiece_52, uX0_rarestPiece_53, uX0_rarestPiece_56, uX0_rarestPiece_56o, uX0_rarestPiece_56f, uX0_rarestPiece_57, uX0_rarestPiece_60, uX0_rarestPiece_62, uX0_rarestPiece_63, uX0_rarestPiece_63o, uX0_rarestPiece_63f, uX0_rarestPiece_64, uX0_rarestPiece_67, uX0_rarestPiece_70, uX0_rarestPiece_72, uX0_rarestPiece_75, uX0_rarestPiece_78, uX0_rarestPiece_78o, uX0_rarestPiece_78f, uX0_rarestPiece_79, uX0_rarestPiece_79o, uX0_rarestPiece_79f, uX0_rarestPiece_80, uX0_rarestPiece_83, uX0_rarestPiece_85, uX0_rarestPiece_88, uX0_rarestPiece_90, uX0_rarestPiece_92, uX0_rarestPiece_94, uX0_rarestPiece_97, uX0_rarestPiece_99, uX0_rarestPiece_101, uX0_rarestPiece_103, uX0_rarestPiece_105, uX0_rarestPiece_108, uX0_rarestPiece_111, uX0_rarestPiece_113, pq_C_sI, pq_C_sJ, pq_C_sR, pq_C_sA, pq_L_sI, pq_L_sJ, pq_L_sR, pq_L_sA, pq_I_sI, pq_I_sJ, pq_I_sR, pq_I_sA, pq_J_sI, pq_J_sJ, pq_J_sR, pq_J_sA, pq_R_sI, pq_R_sJ, pq_R_sR, pq_R_sA, pq_N_sI, pq_N_sJ, pq_N_sR, pq_N_sA, pq_S_sI, pq_S_sJ, pq_S_sR, pq_S_sA, pz_rf_s, pz_cut_i, pz_cut_r, pz_cut_n, pz_cut_f, pz_cut_u, pz_cut_o, true_and, and_true, true_or, or_true, Option.toList_some, Option.toList_none, List.cons_append, List.nil_append, Nat.add_left_cancel_iff, Nat.left_eq_add, Nat.add_eq_left, Nat.reduceEqDiff, if_true, if_false, ite_true, ite_false, false_and, and_false, false_or, or_false, reduceIte, reduceCtorEq, and_self, z_4, z_5, z_7, z_8, z_10, z_16, z_20, z_64, not_false_eq_true, k1, c1]
  generalize hX : pz_J h (lkA (5 * a + b)) 10 &&& (pz_J h (36 + 4 * a) 2 ^^^ (-1)) = X
  have xb : ∀ q, q < 64 → (X.toBitVec.getLsbD q = false ↔ (sB A 30 (64 * (5 * a + b) + q) = 0 ∨ sB A 20 (64 * a + q) ≠ 0)) := by
    intro q hq
    have m1 : ∀ q, q < 64 → (-1 : Int64).toBitVec.getLsbD q = true := by decide +kernel
    rw [← hX, Int64.toBitVec_and, Int64.toBitVec_xor, BitVec.getLsbD_and, BitVec.getLsbD_xor, m1 q hq, r10 q hq, bits q hq]
    by_cases z1 : sB A 30 (64 * (5 * a + b) + q) = 0 <;> by_cases z2 : sB A 20 (64 * a + q) = 0 <;> simp [z1, z2]
  have key := wp_loop (d := d + 3) (m := mX0_rarestPiece) (pc := 23) (Q := Q) p (fun i ls h' => h' = h ∧ ∃ v8, ls = [.ref 132, .ref (36 + 4 * a), .ref (lkA (5 * a + b)), .long X, .retAddr 0, .int (rbO (nxt A a b l c p i).1), .int (nI (if (nxt A a b l c p i).1 = none then 5 else (nxt A a b l c p i).2)), .int (nI i), v8]) (by
    rintro i ls h' hi ⟨rfl, v8, rfl⟩
    have stp : nxt A a b l c p (i + 1) = if sB A 30 (64 * (5 * a + b) + i) = 0 ∨ sB A 20 (64 * a + i) ≠ 0 ∨ wbl A a l c p i = none then nxt A a b l c p i else if hld A a i < (nxt A a b l c p i).2 then (wbl A a l c p i, hld A a i) else nxt A a b l c p i := rfl
    obtain ⟨m, m1, m2, m3⟩ := Z i (by omega)
    have ball := bz_all I ha hth hi m1 m3
    have hl5 := hld_4 (q := i) I ha
    have nn := nxt_n (A := A) (l := l) (c := c) (p := p) (a := a) (b := b) i
    have n6 := nxt_2 (A := A) (l := l) (c := c) (p := p) (a := a) (b := b) i
    have p16 : 2 ^ nbl l c p i ≤ 65536 := Nat.pow_le_pow_right (n := 2) (by decide) (nbl_le I.1.1 hi).1
    have p1 : 1 ≤ 2 ^ nbl l c p i := Nat.one_le_two_pow
    have hin : pz_in (nI i) 64 = true := pz_in_nI (by omega) (by decide)
    have hd : ∀ v8, wp (d + 3) mX0_rarestPiece 23 [.ref 132, .ref (36 + 4 * a), .ref (lkA (5 * a + b)), .long X, .retAddr 0, .int (rbO (nxt A a b l c p i).1), .int (nI (if (nxt A a b l c p i).1 = none then 5 else (nxt A a b l c p i).2)), .int (nI i), v8] [] h' Q ↔ (if sB A 30 (64 * (5 * a + b) + i) = 0 ∨ sB A 20 (64 * a + i) ≠ 0 then wp (d + 3) mX0_rarestPiece 23 [.ref 132, .ref (36 + 4 * a), .ref (lkA (5 * a + b)), .long X, .retAddr 0, .int (rbO (nxt A a b l c p i).1), .int (nI (if (nxt A a b l c p i).1 = none then 5 else (nxt A a b l c p i).2)), .int (nI (i + 1)), v8] [] h' Q else if wbl A a l c p i = none then wp (d + 3) mX0_rarestPiece 23 [.ref 132, .ref (36 + 4 * a), .ref (lkA (5 * a + b)), .long X, .retAddr 0, .int (rbO (nxt A a b l c p i).1), .int (nI (if (nxt A a b l c p i).1 = none then 5 else (nxt A a b l c p i).2)), .int (nI (i + 1)), v8] [] h' Q else wp (d + 3) mX0_rarestPiece 90 [.ref 132, .ref (36 + 4 * a), .ref (lkA (5 * a + b)), .long X, .retAddr 0, .int (rbO (nxt A a b l c p i).1), .int (nI (if (nxt A a b l c p i).1 = none then 5 else (nxt A a b l c p i).2)), .int (nI i), .int (nI (hld A a i))] [] h' Q) := by
      intro v8
      rw [uX0_rarestPiece_23]
      simp only [enX0_rarestPiece, uX0_rarestPiece_0, uX0_rarestPiece_0o, uX0_rarestPiece_0f, uX0_rarestPiece_1, uX0_rarestPiece_4, uX0_rarestPiece_4o, uX0_rarestPiece_4f, uX0_rarestPiece_5, uX0_rarestPiece_8, uX0_rarestPiece_11, uX0_rarestPiece_12, uX0_rarestPiece_13, uX0_rarestPiece_14, uX0_rarestPiece_15, uX0_rarestPiece_17, uX0_rarestPiece_18, uX0_rarestPiece_20, uX0_rarestPiece_21, uX0_rarestPiece_25, uX0_rarestPiece_25o, uX0_rarestPiece_25f, uX0_rarestPiece_26, uX0_rarestPiece_29, uX0_rarestPiece_32, uX0_rarestPiece_35, uX0_rarestPiece_38, uX0_rarestPiece_40, uX0_rarestPiece_42, uX0_rarestPiece_45, uX0_rarestPiece_46, uX0_rarestPiece_48, uX0_rarestPiece_49, uX0_rarestPiece_50, uX0_rarestPiece_51, uX0_rarestPiece_52, uX0_rarestPiece_53, uX0_rarestPiece_56, uX0_rarestPiece_56o, uX0_rarestPiece_56f, uX0_rarestPiece_57, uX0_rarestPiece_60, uX0_rarestPiece_62, uX0_rarestPiece_63, uX0_rarestPiece_63o, uX0_rarestPiece_63f, uX0_rarestPiece_64, uX0_rarestPiece_67, uX0_rarestPiece_70, uX0_rarestPiece_72, uX0_rarestPiece_75, uX0_rarestPiece_78, uX0_rarestPiece_78o, uX0_rarestPiece_78f, uX0_rarestPiece_79, uX0_rarestPiece_79o, uX0_rarestPiece_79f, uX0_rarestPiece_80, uX0_rarestPiece_83, uX0_rarestPiece_85, uX0_rarestPiece_88, uX0_rarestPiece_92, uX0_rarestPiece_94, uX0_rarestPiece_97, uX0_rarestPiece_99, uX0_rarestPiece_101, uX0_rarestPiece_103, uX0_rarestPiece_105, uX0_rarestPiece_108, uX0_rarestPiece_111, uX0_rarestPiece_113, pq_C_sI, pq_C_sJ, pq_C_sR, pq_C_sA, pq_L_sI, pq_L_sJ, pq_L_sR, pq_L_sA, pq_I_sI, pq_I_sJ, pq_I_sR, pq_I_sA, pq_J_sI, pq_J_sJ, pq_J_sR, pq_J_sA, pq_R_sI, pq_R_sJ, pq_R_sR, pq_R_sA, pq_N_sI, pq_N_sJ, pq_N_sR, pq_N_sA, pq_S_sI, pq_S_sJ, pq_S_sR, pq_S_sA, pz_rf_s, pz_cut_i, pz_cut_r, pz_cut_n, pz_cut_f, pz_cut_u, pz_cut_o, true_and, and_true, true_or, or_true, Option.toList_some, Option.toList_none, List.cons_append, List.nil_append, Nat.add_left_cancel_iff, Nat.left_eq_add, Nat.add_eq_left, Nat.reduceEqDiff, if_true, if_false, ite_true, ite_false, false_and, and_false, false_or, or_false, reduceIte, reduceCtorEq, and_self, z_4, z_5, z_7, z_8, z_10, z_16, z_20, z_64, not_false_eq_true, a1, a2, a6, a7, a8, n1, tr, tc, e20, k1, r0, lg_cmp_eq, hin, nI_clamp (show i < 2 ^ 31 by omega), m2, c_allBlocks tc T I.1.1 hi, c_countHolders R I ha (show i < 64 by omega), nI_1]
      rw [if_neg (nI_ge hi (by omega)), if_neg (show ¬ (64 : Int32) ≤ nI i from nI_ge (b := 64) (by omega) (by decide))]
      by_cases z : sB A 30 (64 * (5 * a + b) + i) = 0 ∨ sB A 20 (64 * a + i) ≠ 0
      · rw [if_pos ((bt_l (by omega)).mpr ((xb i (by omega)).mpr z)), if_pos z]
      · rw [if_neg (fun y => z ((xb i (by omega)).mp ((bt_l (by omega)).mp y))), if_neg z]
        by_cases z2 : wbl A a l c p i = none
        · rw [if_pos (by rw [ball.mpr z2]), if_pos z2]
        · rw [if_neg (show ¬ nI m = nI (2 ^ nbl l c p i - 1) from fun y => z2 (ball.mp ((nI_eq (by omega) (by omega)).mp y))), if_neg z2]
    by_cases z : sB A 30 (64 * (5 * a + b) + i) = 0 ∨ sB A 20 (64 * a + i) ≠ 0
    · have e1 : nxt A a b l c p (i + 1) = nxt A a b l c p i := by
        rw [stp, if_pos]
        rcases z with z | z
        · exact Or.inl z
        · exact Or.inr (Or.inl z)
      refine ⟨_, _, ⟨rfl, v8, rfl⟩, ?_⟩
      rw [e1, hd, if_pos z]
    · by_cases z2 : wbl A a l c p i = none
      · have e1 : nxt A a b l c p (i + 1) = nxt A a b l c p i := by rw [stp, if_pos (Or.inr (Or.inr z2))]
        refine ⟨_, _, ⟨rfl, v8, rfl⟩, ?_⟩
        rw [e1, hd, if_neg z, if_pos z2]
      · obtain ⟨v, ev⟩ : ∃ v, wbl A a l c p i = some v := by
          cases e : wbl A a l c p i with
          | none => exact absurd e z2
          | some v => exact ⟨v, rfl⟩
        have w1 := (wbl_sp (nbl_le I.1.1 hi).1 ev).1
        have cond : ¬ (sB A 30 (64 * (5 * a + b) + i) = 0 ∨ sB A 20 (64 * a + i) ≠ 0 ∨ wbl A a l c p i = none) := by
          intro y
          rcases y with y | y | y
          · exact z (Or.inl y)
          · exact z (Or.inr y)
          · exact z2 y
        refine ⟨_, _, ⟨rfl, .int (nI (hld A a i)), rfl⟩, ?_⟩
        by_cases z3 : hld A a i < (nxt A a b l c p i).2
        · have e1 : nxt A a b l c p (i + 1) = (some v, hld A a i) := by rw [stp, if_neg cond, if_pos z3, ev]
          rw [e1, hd, if_neg z, if_neg z2]
          simp only [enX0_rarestPiece, uX0_rarestPiece_0, uX0_rarestPiece_0o, uX0_rarestPiece_0f, uX0_rarestPiece_1, uX0_rarestPiece_4, uX0_rarestPiece_4o, uX0_rarestPiece_4f, uX0_rarestPiece_5, uX0_rarestPiece_8, uX0_rarestPiece_11, uX0_rarestPiece_12, uX0_rarestPiece_13, uX0_rarestPiece_14, uX0_rarestPiece_15, uX0_rarestPiece_17, uX0_rarestPiece_18, uX0_rarestPiece_20, uX0_rarestPiece_21, uX0_rarestPiece_25, uX0_rarestPiece_25o, uX0_rarestPiece_25f, uX0_rarestPiece_26, uX0_rarestPiece_29, uX0_rarestPiece_32, uX0_rarestPiece_35, uX0_rarestPiece_38, uX0_rarestPiece_40, uX0_rarestPiece_42, uX0_rarestPiece_45, uX0_rarestPiece_46, uX0_rarestPiece_48, uX0_rarestPiece_49, uX0_rarestPiece_50, uX0_rarestPiece_51, uX0_rarestPiece_52, uX0_rarestPiece_53, uX0_rarestPiece_56, uX0_rarestPiece_56o, uX0_rarestPiece_56f, uX0_rarestPiece_57, uX0_rarestPiece_60, uX0_rarestPiece_62, uX0_rarestPiece_63, uX0_rarestPiece_63o, uX0_rarestPiece_63f, uX0_rarestPiece_64, uX0_rarestPiece_67, uX0_rarestPiece_70, uX0_rarestPiece_72, uX0_rarestPiece_75, uX0_rarestPiece_78, uX0_rarestPiece_78o, uX0_rarestPiece_78f, uX0_rarestPiece_79, uX0_rarestPiece_79o, uX0_rarestPiece_79f, uX0_rarestPiece_80, uX0_rarestPiece_83, uX0_rarestPiece_85, uX0_rarestPiece_88, uX0_rarestPiece_90, uX0_rarestPiece_92, uX0_rarestPiece_94, uX0_rarestPiece_97, uX0_rarestPiece_99, uX0_rarestPiece_101, uX0_rarestPiece_103, uX0_rarestPiece_105, uX0_rarestPiece_108, uX0_rarestPiece_111, uX0_rarestPiece_113, pq_C_sI, pq_C_sJ, pq_C_sR, pq_C_sA, pq_L_sI, pq_L_sJ, pq_L_sR, pq_L_sA, pq_I_sI, pq_I_sJ, pq_I_sR, pq_I_sA, pq_J_sI, pq_J_sJ, pq_J_sR, pq_J_sA, pq_R_sI, pq_R_sJ, pq_R_sR, pq_R_sA, pq_N_sI, pq_N_sJ, pq_N_sR, pq_N_sA, pq_S_sI, pq_S_sJ, pq_S_sR, pq_S_sA, pz_rf_s, pz_cut_i, pz_cut_r, pz_cut_n, pz_cut_f, pz_cut_u, pz_cut_o, true_and, and_true, true_or, or_true, Option.toList_some, Option.toList_none, List.cons_append, List.nil_append, Nat.add_left_cancel_iff, Nat.left_eq_add, Nat.add_eq_left, Nat.reduceEqDiff, if_true, if_false, ite_true, ite_false, false_and, and_false, false_or, or_false, reduceIte, reduceCtorEq, and_self, z_4, z_5, z_7, z_8, z_10, z_16, z_20, z_64, not_false_eq_true, nI_1]
          rw [if_neg (show ¬ nI (if (nxt A a b l c p i).1 = none then 5 else (nxt A a b l c p i).2) ≤ nI (hld A a i) from nI_ge (by split <;> omega) (by split <;> omega))]
          show _ ↔ wp _ _ 23 [_, _, _, _, _, .int (nI (v / 16)), .int (nI (hld A a i)), _, _] [] h' Q
          rw [w1]
        · have e1 : nxt A a b l c p (i + 1) = nxt A a b l c p i := by rw [stp, if_neg cond, if_neg z3]
          have ns : ¬ (nxt A a b l c p i).1 = none := fun y => by have := nn y; omega
          rw [e1, hd, if_neg z, if_neg z2]
          simp only [enX0_rarestPiece, uX0_rarestPiece_0, uX0_rarestPiece_0o, uX0_rarestPiece_0f, uX0_rarestPiece_1, uX0_rarestPiece_4, uX0_rarestPiece_4o, uX0_rarestPiece_4f, uX0_rarestPiece_5, uX0_rarestPiece_8, uX0_rarestPiece_11, uX0_rarestPiece_12, uX0_rarestPiece_13, uX0_rarestPiece_14, uX0_rarestPiece_15, uX0_rarestPiece_17, uX0_rarestPiece_18, uX0_rarestPiece_20, uX0_rarestPiece_21, uX0_rarestPiece_25, uX0_rarestPiece_25o, uX0_rarestPiece_25f, uX0_rarestPiece_26, uX0_rarestPiece_29, uX0_rarestPiece_32, uX0_rarestPiece_35, uX0_rarestPiece_38, uX0_rarestPiece_40, uX0_rarestPiece_42, uX0_rarestPiece_45, uX0_rarestPiece_46, uX0_rarestPiece_48, uX0_rarestPiece_49, uX0_rarestPiece_50, uX0_rarestPiece_51, uX0_rarestPiece_52, uX0_rarestPiece_53, uX0_rarestPiece_56, uX0_rarestPiece_56o, uX0_rarestPiece_56f, uX0_rarestPiece_57, uX0_rarestPiece_60, uX0_rarestPiece_62, uX0_rarestPiece_63, uX0_rarestPiece_63o, uX0_rarestPiece_63f, uX0_rarestPiece_64, uX0_rarestPiece_67, uX0_rarestPiece_70, uX0_rarestPiece_72, uX0_rarestPiece_75, uX0_rarestPiece_78, uX0_rarestPiece_78o, uX0_rarestPiece_78f, uX0_rarestPiece_79, uX0_rarestPiece_79o, uX0_rarestPiece_79f, uX0_rarestPiece_80, uX0_rarestPiece_83, uX0_rarestPiece_85, uX0_rarestPiece_88, uX0_rarestPiece_90, uX0_rarestPiece_92, uX0_rarestPiece_94, uX0_rarestPiece_97, uX0_rarestPiece_99, uX0_rarestPiece_101, uX0_rarestPiece_103, uX0_rarestPiece_105, uX0_rarestPiece_108, uX0_rarestPiece_111, uX0_rarestPiece_113, pq_C_sI, pq_C_sJ, pq_C_sR, pq_C_sA, pq_L_sI, pq_L_sJ, pq_L_sR, pq_L_sA, pq_I_sI, pq_I_sJ, pq_I_sR, pq_I_sA, pq_J_sI, pq_J_sJ, pq_J_sR, pq_J_sA, pq_R_sI, pq_R_sJ, pq_R_sR, pq_R_sA, pq_N_sI, pq_N_sJ, pq_N_sR, pq_N_sA, pq_S_sI, pq_S_sJ, pq_S_sR, pq_S_sA, pz_rf_s, pz_cut_i, pz_cut_r, pz_cut_n, pz_cut_f, pz_cut_u, pz_cut_o, true_and, and_true, true_or, or_true, Option.toList_some, Option.toList_none, List.cons_append, List.nil_append, Nat.add_left_cancel_iff, Nat.left_eq_add, Nat.add_eq_left, Nat.reduceEqDiff, if_true, if_false, ite_true, ite_false, false_and, and_false, false_or, or_false, reduceIte, reduceCtorEq, and_self, z_4, z_5, z_7, z_8, z_10, z_16, z_20, z_64, not_false_eq_true, nI_1]
          rw [if_neg ns, if_pos (nI_le (by omega) (by omega))]) _ _ ⟨rfl, .retAddr 0, rfl⟩
  obtain ⟨ls, h', ⟨rfl, v8, rfl⟩, key⟩ := key
  refine Iff.trans (show _ ↔ _ from key) ?_
  rw [uX0_rarestPiece_23]
  simp only [enX0_rarestPiece, uX0_rarestPiece_0, uX0_rarestPiece_0o, uX0_rarestPiece_0f, uX0_rarestPiece_1, uX0_rarestPiece_4, uX0_rarestPiece_4o, uX0_rarestPiece_4f, uX0_rarestPiece_5, uX0_rarestPiece_8, uX0_rarestPiece_11, uX0_rarestPiece_12, uX0_rarestPiece_13, uX0_rarestPiece_14, uX0_rarestPiece_15, uX0_rarestPiece_17, uX0_rarestPiece_18, uX0_rarestPiece_20, uX0_rarestPiece_21, uX0_rarestPiece_25, uX0_rarestPiece_25o, uX0_rarestPiece_25f, uX0_rarestPiece_26, uX0_rarestPiece_29, uX0_rarestPiece_32, uX0_rarestPiece_35, uX0_rarestPiece_38, uX0_rarestPiece_40, uX0_rarestPiece_42, uX0_rarestPiece_45, uX0_rarestPiece_46, uX0_rarestPiece_48, uX0_rarestPiece_49, uX0_rarestPiece_50, uX0_rarestPiece_51, uX0_rarestPiece_52, uX0_rarestPiece_53, uX0_rarestPiece_56, uX0_rarestPiece_56o, uX0_rarestPiece_56f, uX0_rarestPiece_57, uX0_rarestPiece_60, uX0_rarestPiece_62, uX0_rarestPiece_63, uX0_rarestPiece_63o, uX0_rarestPiece_63f, uX0_rarestPiece_64, uX0_rarestPiece_67, uX0_rarestPiece_70, uX0_rarestPiece_72, uX0_rarestPiece_75, uX0_rarestPiece_78, uX0_rarestPiece_78o, uX0_rarestPiece_78f, uX0_rarestPiece_79, uX0_rarestPiece_79o, uX0_rarestPiece_79f, uX0_rarestPiece_80, uX0_rarestPiece_83, uX0_rarestPiece_85, uX0_rarestPiece_88, uX0_rarestPiece_90, uX0_rarestPiece_92, uX0_rarestPiece_94, uX0_rarestPiece_97, uX0_rarestPiece_99, uX0_rarestPiece_101, uX0_rarestPiece_103, uX0_rarestPiece_105, uX0_rarestPiece_108, uX0_rarestPiece_111, uX0_rarestPiece_113, pq_C_sI, pq_C_sJ, pq_C_sR, pq_C_sA, pq_L_sI, pq_L_sJ, pq_L_sR, pq_L_sA, pq_I_sI, pq_I_sJ, pq_I_sR, pq_I_sA, pq_J_sI, pq_J_sJ, pq_J_sR, pq_J_sA, pq_R_sI, pq_R_sJ, pq_R_sR, pq_R_sA, pq_N_sI, pq_N_sJ, pq_N_sR, pq_N_sA, pq_S_sI, pq_S_sJ, pq_S_sR, pq_S_sA, pz_rf_s, pz_cut_i, pz_cut_r, pz_cut_n, pz_cut_f, pz_cut_u, pz_cut_o, true_and, and_true, true_or, or_true, Option.toList_some, Option.toList_none, List.cons_append, List.nil_append, Nat.add_left_cancel_iff, Nat.left_eq_add, Nat.add_eq_left, Nat.reduceEqDiff, if_true, if_false, ite_true, ite_false, false_and, and_false, false_or, or_false, reduceIte, reduceCtorEq, and_self, z_4, z_5, z_7, z_8, z_10, z_16, z_20, z_64, not_false_eq_true, a1, a2, n1, tr, tc, e20]
  rw [if_pos (nI_le (Nat.le_refl _) (by omega))]
end
