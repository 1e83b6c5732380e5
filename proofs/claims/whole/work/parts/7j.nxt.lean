/-! ===== the reference: wantedBlock, next ===== -/
def fstN (f : Nat → Prop) [DecidablePred f] : Nat → Option Nat
  | 0 => none
  | n + 1 => match fstN f n with
    | some i => some i
    | none => if f n then some n else none
theorem fstN_none {f : Nat → Prop} [DecidablePred f] : ∀ n, (∀ j, j < n → ¬ f j) → fstN f n = none
  | 0, _ => rfl
  | n + 1, h => by
    unfold fstN
    rw [fstN_none n (fun j hj => h j (by omega))]
    exact if_neg (h n (by omega))
theorem fstN_some {f : Nat → Prop} [DecidablePred f] {i : Nat} (hf : f i) (h : ∀ j, j < i → ¬ f j) : ∀ n, i < n → fstN f n = some i
  | 0, hn => by omega
  | n + 1, hn => by
    unfold fstN
    by_cases e : i = n
    · subst e
      rw [fstN_none i h]
      exact if_pos hf
    · rw [fstN_some hf h n (by omega)]
theorem fstN_sp {f : Nat → Prop} [DecidablePred f] {i : Nat} : ∀ n, fstN f n = some i → i < n ∧ f i ∧ ∀ j, j < i → ¬ f j := by
  intro n h
  have ex : ∃ k, k < n ∧ f k := by
    apply Classical.byContradiction
    intro q
    rw [fstN_none n (fun j hj z => q ⟨j, hj, z⟩)] at h
    exact absurd h (by simp)
  obtain ⟨k, ⟨k1, k2⟩, k3⟩ := pk_least _ ex
  have e := fstN_some k2 (fun j hj z => k3 j hj ⟨by omega, z⟩) n k1
  rw [e] at h
  have := Option.some.inj h
  subst this
  exact ⟨k1, k2, fun j hj z => k3 j hj ⟨by omega, z⟩⟩
/-- a block that came or is asked of anybody -/
abbrev bsy (A : St) (a v : Nat) : Prop := sB A 21 (1024 * a + v) ≠ 0 ∨ anyN (fun b => v ∈ sL A (5 * a + b)) 5 = true
def wbl (A : St) (a l c p P : Nat) : Option Nat := (fstN (fun k => ¬ bsy A a (16 * P + k)) (nbl l c p P)).map (fun k => 16 * P + k)
def hld (A : St) (a q : Nat) : Nat := cnt (fun c => sB A 24 (5 * a + c) ≠ 0 ∧ sB A 30 (64 * (5 * a + c) + q) ≠ 0) 5
def nxt (A : St) (a b l c p : Nat) : Nat → Option Nat × Nat
  | 0 => (none, 6)
  | q + 1 => if sB A 30 (64 * (5 * a + b) + q) = 0 ∨ sB A 20 (64 * a + q) ≠ 0 ∨ wbl A a l c p q = none then nxt A a b l c p q else if hld A a q < (nxt A a b l c p q).2 then (wbl A a l c p q, hld A a q) else nxt A a b l c p q
theorem anyN_iff {f : Nat → Prop} [DecidablePred f] : ∀ n, anyN f n = true ↔ ∃ i, i < n ∧ f i
  | 0 => by simp [anyN]
  | n + 1 => by
    unfold anyN
    rw [Bool.or_eq_true, anyN_iff n, decide_eq_true_eq]
    constructor
    · rintro (⟨i, h1, h2⟩ | h)
      · exact ⟨i, by omega, h2⟩
      · exact ⟨n, by omega, h⟩
    · rintro ⟨i, h1, h2⟩
      by_cases e : i = n
      · subst e; exact Or.inr h2
      · exact Or.inl ⟨i, by omega, h2⟩
section
variable {d : Nat} {h : PzH} {Q : Option Value → PzH → Prop} {mo : Nat} {g : Tb} {A : St} {l c p : Nat}
theorem ask_iff (R : RM g A []) (O : OA A l c p) {a v : Nat} (ha : a < 4) (hv : v < 2 ^ 31) : (∃ i, i < 20 ∧ g 32 (20 * a + i) = nI v) ↔ anyN (fun b => v ∈ sL A (5 * a + b)) 5 = true := by
  rw [anyN_iff]
  constructor
  · rintro ⟨i, hi, e⟩
    refine ⟨i / 4, by omega, ?_⟩
    have S := R.1.2 O.2.2.2.2.2.2.2 (5 * a + i / 4) (by omega)
    refine S.mem_iff.mp (slo_mem.mpr ⟨i % 4, by omega, ?_, ?_⟩)
    · rw [show 4 * (5 * a + i / 4) + i % 4 = 20 * a + i by omega, e]
      exact nI_pos hv
    · rw [show 4 * (5 * a + i / 4) + i % 4 = 20 * a + i by omega, e, nI_clamp hv]
  · rintro ⟨b, hb, hm⟩
    have S := R.1.2 O.2.2.2.2.2.2.2 (5 * a + b) (by omega)
    obtain ⟨i, i1, i2, i3⟩ := slo_mem.mp (S.mem_iff.mpr hm)
    obtain ⟨w, hw, e⟩ := nI_of i2
    rw [e, nI_clamp hw] at i3
    refine ⟨4 * b + i, by omega, ?_⟩
    rw [show 20 * a + (4 * b + i) = 4 * (5 * a + b) + i by omega, e, i3]
theorem wb_1 (H : MO h mo) {v2 v3 x : Int32} {a v : Nat} (ha : a < 4) (K : ∀ y : Int32, (y = 0 ↔ (x = 0 ∧ ¬ ∃ i, i < 20 ∧ g 32 (20 * a + i) = nI v)) → wp d mX10_wantedBlock 82 [.ref mo, .int (nI a), .int v2, .int v3, .int (nI v), .int y, .int (nI (20 * a + 20))] [] (mh h mo g) Q) : wp d mX10_wantedBlock 40 [.ref mo, .int (nI a), .int v2, .int v3, .int (nI v), .int x, .int (nI (20 * a))] [] (mh h mo g) Q := by
  refine wp_up 20 (fun i ls h' => h' = mh h mo g ∧ ∃ y : Int32, (y = 0 ↔ (x = 0 ∧ ¬ ∃ j, j < i ∧ g 32 (20 * a + j) = nI v)) ∧ ls = [.ref mo, .int (nI a), .int v2, .int v3, .int (nI v), .int y, .int (nI (20 * a + i))]) ?_ ?_ _ _ ⟨rfl, x, by simp, rfl⟩
  · rintro i ls h' hi ⟨rfl, y, hy, rfl⟩ K'
    rw [uX10_wantedBlock_40]
    simp only [enX10_wantedBlock, uX10_wantedBlock_0, uX10_wantedBlock_1, uX10_wantedBlock_2, uX10_wantedBlock_3, uX10_wantedBlock_3o, uX10_wantedBlock_3f, uX10_wantedBlock_4, uX10_wantedBlock_5, uX10_wantedBlock_8, uX10_wantedBlock_11, uX10_wantedBlock_13, uX10_wantedBlock_14, uX10_wantedBlock_15, uX10_wantedBlock_16, uX10_wantedBlock_17, uX10_wantedBlock_19, uX10_wantedBlock_19o, uX10_wantedBlock_19f, uX10_wantedBlock_20, uX10_wantedBlock_23, uX10_wantedBlock_26, uX10_wantedBlock_27, uX10_wantedBlock_28, uX10_wantedBlock_30, uX10_wantedBlock_31, uX10_wantedBlock_32, uX10_wantedBlock_34, uX10_wantedBlock_36, uX10_wantedBlock_37, uX10_wantedBlock_38, uX10_wantedBlock_42, uX10_wantedBlock_44, uX10_wantedBlock_45, uX10_wantedBlock_46, uX10_wantedBlock_48, uX10_wantedBlock_49, uX10_wantedBlock_52, uX10_wantedBlock_54, uX10_wantedBlock_57, uX10_wantedBlock_57o, uX10_wantedBlock_57f, uX10_wantedBlock_58, uX10_wantedBlock_61, uX10_wantedBlock_63, uX10_wantedBlock_64, uX10_wantedBlock_66, uX10_wantedBlock_69, uX10_wantedBlock_70, uX10_wantedBlock_73, uX10_wantedBlock_74, uX10_wantedBlock_76, uX10_wantedBlock_79, uX10_wantedBlock_84, uX10_wantedBlock_87, uX10_wantedBlock_89, uX10_wantedBlock_90, uX10_wantedBlock_93, uX10_wantedBlock_96, uX10_wantedBlock_97, mo_C H, mo_R_asked H, mo_C_asked H, mo_L_asked H, pq_C_sI, pq_C_sJ, pq_C_sR, pq_C_sA, pq_L_sI, pq_L_sJ, pq_L_sR, pq_L_sA, pq_I_sI, pq_I_sJ, pq_I_sR, pq_I_sA, pq_J_sI, pq_J_sJ, pq_J_sR, pq_J_sA, pq_R_sI, pq_R_sJ, pq_R_sR, pq_R_sA, pq_N_sI, pq_N_sJ, pq_N_sR, pq_N_sA, pq_S_sI, pq_S_sJ, pq_S_sR, pq_S_sA, pz_rf_s, pz_cut_i, pz_cut_r, pz_cut_n, pz_cut_f, pz_cut_u, pz_cut_o, true_and, and_true, true_or, or_true, Option.toList_some, Option.toList_none, List.cons_append, List.nil_append, Nat.add_left_cancel_iff, Nat.left_eq_add, Nat.add_eq_left, Nat.reduceEqDiff, if_true, if_false, ite_true, ite_false, false_and, and_false, false_or, or_false, reduceIte, reduceCtorEq, and_self, mh_C, mh_L, mh_R, mh_J, mh_I0, mh_I, mh_Ir, mh_sI0, mh_sI, mh_sA, gu_11, gu_22, gu_r, gu_21s, gu_21c, gu_22s, gu_11s, gu_11c, gu_22c, Nat.reduceLeDiff, Nat.reduceLT, ne_eq, not_false_eq_true, not_true_eq_false, Nat.reduceEqDiff, Nat.lt_irrefl, eq_self, z_4, z_5, z_7, z_8, z_10, z_16, z_20, z_64, nI_c20, pk_mul, nI_add]
    rw [if_neg (nI_ge (show 20 * a + i < 20 * a + 20 by omega) (by omega))]
    simp (disch := omega) only [nI_clamp, pz_in_nI, true_and, nI_1]
    have ext : (∃ j, j < i + 1 ∧ g 32 (20 * a + j) = nI v) ↔ ((∃ j, j < i ∧ g 32 (20 * a + j) = nI v) ∨ g 32 (20 * a + i) = nI v) := by
      constructor
      · rintro ⟨j, j1, j2⟩
        by_cases e : j = i
        · subst e; exact Or.inr j2
        · exact Or.inl ⟨j, by omega, j2⟩
      · rintro (⟨j, j1, j2⟩ | z)
        · exact ⟨j, by omega, j2⟩
        · exact ⟨i, by omega, z⟩
    by_cases qy : y = 0
    · rw [if_neg (fun z => z qy)]
      obtain ⟨hx, hn⟩ := hy.mp qy
      by_cases q : g 32 (20 * a + i) = nI v
      · rw [if_neg (fun z => z q)]
        refine K' _ _ ⟨rfl, 1, ?_, rfl⟩
        rw [ext]
        simp [q]
      · rw [if_pos q]
        refine K' _ _ ⟨rfl, 0, ?_, rfl⟩
        rw [ext]
        simp [hx, q]
        simpa using hn
    · rw [if_pos qy]
      refine K' _ _ ⟨rfl, 1, ?_, rfl⟩
      rw [ext]
      constructor
      · intro z; exact absurd z (by decide)
      · rintro ⟨z1, z2⟩
        exact absurd (hy.mpr ⟨z1, fun z => z2 (Or.inl z)⟩) qy
  · rintro ls h' ⟨rfl, y, hy, rfl⟩
    rw [uX10_wantedBlock_40]
    simp only [enX10_wantedBlock, uX10_wantedBlock_0, uX10_wantedBlock_1, uX10_wantedBlock_2, uX10_wantedBlock_3, uX10_wantedBlock_3o, uX10_wantedBlock_3f, uX10_wantedBlock_4, uX10_wantedBlock_5, uX10_wantedBlock_8, uX10_wantedBlock_11, uX10_wantedBlock_13, uX10_wantedBlock_14, uX10_wantedBlock_15, uX10_wantedBlock_16, uX10_wantedBlock_17, uX10_wantedBlock_19, uX10_wantedBlock_19o, uX10_wantedBlock_19f, uX10_wantedBlock_20, uX10_wantedBlock_23, uX10_wantedBlock_26, uX10_wantedBlock_27, uX10_wantedBlock_28, uX10_wantedBlock_30, uX10_wantedBlock_31, uX10_wantedBlock_32, uX10_wantedBlock_34, uX10_wantedBlock_36, uX10_wantedBlock_37, uX10_wantedBlock_38, uX10_wantedBlock_42, uX10_wantedBlock_44, uX10_wantedBlock_45, uX10_wantedBlock_46, uX10_wantedBlock_48, uX10_wantedBlock_49, uX10_wantedBlock_52, uX10_wantedBlock_54, uX10_wantedBlock_57, uX10_wantedBlock_57o, uX10_wantedBlock_57f, uX10_wantedBlock_58, uX10_wantedBlock_61, uX10_wantedBlock_63, uX10_wantedBlock_64, uX10_wantedBlock_66, uX10_wantedBlock_69, uX10_wantedBlock_70, uX10_wantedBlock_73, uX10_wantedBlock_74, uX10_wantedBlock_76, uX10_wantedBlock_79, uX10_wantedBlock_84, uX10_wantedBlock_87, uX10_wantedBlock_89, uX10_wantedBlock_90, uX10_wantedBlock_93, uX10_wantedBlock_96, uX10_wantedBlock_97, mo_C H, mo_R_asked H, mo_C_asked H, mo_L_asked H, pq_C_sI, pq_C_sJ, pq_C_sR, pq_C_sA, pq_L_sI, pq_L_sJ, pq_L_sR, pq_L_sA, pq_I_sI, pq_I_sJ, pq_I_sR, pq_I_sA, pq_J_sI, pq_J_sJ, pq_J_sR, pq_J_sA, pq_R_sI, pq_R_sJ, pq_R_sR, pq_R_sA, pq_N_sI, pq_N_sJ, pq_N_sR, pq_N_sA, pq_S_sI, pq_S_sJ, pq_S_sR, pq_S_sA, pz_rf_s, pz_cut_i, pz_cut_r, pz_cut_n, pz_cut_f, pz_cut_u, pz_cut_o, true_and, and_true, true_or, or_true, Option.toList_some, Option.toList_none, List.cons_append, List.nil_append, Nat.add_left_cancel_iff, Nat.left_eq_add, Nat.add_eq_left, Nat.reduceEqDiff, if_true, if_false, ite_true, ite_false, false_and, and_false, false_or, or_false, reduceIte, reduceCtorEq, and_self, mh_C, mh_L, mh_R, mh_J, mh_I0, mh_I, mh_Ir, mh_sI0, mh_sI, mh_sA, gu_11, gu_22, gu_r, gu_21s, gu_21c, gu_22s, gu_11s, gu_11c, gu_22c, Nat.reduceLeDiff, Nat.reduceLT, ne_eq, not_false_eq_true, not_true_eq_false, Nat.reduceEqDiff, Nat.lt_irrefl, eq_self, z_4, z_5, z_7, z_8, z_10, z_16, z_20, z_64, nI_c20, pk_mul, nI_add]
    rw [if_pos (nI_le (Nat.le_refl _) (by omega))]
    exact K y hy
theorem g_wantedBlock (H : MO h mo) (R : RM g A []) (O : OA A l c p) {a P : Nat} (ha : a < 4) (hP : P < p) (K : Q (some (.int (kyOf (wbl A a l c p P)))) (mh h mo g)) : pz_M (d + 3) mX10_wantedBlock [.ref mo, .int (nI a), .int (nI P)] (mh h mo g) Q := by
  have F := RM_fl R
  have T := O.1
  have t5 := T.2.2.2.2.1
  have t6 := T.2.2.2.2.2.1
  obtain ⟨u1, u2, u3, u4⟩ := TN_i T hP
  have hb : nbl l c p P ≤ 16 := by unfold nbl; omega
  simp only [enX10_wantedBlock, uX10_wantedBlock_0, uX10_wantedBlock_1, uX10_wantedBlock_3, uX10_wantedBlock_3o, uX10_wantedBlock_3f, uX10_wantedBlock_4, uX10_wantedBlock_5, uX10_wantedBlock_8, uX10_wantedBlock_11, uX10_wantedBlock_13, uX10_wantedBlock_14, uX10_wantedBlock_15, uX10_wantedBlock_16, uX10_wantedBlock_17, uX10_wantedBlock_19, uX10_wantedBlock_19o, uX10_wantedBlock_19f, uX10_wantedBlock_20, uX10_wantedBlock_23, uX10_wantedBlock_26, uX10_wantedBlock_27, uX10_wantedBlock_28, uX10_wantedBlock_30, uX10_wantedBlock_31, uX10_wantedBlock_32, uX10_wantedBlock_34, uX10_wantedBlock_36, uX10_wantedBlock_37, uX10_wantedBlock_38, uX10_wantedBlock_40, uX10_wantedBlock_42, uX10_wantedBlock_44, uX10_wantedBlock_45, uX10_wantedBlock_46, uX10_wantedBlock_48, uX10_wantedBlock_49, uX10_wantedBlock_52, uX10_wantedBlock_54, uX10_wantedBlock_57, uX10_wantedBlock_57o, uX10_wantedBlock_57f, uX10_wantedBlock_58, uX10_wantedBlock_61, uX10_wantedBlock_63, uX10_wantedBlock_64, uX10_wantedBlock_66, uX10_wantedBlock_69, uX10_wantedBlock_70, uX10_wantedBlock_73, uX10_wantedBlock_74, uX10_wantedBlock_76, uX10_wantedBlock_79, uX10_wantedBlock_82, uX10_wantedBlock_84, uX10_wantedBlock_87, uX10_wantedBlock_89, uX10_wantedBlock_90, uX10_wantedBlock_93, uX10_wantedBlock_96, uX10_wantedBlock_97, mo_C H, mo_R_asked H, mo_C_asked H, mo_L_asked H, pq_C_sI, pq_C_sJ, pq_C_sR, pq_C_sA, pq_L_sI, pq_L_sJ, pq_L_sR, pq_L_sA, pq_I_sI, pq_I_sJ, pq_I_sR, pq_I_sA, pq_J_sI, pq_J_sJ, pq_J_sR, pq_J_sA, pq_R_sI, pq_R_sJ, pq_R_sR, pq_R_sA, pq_N_sI, pq_N_sJ, pq_N_sR, pq_N_sA, pq_S_sI, pq_S_sJ, pq_S_sR, pq_S_sA, pz_rf_s, pz_cut_i, pz_cut_r, pz_cut_n, pz_cut_f, pz_cut_u, pz_cut_o, true_and, and_true, true_or, or_true, Option.toList_some, Option.toList_none, List.cons_append, List.nil_append, Nat.add_left_cancel_iff, Nat.left_eq_add, Nat.add_eq_left, Nat.reduceEqDiff, if_true, if_false, ite_true, ite_false, false_and, and_false, false_or, or_false, reduceIte, reduceCtorEq, and_self, mh_C, mh_L, mh_R, mh_J, mh_I0, mh_I, mh_Ir, mh_sI0, mh_sI, mh_sA, gu_11, gu_22, gu_r, gu_21s, gu_21c, gu_22s, gu_11s, gu_11c, gu_22c, Nat.reduceLeDiff, Nat.reduceLT, ne_eq, not_false_eq_true, not_true_eq_false, Nat.reduceEqDiff, Nat.lt_irrefl, eq_self, z_4, z_5, z_7, z_8, z_10, z_16, z_20, z_64]
  refine wp_up (nbl l c p P) (fun i ls h' => h' = mh h mo g ∧ (∀ j, j < i → bsy A a (16 * P + j)) ∧ ∃ v4 v5 v6, pz_cut v4 = v4 ∧ pz_cut v5 = v5 ∧ ls = [.ref mo, .int (nI a), .int (nI P), .int (nI i), v4, v5, v6]) ?_ ?_ _ _ ⟨rfl, fun j hj => by omega, .retAddr 0, .retAddr 0, .retAddr 0, rfl, rfl, rfl⟩
  · rintro i ls h' hi ⟨rfl, hbs, v4, v5, v6, c4, c5, rfl⟩ K'
    rw [uX10_wantedBlock_2]
    simp only [enX10_wantedBlock, uX10_wantedBlock_0, uX10_wantedBlock_1, uX10_wantedBlock_3, uX10_wantedBlock_3o, uX10_wantedBlock_3f, uX10_wantedBlock_4, uX10_wantedBlock_5, uX10_wantedBlock_8, uX10_wantedBlock_11, uX10_wantedBlock_13, uX10_wantedBlock_14, uX10_wantedBlock_15, uX10_wantedBlock_16, uX10_wantedBlock_17, uX10_wantedBlock_19, uX10_wantedBlock_19o, uX10_wantedBlock_19f, uX10_wantedBlock_20, uX10_wantedBlock_23, uX10_wantedBlock_26, uX10_wantedBlock_27, uX10_wantedBlock_28, uX10_wantedBlock_30, uX10_wantedBlock_31, uX10_wantedBlock_32, uX10_wantedBlock_34, uX10_wantedBlock_36, uX10_wantedBlock_37, uX10_wantedBlock_38, uX10_wantedBlock_42, uX10_wantedBlock_44, uX10_wantedBlock_45, uX10_wantedBlock_46, uX10_wantedBlock_48, uX10_wantedBlock_49, uX10_wantedBlock_52, uX10_wantedBlock_54, uX10_wantedBlock_57, uX10_wantedBlock_57o, uX10_wantedBlock_57f, uX10_wantedBlock_58, uX10_wantedBlock_61, uX10_wantedBlock_63, uX10_wantedBlock_64, uX10_wantedBlock_66, uX10_wantedBlock_69, uX10_wantedBlock_70, uX10_wantedBlock_73, uX10_wantedBlock_74, uX10_wantedBlock_76, uX10_wantedBlock_79, uX10_wantedBlock_82, uX10_wantedBlock_84, uX10_wantedBlock_87, uX10_wantedBlock_89, uX10_wantedBlock_90, uX10_wantedBlock_93, uX10_wantedBlock_96, uX10_wantedBlock_97, mo_C H, mo_R_came H, mo_C_came H, mo_L_came H, pq_C_sI, pq_C_sJ, pq_C_sR, pq_C_sA, pq_L_sI, pq_L_sJ, pq_L_sR, pq_L_sA, pq_I_sI, pq_I_sJ, pq_I_sR, pq_I_sA, pq_J_sI, pq_J_sJ, pq_J_sR, pq_J_sA, pq_R_sI, pq_R_sJ, pq_R_sR, pq_R_sA, pq_N_sI, pq_N_sJ, pq_N_sR, pq_N_sA, pq_S_sI, pq_S_sJ, pq_S_sR, pq_S_sA, pz_rf_s, pz_cut_i, pz_cut_r, pz_cut_n, pz_cut_f, pz_cut_u, pz_cut_o, true_and, and_true, true_or, or_true, Option.toList_some, Option.toList_none, List.cons_append, List.nil_append, Nat.add_left_cancel_iff, Nat.left_eq_add, Nat.add_eq_left, Nat.reduceEqDiff, if_true, if_false, ite_true, ite_false, false_and, and_false, false_or, or_false, reduceIte, reduceCtorEq, and_self, mh_C, mh_L, mh_R, mh_J, mh_I0, mh_I, mh_Ir, mh_sI0, mh_sI, mh_sA, gu_11, gu_22, gu_r, gu_21s, gu_21c, gu_22s, gu_11s, gu_11c, gu_22c, Nat.reduceLeDiff, Nat.reduceLT, ne_eq, not_false_eq_true, not_true_eq_false, Nat.reduceEqDiff, Nat.lt_irrefl, eq_self, z_4, z_5, z_7, z_8, z_10, z_16, z_20, z_64, g_blocks H F T hP, FLE_row F (show 21 ∈ FLr by decide), c4, c5]
    rw [if_neg (nI_ge hi (by omega))]
    simp (disch := omega) only [show (16 : Int32) = nI 16 from rfl, show (1024 : Int32) = nI 1024 from rfl, nI_c20, pk_mul, nI_add, nI_clamp, pz_in_nI, true_and]
    refine wb_1 H ha (fun y hy => ?_)
    simp only [enX10_wantedBlock, uX10_wantedBlock_0, uX10_wantedBlock_1, uX10_wantedBlock_3, uX10_wantedBlock_3o, uX10_wantedBlock_3f, uX10_wantedBlock_4, uX10_wantedBlock_5, uX10_wantedBlock_8, uX10_wantedBlock_11, uX10_wantedBlock_13, uX10_wantedBlock_14, uX10_wantedBlock_15, uX10_wantedBlock_16, uX10_wantedBlock_17, uX10_wantedBlock_19, uX10_wantedBlock_19o, uX10_wantedBlock_19f, uX10_wantedBlock_20, uX10_wantedBlock_23, uX10_wantedBlock_26, uX10_wantedBlock_27, uX10_wantedBlock_28, uX10_wantedBlock_30, uX10_wantedBlock_31, uX10_wantedBlock_32, uX10_wantedBlock_34, uX10_wantedBlock_36, uX10_wantedBlock_37, uX10_wantedBlock_38, uX10_wantedBlock_42, uX10_wantedBlock_44, uX10_wantedBlock_45, uX10_wantedBlock_46, uX10_wantedBlock_48, uX10_wantedBlock_49, uX10_wantedBlock_52, uX10_wantedBlock_54, uX10_wantedBlock_57, uX10_wantedBlock_57o, uX10_wantedBlock_57f, uX10_wantedBlock_58, uX10_wantedBlock_61, uX10_wantedBlock_63, uX10_wantedBlock_64, uX10_wantedBlock_66, uX10_wantedBlock_69, uX10_wantedBlock_70, uX10_wantedBlock_73, uX10_wantedBlock_74, uX10_wantedBlock_76, uX10_wantedBlock_79, uX10_wantedBlock_82, uX10_wantedBlock_84, uX10_wantedBlock_87, uX10_wantedBlock_89, uX10_wantedBlock_90, uX10_wantedBlock_93, uX10_wantedBlock_96, uX10_wantedBlock_97, mo_C H, mo_R_came H, mo_C_came H, mo_L_came H, pq_C_sI, pq_C_sJ, pq_C_sR, pq_C_sA, pq_L_sI, pq_L_sJ, pq_L_sR, pq_L_sA, pq_I_sI, pq_I_sJ, pq_I_sR, pq_I_sA, pq_J_sI, pq_J_sJ, pq_J_sR, pq_J_sA, pq_R_sI, pq_R_sJ, pq_R_sR, pq_R_sA, pq_N_sI, pq_N_sJ, pq_N_sR, pq_N_sA, pq_S_sI, pq_S_sJ, pq_S_sR, pq_S_sA, pz_rf_s, pz_cut_i, pz_cut_r, pz_cut_n, pz_cut_f, pz_cut_u, pz_cut_o, true_and, and_true, true_or, or_true, Option.toList_some, Option.toList_none, List.cons_append, List.nil_append, Nat.add_left_cancel_iff, Nat.left_eq_add, Nat.add_eq_left, Nat.reduceEqDiff, if_true, if_false, ite_true, ite_false, false_and, and_false, false_or, or_false, reduceIte, reduceCtorEq, and_self, mh_C, mh_L, mh_R, mh_J, mh_I0, mh_I, mh_Ir, mh_sI0, mh_sI, mh_sA, gu_11, gu_22, gu_r, gu_21s, gu_21c, gu_22s, gu_11s, gu_11c, gu_22c, Nat.reduceLeDiff, Nat.reduceLT, ne_eq, not_false_eq_true, not_true_eq_false, Nat.reduceEqDiff, Nat.lt_irrefl, eq_self, z_4, z_5, z_7, z_8, z_10, z_16, z_20, z_64]
    have eb : y = 0 ↔ ¬ bsy A a (16 * P + i) := by
      rw [hy, ask_iff R O ha (by omega)]
      unfold bsy
      constructor
      · rintro ⟨z1, z2⟩ (z | z)
        · exact z z1
        · exact z2 z
      · intro z
        exact ⟨Classical.byContradiction (fun q => z (Or.inl q)), fun q => z (Or.inr q)⟩
    by_cases q : y = 0
    · rw [if_neg (fun z => z q)]
      have e : wbl A a l c p P = some (16 * P + i) := by
        unfold wbl
        rw [fstN_some (i := i) (eb.mp q) (fun j hj z => z (hbs j hj)) _ hi]
        rfl
      rw [e] at K
      exact K
    · rw [if_pos q]
      simp only [nI_1]
      refine K' _ _ ⟨rfl, fun j hj => ?_, _, _, _, rfl, rfl, rfl⟩
      by_cases ej : j = i
      · subst ej
        exact Classical.byContradiction (fun z => q (eb.mpr z))
      · exact hbs j (by omega)
  · rintro ls h' ⟨rfl, hbs, v4, v5, v6, c4, c5, rfl⟩
    rw [uX10_wantedBlock_2]
    simp only [enX10_wantedBlock, uX10_wantedBlock_0, uX10_wantedBlock_1, uX10_wantedBlock_3, uX10_wantedBlock_3o, uX10_wantedBlock_3f, uX10_wantedBlock_4, uX10_wantedBlock_5, uX10_wantedBlock_8, uX10_wantedBlock_11, uX10_wantedBlock_13, uX10_wantedBlock_14, uX10_wantedBlock_15, uX10_wantedBlock_16, uX10_wantedBlock_17, uX10_wantedBlock_19, uX10_wantedBlock_19o, uX10_wantedBlock_19f, uX10_wantedBlock_20, uX10_wantedBlock_23, uX10_wantedBlock_26, uX10_wantedBlock_27, uX10_wantedBlock_28, uX10_wantedBlock_30, uX10_wantedBlock_31, uX10_wantedBlock_32, uX10_wantedBlock_34, uX10_wantedBlock_36, uX10_wantedBlock_37, uX10_wantedBlock_38, uX10_wantedBlock_42, uX10_wantedBlock_44, uX10_wantedBlock_45, uX10_wantedBlock_46, uX10_wantedBlock_48, uX10_wantedBlock_49, uX10_wantedBlock_52, uX10_wantedBlock_54, uX10_wantedBlock_57, uX10_wantedBlock_57o, uX10_wantedBlock_57f, uX10_wantedBlock_58, uX10_wantedBlock_61, uX10_wantedBlock_63, uX10_wantedBlock_64, uX10_wantedBlock_66, uX10_wantedBlock_69, uX10_wantedBlock_70, uX10_wantedBlock_73, uX10_wantedBlock_74, uX10_wantedBlock_76, uX10_wantedBlock_79, uX10_wantedBlock_82, uX10_wantedBlock_84, uX10_wantedBlock_87, uX10_wantedBlock_89, uX10_wantedBlock_90, uX10_wantedBlock_93, uX10_wantedBlock_96, uX10_wantedBlock_97, mo_C H, mo_R_came H, mo_C_came H, mo_L_came H, pq_C_sI, pq_C_sJ, pq_C_sR, pq_C_sA, pq_L_sI, pq_L_sJ, pq_L_sR, pq_L_sA, pq_I_sI, pq_I_sJ, pq_I_sR, pq_I_sA, pq_J_sI, pq_J_sJ, pq_J_sR, pq_J_sA, pq_R_sI, pq_R_sJ, pq_R_sR, pq_R_sA, pq_N_sI, pq_N_sJ, pq_N_sR, pq_N_sA, pq_S_sI, pq_S_sJ, pq_S_sR, pq_S_sA, pz_rf_s, pz_cut_i, pz_cut_r, pz_cut_n, pz_cut_f, pz_cut_u, pz_cut_o, true_and, and_true, true_or, or_true, Option.toList_some, Option.toList_none, List.cons_append, List.nil_append, Nat.add_left_cancel_iff, Nat.left_eq_add, Nat.add_eq_left, Nat.reduceEqDiff, if_true, if_false, ite_true, ite_false, false_and, and_false, false_or, or_false, reduceIte, reduceCtorEq, and_self, mh_C, mh_L, mh_R, mh_J, mh_I0, mh_I, mh_Ir, mh_sI0, mh_sI, mh_sA, gu_11, gu_22, gu_r, gu_21s, gu_21c, gu_22s, gu_11s, gu_11c, gu_22c, Nat.reduceLeDiff, Nat.reduceLT, ne_eq, not_false_eq_true, not_true_eq_false, Nat.reduceEqDiff, Nat.lt_irrefl, eq_self, z_4, z_5, z_7, z_8, z_10, z_16, z_20, z_64, g_blocks H F T hP]
    rw [if_pos (nI_le (Nat.le_refl _) (by omega))]
    have e : wbl A a l c p P = none := by
      unfold wbl
      rw [fstN_none _ (fun j hj z => z (hbs j hj))]
      rfl
    rw [e] at K
    exact K
end
