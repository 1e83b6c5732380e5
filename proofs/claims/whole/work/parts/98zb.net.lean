/-! ===== constructors: the net ===== -/
def NB (h : PzH) : Prop := NET h ∧ pz_R h 23 3 = some 28 ∧ ROW h 26 27 68 [] ∧ TF h 28
def KFs (h : PzH) (k : Nat) : Prop := ∀ j, j < k → pz_R h 24 j = some (36 + 4 * j) ∧ KF h (36 + 4 * j)
def LFs (h : PzH) (k : Nat) : Prop := ∀ j, j < k → j % 6 ≠ 0 → pz_R h 25 j = some (lkA j) ∧ LF h (lkA j) (j / 5) (j % 5)
def nLk (k : Nat) : Nat := k - (k + 5) / 6
section
variable {d : Nat} {h h1 : PzH} {Q : Option Value → PzH → Prop} {y k : Nat}
theorem NB_CX (B : NB h) (f : CX y h h1) (hy : 36 ≤ y) : NB h1 := by
  obtain ⟨⟨n1, n2, n3, n4⟩, r, w, T⟩ := B
  obtain ⟨p1, p2, p3, p4, p5⟩ := f.1 23 (by omega)
  obtain ⟨a1, a2, _⟩ := f.1 24 (by omega)
  obtain ⟨b1, b2, _⟩ := f.1 25 (by omega)
  refine ⟨?_, by rw [p5]; exact r, ROW_CX w f (by omega) (by omega), TF_CX T f (by omega)⟩
  unfold NET
  rw [p1, p5, a1, a2, b1, b2]
  exact ⟨n1, n2, n3, n4⟩
theorem NB_sR {x : Nat} {v : Option Nat} (B : NB h) (hx : x = 24 ∨ x = 25) : NB (pz_sR h x k v) := by
  obtain ⟨⟨n1, n2, n3, n4⟩, r, w, T⟩ := B
  refine ⟨?_, ?_, ROW_sR w (by omega), TF_sR T (by omega)⟩
  · unfold NET
    simp only [pq_R_sR, pq_C_sR, pq_L_sR, show ¬ (23 = x) by omega, false_and, if_false]
    exact ⟨n1, n2, n3, n4⟩
  · rw [pq_R_sR, if_neg (by omega)]; exact r
theorem KFs_CX (B : KFs h k) (f : CX y h h1) (hy : 36 + 4 * k ≤ y) : KFs h1 k := fun j hj => by
  obtain ⟨r, K⟩ := B j hj
  exact ⟨by rw [(f.1 24 (by omega)).2.2.2.2]; exact r, KF_CX K f (by omega)⟩
theorem lkA_lt {j : Nat} (hk : k ≤ 25) (hj : j < k) (h6 : j % 6 ≠ 0) : lkA j + 4 ≤ 52 + 4 * nLk k := by
  unfold lkA nLk
  omega
theorem LFs_CX (B : LFs h k) (f : CX y h h1) (hk : k ≤ 25) (hy : 52 + 4 * nLk k ≤ y) : LFs h1 k := fun j hj h6 => by
  obtain ⟨r, K⟩ := B j hj h6
  have := lkA_lt hk hj h6
  exact ⟨by rw [(f.1 25 (by omega)).2.2.2.2]; exact r, LF_CX K f (by omega)⟩
/-- the links -/
theorem net_2 (B : NB h) (C : KFs h 4) (hN : pz_N h = 52) (K : ∀ h', CX 23 h h' → pz_N h' = 132 → pz_S h' = pz_S h + 80400 → NB h' → KFs h' 4 → LFs h' 25 → Q none h') : wp (d + 2) mX5_init 73 [.ref 23, .int 0] [] h Q := by
  refine wp_up 25 (fun i ls h' => ls = [.ref 23, .int (nI i)] ∧ CX 23 h h' ∧ pz_N h' = 52 + 4 * nLk i ∧ pz_S h' = pz_S h + 4020 * nLk i ∧ NB h' ∧ KFs h' 4 ∧ LFs h' i) ?_ ?_ _ _ ⟨rfl, CX_refl, hN, rfl, B, C, fun j hj => absurd hj (by omega)⟩
  · rintro i ls h' hi ⟨rfl, F, n, s, B', C', L'⟩ K'
    have ed : nI i / 5 = nI (i / 5) := pk_div (a := i) (d := 5) (by omega) (by decide) (by decide)
    have er : nI i - nI (i / 5) * 5 = nI (i % 5) := by
      have := pk_rem (a := i) (d := 5) (by omega) (by decide) (by decide)
      rw [← ed]
      exact this
    obtain ⟨⟨n1, ⟨n2, n3, n4⟩, ⟨n5, n6, n7⟩, n8⟩, _⟩ := id B'
    rw [uX5_init_73]
    simp only [enX5_init, uX5_init_0, uX5_init_0o, uX5_init_0f, uX5_init_1, uX5_init_4, uX5_init_4o, uX5_init_4f, uX5_init_5, uX5_init_6, uX5_init_9, uX5_init_9o, uX5_init_12, uX5_init_12o, uX5_init_12f, uX5_init_13, uX5_init_15, uX5_init_18, uX5_init_18o, uX5_init_21, uX5_init_21o, uX5_init_21f, uX5_init_22, uX5_init_25, uX5_init_26, uX5_init_28, uX5_init_31, uX5_init_31o, uX5_init_34, uX5_init_34o, uX5_init_34f, uX5_init_35, uX5_init_38, uX5_init_39, uX5_init_42, uX5_init_42o, uX5_init_45, uX5_init_46, uX5_init_48, uX5_init_49, uX5_init_52, uX5_init_52o, uX5_init_52f, uX5_init_53, uX5_init_56, uX5_init_57, uX5_init_60, uX5_init_61, uX5_init_64, uX5_init_65, uX5_init_68, uX5_init_71, uX5_init_72, uX5_init_74, uX5_init_76, uX5_init_79, uX5_init_80, uX5_init_81, uX5_init_82, uX5_init_83, uX5_init_84, uX5_init_85, uX5_init_88, uX5_init_88o, uX5_init_88f, uX5_init_89, uX5_init_92, uX5_init_93, uX5_init_96, uX5_init_97, uX5_init_98, uX5_init_99, uX5_init_100, uX5_init_101, uX5_init_102, uX5_init_103, uX5_init_106, uX5_init_107, uX5_init_110, uX5_init_113, pq_C_sI, pq_C_sJ, pq_C_sR, pq_C_sA, pq_L_sI, pq_L_sJ, pq_L_sR, pq_L_sA, pq_I_sI, pq_I_sJ, pq_I_sR, pq_I_sA, pq_J_sI, pq_J_sJ, pq_J_sR, pq_J_sA, pq_R_sI, pq_R_sJ, pq_R_sR, pq_R_sA, pq_N_sI, pq_N_sJ, pq_N_sR, pq_N_sA, pq_S_sI, pq_S_sJ, pq_S_sR, pq_S_sA, pz_rf_s, pz_cut_i, pz_cut_r, pz_cut_n, pz_cut_f, pz_cut_u, pz_cut_o, true_and, and_true, true_or, or_true, Option.toList_some, Option.toList_none, List.cons_append, List.nil_append, Nat.add_left_cancel_iff, Nat.left_eq_add, Nat.add_eq_left, Nat.reduceEqDiff, if_true, if_false, ite_true, ite_false, false_and, and_false, false_or, or_false, reduceIte, reduceCtorEq, and_self, z_4, z_5, z_7, z_8, z_10, z_16, z_20, z_64, not_false_eq_true, ed, er, n1, n5, nI_1]
    rw [if_neg (show ¬ (25 : Int32) ≤ nI i from nI_ge (b := 25) hi (by decide))]
    by_cases h6 : i % 6 = 0
    · rw [if_pos (by congr 1; omega)]
      have e : nLk (i + 1) = nLk i := by unfold nLk; omega
      refine K' _ _ ⟨rfl, F, by rw [e]; exact n, by rw [e]; exact s, B', C', fun j hj hj6 => L' j (by rcases Nat.lt_or_ge j i with z | z; exact z; exact absurd (show j = i by omega) (fun q => by subst q; exact hj6 h6)) hj6⟩
    · rw [if_neg (fun z => by have := (nI_eq (by omega) (by omega)).mp z; omega)]
      have e : nLk (i + 1) = nLk i + 1 := by unfold nLk; omega
      have el : lkA i = 52 + 4 * nLk i := by unfold lkA nLk; omega
      rw [n, ← el]
      refine i_lnk (d := d) (c := lkA i) (a := i / 5) (b := i % 5) (new_C (by rw [n, el])) (by rw [pq_N_new, n, el]) (fun h2 F2 m2 s2 T2 => ?_)
      have F2' : CX (lkA i) h' h2 := CX_trans (CX_new (by omega)) F2
      have B2 := NB_CX B' F2' (by omega)
      have C2 := KFs_CX C' F2' (by omega)
      have L2 := LFs_CX L' F2' (by omega) (by omega)
      have s2' : pz_S h2 = pz_S h' + 14 + 4006 := s2
      have t1 := T2.1.1
      obtain ⟨_, ⟨_, _, _⟩, ⟨_, m6, m7⟩, _⟩ := B2.1
      simp only [enX5_init, uX5_init_0, uX5_init_0o, uX5_init_0f, uX5_init_1, uX5_init_4, uX5_init_4o, uX5_init_4f, uX5_init_5, uX5_init_6, uX5_init_9, uX5_init_9o, uX5_init_12, uX5_init_12o, uX5_init_12f, uX5_init_13, uX5_init_15, uX5_init_18, uX5_init_18o, uX5_init_21, uX5_init_21o, uX5_init_21f, uX5_init_22, uX5_init_25, uX5_init_26, uX5_init_28, uX5_init_31, uX5_init_31o, uX5_init_34, uX5_init_34o, uX5_init_34f, uX5_init_35, uX5_init_38, uX5_init_39, uX5_init_42, uX5_init_42o, uX5_init_45, uX5_init_46, uX5_init_48, uX5_init_49, uX5_init_52, uX5_init_52o, uX5_init_52f, uX5_init_53, uX5_init_56, uX5_init_57, uX5_init_60, uX5_init_61, uX5_init_64, uX5_init_65, uX5_init_68, uX5_init_71, uX5_init_72, uX5_init_74, uX5_init_76, uX5_init_79, uX5_init_80, uX5_init_81, uX5_init_82, uX5_init_83, uX5_init_84, uX5_init_85, uX5_init_88, uX5_init_88o, uX5_init_88f, uX5_init_89, uX5_init_92, uX5_init_93, uX5_init_96, uX5_init_97, uX5_init_98, uX5_init_99, uX5_init_100, uX5_init_101, uX5_init_102, uX5_init_103, uX5_init_106, uX5_init_107, uX5_init_110, uX5_init_113, pq_C_sI, pq_C_sJ, pq_C_sR, pq_C_sA, pq_L_sI, pq_L_sJ, pq_L_sR, pq_L_sA, pq_I_sI, pq_I_sJ, pq_I_sR, pq_I_sA, pq_J_sI, pq_J_sJ, pq_J_sR, pq_J_sA, pq_R_sI, pq_R_sJ, pq_R_sR, pq_R_sA, pq_N_sI, pq_N_sJ, pq_N_sR, pq_N_sA, pq_S_sI, pq_S_sJ, pq_S_sR, pq_S_sA, pz_rf_s, pz_cut_i, pz_cut_r, pz_cut_n, pz_cut_f, pz_cut_u, pz_cut_o, true_and, and_true, true_or, or_true, Option.toList_some, Option.toList_none, List.cons_append, List.nil_append, Nat.add_left_cancel_iff, Nat.left_eq_add, Nat.add_eq_left, Nat.reduceEqDiff, if_true, if_false, ite_true, ite_false, false_and, and_false, false_or, or_false, reduceIte, reduceCtorEq, and_self, z_4, z_5, z_7, z_8, z_10, z_16, z_20, z_64, not_false_eq_true, m6, m7, t1, nI_1]
      refine ⟨pz_in_nI hi (by decide), ?_⟩
      rw [nI_clamp (show i < 2 ^ 31 by omega)]
      refine K' _ _ ⟨rfl, CX_trans F (CX_trans (CX_le F2' (by omega)) (CX_sR (by decide))), ?_, ?_, NB_sR B2 (Or.inr rfl), fun j hj => ?_, fun j hj hj6 => ?_⟩
      · show pz_N h2 = _
        rw [m2, el, e]
        omega
      · show pz_S h2 = _
        rw [s2', s, e]
        omega
      · obtain ⟨r, T⟩ := C2 j hj
        exact ⟨by rw [pq_R_sR, if_neg (by omega)]; exact r, KF_sR T (by omega)⟩
      · by_cases z : j = i
        · subst z
          exact ⟨by rw [pq_R_sR, if_pos ⟨rfl, rfl⟩], LF_sR T2 (by omega)⟩
        · obtain ⟨r, T⟩ := L2 j (by omega) hj6
          have := lkA_in (k := j) (by omega) hj6
          exact ⟨by rw [pq_R_sR, if_neg (fun q => z q.2)]; exact r, LF_sR T (by omega)⟩
  · rintro ls h' ⟨rfl, F, n, s, B', C', L'⟩
    rw [uX5_init_73]
    simp only [enX5_init, uX5_init_0, uX5_init_0o, uX5_init_0f, uX5_init_1, uX5_init_4, uX5_init_4o, uX5_init_4f, uX5_init_5, uX5_init_6, uX5_init_9, uX5_init_9o, uX5_init_12, uX5_init_12o, uX5_init_12f, uX5_init_13, uX5_init_15, uX5_init_18, uX5_init_18o, uX5_init_21, uX5_init_21o, uX5_init_21f, uX5_init_22, uX5_init_25, uX5_init_26, uX5_init_28, uX5_init_31, uX5_init_31o, uX5_init_34, uX5_init_34o, uX5_init_34f, uX5_init_35, uX5_init_38, uX5_init_39, uX5_init_42, uX5_init_42o, uX5_init_45, uX5_init_46, uX5_init_48, uX5_init_49, uX5_init_52, uX5_init_52o, uX5_init_52f, uX5_init_53, uX5_init_56, uX5_init_57, uX5_init_60, uX5_init_61, uX5_init_64, uX5_init_65, uX5_init_68, uX5_init_71, uX5_init_72, uX5_init_74, uX5_init_76, uX5_init_79, uX5_init_80, uX5_init_81, uX5_init_82, uX5_init_83, uX5_init_84, uX5_init_85, uX5_init_88, uX5_init_88o, uX5_init_88f, uX5_init_89, uX5_init_92, uX5_init_93, uX5_init_96, uX5_init_97, uX5_init_98, uX5_init_99, uX5_init_100, uX5_init_101, uX5_init_102, uX5_init_103, uX5_init_106, uX5_init_107, uX5_init_110, uX5_init_113, pq_C_sI, pq_C_sJ, pq_C_sR, pq_C_sA, pq_L_sI, pq_L_sJ, pq_L_sR, pq_L_sA, pq_I_sI, pq_I_sJ, pq_I_sR, pq_I_sA, pq_J_sI, pq_J_sJ, pq_J_sR, pq_J_sA, pq_R_sI, pq_R_sJ, pq_R_sR, pq_R_sA, pq_N_sI, pq_N_sJ, pq_N_sR, pq_N_sA, pq_S_sI, pq_S_sJ, pq_S_sR, pq_S_sA, pz_rf_s, pz_cut_i, pz_cut_r, pz_cut_n, pz_cut_f, pz_cut_u, pz_cut_o, true_and, and_true, true_or, or_true, Option.toList_some, Option.toList_none, List.cons_append, List.nil_append, Nat.add_left_cancel_iff, Nat.left_eq_add, Nat.add_eq_left, Nat.reduceEqDiff, if_true, if_false, ite_true, ite_false, false_and, and_false, false_or, or_false, reduceIte, reduceCtorEq, and_self, z_4, z_5, z_7, z_8, z_10, z_16, z_20, z_64, not_false_eq_true]
    rw [if_pos (show (25 : Int32) ≤ nI 25 by decide)]
    have e : nLk 25 = 20 := by decide
    rw [e] at n s
    exact K h' F (by omega) (by omega) B' C' L'
/-- the clients -/
theorem net_1 (B : NB h) (hN : pz_N h = 36) (K : ∀ h', CX 23 h h' → pz_N h' = 132 → pz_S h' = pz_S h + 97080 → NB h' → KFs h' 4 → LFs h' 25 → Q none h') : wp (d + 2) mX5_init 47 [.ref 23, .int 0] [] h Q := by
  refine wp_up 4 (fun i ls h' => ls = [.ref 23, .int (nI i)] ∧ CX 23 h h' ∧ pz_N h' = 36 + 4 * i ∧ pz_S h' = pz_S h + 4170 * i ∧ NB h' ∧ KFs h' i) ?_ ?_ _ _ ⟨rfl, CX_refl, hN, rfl, B, fun j hj => absurd hj (by omega)⟩
  · rintro i ls h' hi ⟨rfl, F, n, s, B', C'⟩ K'
    obtain ⟨⟨n1, ⟨n2, n3, n4⟩, _⟩, _⟩ := id B'
    rw [uX5_init_47]
    simp only [enX5_init, uX5_init_0, uX5_init_0o, uX5_init_0f, uX5_init_1, uX5_init_4, uX5_init_4o, uX5_init_4f, uX5_init_5, uX5_init_6, uX5_init_9, uX5_init_9o, uX5_init_12, uX5_init_12o, uX5_init_12f, uX5_init_13, uX5_init_15, uX5_init_18, uX5_init_18o, uX5_init_21, uX5_init_21o, uX5_init_21f, uX5_init_22, uX5_init_25, uX5_init_26, uX5_init_28, uX5_init_31, uX5_init_31o, uX5_init_34, uX5_init_34o, uX5_init_34f, uX5_init_35, uX5_init_38, uX5_init_39, uX5_init_42, uX5_init_42o, uX5_init_45, uX5_init_46, uX5_init_48, uX5_init_49, uX5_init_52, uX5_init_52o, uX5_init_52f, uX5_init_53, uX5_init_56, uX5_init_57, uX5_init_60, uX5_init_61, uX5_init_64, uX5_init_65, uX5_init_68, uX5_init_71, uX5_init_72, uX5_init_74, uX5_init_76, uX5_init_79, uX5_init_80, uX5_init_81, uX5_init_82, uX5_init_83, uX5_init_84, uX5_init_85, uX5_init_88, uX5_init_88o, uX5_init_88f, uX5_init_89, uX5_init_92, uX5_init_93, uX5_init_96, uX5_init_97, uX5_init_98, uX5_init_99, uX5_init_100, uX5_init_101, uX5_init_102, uX5_init_103, uX5_init_106, uX5_init_107, uX5_init_110, uX5_init_113, pq_C_sI, pq_C_sJ, pq_C_sR, pq_C_sA, pq_L_sI, pq_L_sJ, pq_L_sR, pq_L_sA, pq_I_sI, pq_I_sJ, pq_I_sR, pq_I_sA, pq_J_sI, pq_J_sJ, pq_J_sR, pq_J_sA, pq_R_sI, pq_R_sJ, pq_R_sR, pq_R_sA, pq_N_sI, pq_N_sJ, pq_N_sR, pq_N_sA, pq_S_sI, pq_S_sJ, pq_S_sR, pq_S_sA, pz_rf_s, pz_cut_i, pz_cut_r, pz_cut_n, pz_cut_f, pz_cut_u, pz_cut_o, true_and, and_true, true_or, or_true, Option.toList_some, Option.toList_none, List.cons_append, List.nil_append, Nat.add_left_cancel_iff, Nat.left_eq_add, Nat.add_eq_left, Nat.reduceEqDiff, if_true, if_false, ite_true, ite_false, false_and, and_false, false_or, or_false, reduceIte, reduceCtorEq, and_self, z_4, z_5, z_7, z_8, z_10, z_16, z_20, z_64, not_false_eq_true, n1, n2, nI_1, n]
    rw [if_neg (show ¬ (4 : Int32) ≤ nI i from nI_ge (b := 4) hi (by decide))]
    refine i_cli (d := d) (c := 36 + 4 * i) (new_C n) (by rw [pq_N_new, n]) (fun h2 F2 m2 s2 T2 => ?_)
    have F2' : CX (36 + 4 * i) h' h2 := CX_trans (CX_new (by omega)) F2
    have B2 := NB_CX B' F2' (by omega)
    have C2 := KFs_CX C' F2' (by omega)
    have s2' : pz_S h2 = pz_S h' + 8 + 4162 := s2
    have t1 := T2.1.1
    obtain ⟨_, ⟨_, m3, m4⟩, _⟩ := B2.1
    simp only [enX5_init, uX5_init_0, uX5_init_0o, uX5_init_0f, uX5_init_1, uX5_init_4, uX5_init_4o, uX5_init_4f, uX5_init_5, uX5_init_6, uX5_init_9, uX5_init_9o, uX5_init_12, uX5_init_12o, uX5_init_12f, uX5_init_13, uX5_init_15, uX5_init_18, uX5_init_18o, uX5_init_21, uX5_init_21o, uX5_init_21f, uX5_init_22, uX5_init_25, uX5_init_26, uX5_init_28, uX5_init_31, uX5_init_31o, uX5_init_34, uX5_init_34o, uX5_init_34f, uX5_init_35, uX5_init_38, uX5_init_39, uX5_init_42, uX5_init_42o, uX5_init_45, uX5_init_46, uX5_init_48, uX5_init_49, uX5_init_52, uX5_init_52o, uX5_init_52f, uX5_init_53, uX5_init_56, uX5_init_57, uX5_init_60, uX5_init_61, uX5_init_64, uX5_init_65, uX5_init_68, uX5_init_71, uX5_init_72, uX5_init_74, uX5_init_76, uX5_init_79, uX5_init_80, uX5_init_81, uX5_init_82, uX5_init_83, uX5_init_84, uX5_init_85, uX5_init_88, uX5_init_88o, uX5_init_88f, uX5_init_89, uX5_init_92, uX5_init_93, uX5_init_96, uX5_init_97, uX5_init_98, uX5_init_99, uX5_init_100, uX5_init_101, uX5_init_102, uX5_init_103, uX5_init_106, uX5_init_107, uX5_init_110, uX5_init_113, pq_C_sI, pq_C_sJ, pq_C_sR, pq_C_sA, pq_L_sI, pq_L_sJ, pq_L_sR, pq_L_sA, pq_I_sI, pq_I_sJ, pq_I_sR, pq_I_sA, pq_J_sI, pq_J_sJ, pq_J_sR, pq_J_sA, pq_R_sI, pq_R_sJ, pq_R_sR, pq_R_sA, pq_N_sI, pq_N_sJ, pq_N_sR, pq_N_sA, pq_S_sI, pq_S_sJ, pq_S_sR, pq_S_sA, pz_rf_s, pz_cut_i, pz_cut_r, pz_cut_n, pz_cut_f, pz_cut_u, pz_cut_o, true_and, and_true, true_or, or_true, Option.toList_some, Option.toList_none, List.cons_append, List.nil_append, Nat.add_left_cancel_iff, Nat.left_eq_add, Nat.add_eq_left, Nat.reduceEqDiff, if_true, if_false, ite_true, ite_false, false_and, and_false, false_or, or_false, reduceIte, reduceCtorEq, and_self, z_4, z_5, z_7, z_8, z_10, z_16, z_20, z_64, not_false_eq_true, m3, m4, t1, nI_1]
    refine ⟨pz_in_nI hi (by decide), ?_⟩
    rw [nI_clamp (show i < 2 ^ 31 by omega)]
    refine K' _ _ ⟨rfl, CX_trans F (CX_trans (CX_le F2' (by omega)) (CX_sR (by decide))), ?_, ?_, NB_sR B2 (Or.inl rfl), fun j hj => ?_⟩
    · show pz_N h2 = _
      rw [m2]
      omega
    · show pz_S h2 = _
      rw [s2', s]
      omega
    · by_cases z : j = i
      · subst z
        exact ⟨by rw [pq_R_sR, if_pos ⟨rfl, rfl⟩], KF_sR T2 (by omega)⟩
      · obtain ⟨r, T⟩ := C2 j (by omega)
        exact ⟨by rw [pq_R_sR, if_neg (fun q => z q.2)]; exact r, KF_sR T (by omega)⟩
  · rintro ls h' ⟨rfl, F, n, s, B', C'⟩
    rw [uX5_init_47]
    simp only [enX5_init, uX5_init_0, uX5_init_0o, uX5_init_0f, uX5_init_1, uX5_init_4, uX5_init_4o, uX5_init_4f, uX5_init_5, uX5_init_6, uX5_init_9, uX5_init_9o, uX5_init_12, uX5_init_12o, uX5_init_12f, uX5_init_13, uX5_init_15, uX5_init_18, uX5_init_18o, uX5_init_21, uX5_init_21o, uX5_init_21f, uX5_init_22, uX5_init_25, uX5_init_26, uX5_init_28, uX5_init_31, uX5_init_31o, uX5_init_34, uX5_init_34o, uX5_init_34f, uX5_init_35, uX5_init_38, uX5_init_39, uX5_init_42, uX5_init_42o, uX5_init_45, uX5_init_46, uX5_init_48, uX5_init_49, uX5_init_52, uX5_init_52o, uX5_init_52f, uX5_init_53, uX5_init_56, uX5_init_57, uX5_init_60, uX5_init_61, uX5_init_64, uX5_init_65, uX5_init_68, uX5_init_71, uX5_init_72, uX5_init_74, uX5_init_76, uX5_init_79, uX5_init_80, uX5_init_81, uX5_init_82, uX5_init_83, uX5_init_84, uX5_init_85, uX5_init_88, uX5_init_88o, uX5_init_88f, uX5_init_89, uX5_init_92, uX5_init_93, uX5_init_96, uX5_init_97, uX5_init_98, uX5_init_99, uX5_init_100, uX5_init_101, uX5_init_102, uX5_init_103, uX5_init_106, uX5_init_107, uX5_init_110, uX5_init_113, pq_C_sI, pq_C_sJ, pq_C_sR, pq_C_sA, pq_L_sI, pq_L_sJ, pq_L_sR, pq_L_sA, pq_I_sI, pq_I_sJ, pq_I_sR, pq_I_sA, pq_J_sI, pq_J_sJ, pq_J_sR, pq_J_sA, pq_R_sI, pq_R_sJ, pq_R_sR, pq_R_sA, pq_N_sI, pq_N_sJ, pq_N_sR, pq_N_sA, pq_S_sI, pq_S_sJ, pq_S_sR, pq_S_sA, pz_rf_s, pz_cut_i, pz_cut_r, pz_cut_n, pz_cut_f, pz_cut_u, pz_cut_o, true_and, and_true, true_or, or_true, Option.toList_some, Option.toList_none, List.cons_append, List.nil_append, Nat.add_left_cancel_iff, Nat.left_eq_add, Nat.add_eq_left, Nat.reduceEqDiff, if_true, if_false, ite_true, ite_false, false_and, and_false, false_or, or_false, reduceIte, reduceCtorEq, and_self, z_4, z_5, z_7, z_8, z_10, z_16, z_20, z_64, not_false_eq_true]
    rw [if_pos (show (4 : Int32) ≤ nI 4 by decide)]
    refine net_2 B' C' n (fun h2 F2 n2 s2 B2 C2 L2 => K h2 (CX_trans F F2) n2 (by omega) B2 C2 L2)
theorem i_net (hC : pz_C h 23 = 5) (hN : pz_N h = 24) (K : ∀ h', CX 23 h h' → pz_N h' = 132 → pz_S h' = pz_S h + 98540 → NB h' → KFs h' 4 → LFs h' 25 → Q none h') : pz_M (d + 3) mX5_init [.ref 23] h Q := by
  simp only [enX5_init, uX5_init_0, uX5_init_0o, uX5_init_0f, uX5_init_1, uX5_init_4, uX5_init_4o, uX5_init_4f, uX5_init_5, uX5_init_6, uX5_init_9, uX5_init_9o, uX5_init_12, uX5_init_12o, uX5_init_12f, uX5_init_13, uX5_init_15, uX5_init_18, uX5_init_18o, uX5_init_21, uX5_init_21o, uX5_init_21f, uX5_init_22, uX5_init_25, uX5_init_26, uX5_init_28, uX5_init_31, uX5_init_31o, uX5_init_34, uX5_init_34o, uX5_init_34f, uX5_init_35, uX5_init_38, uX5_init_39, uX5_init_42, uX5_init_42o, uX5_init_45, uX5_init_46, uX5_init_48, uX5_init_49, uX5_init_52, uX5_init_52o, uX5_init_52f, uX5_init_53, uX5_init_56, uX5_init_57, uX5_init_60, uX5_init_61, uX5_init_64, uX5_init_65, uX5_init_68, uX5_init_71, uX5_init_72, uX5_init_74, uX5_init_76, uX5_init_79, uX5_init_80, uX5_init_81, uX5_init_82, uX5_init_83, uX5_init_84, uX5_init_85, uX5_init_88, uX5_init_88o, uX5_init_88f, uX5_init_89, uX5_init_92, uX5_init_93, uX5_init_96, uX5_init_97, uX5_init_98, uX5_init_99, uX5_init_100, uX5_init_101, uX5_init_102, uX5_init_103, uX5_init_106, uX5_init_107, uX5_init_110, uX5_init_113, pq_C_sI, pq_C_sJ, pq_C_sR, pq_C_sA, pq_L_sI, pq_L_sJ, pq_L_sR, pq_L_sA, pq_I_sI, pq_I_sJ, pq_I_sR, pq_I_sA, pq_J_sI, pq_J_sJ, pq_J_sR, pq_J_sA, pq_R_sI, pq_R_sJ, pq_R_sR, pq_R_sA, pq_N_sI, pq_N_sJ, pq_N_sR, pq_N_sA, pq_S_sI, pq_S_sJ, pq_S_sR, pq_S_sA, pz_rf_s, pz_cut_i, pz_cut_r, pz_cut_n, pz_cut_f, pz_cut_u, pz_cut_o, true_and, and_true, true_or, or_true, Option.toList_some, Option.toList_none, List.cons_append, List.nil_append, Nat.add_left_cancel_iff, Nat.left_eq_add, Nat.add_eq_left, Nat.reduceEqDiff, if_true, if_false, ite_true, ite_false, false_and, and_false, false_or, or_false, reduceIte, reduceCtorEq, and_self, z_4, z_5, z_7, z_8, z_10, z_16, z_20, z_64, not_false_eq_true, hC, pq_C_new, pq_L_new, pq_I_new, pq_J_new, pq_R_new, pq_N_new, pq_S_new, Nat.add_assoc, Nat.reduceAdd, kz_4, kz_5, kz_8, kz_16, kz_20, kz_25, kz_64, kz_80, kz_6000, hN]
  refine ⟨by decide, by decide, ?_⟩
  have q1 : pz_C (pz_sR (pz_new (pz_sR (pz_new h 110 4 4) 23 0 (some 24)) 111 25 25) 23 1 (some 25)) 23 = 5 ∧ pz_R (pz_sR (pz_new (pz_sR (pz_new h 110 4 4) 23 0 (some 24)) 111 25 25) 23 1 (some 25)) 23 0 = some 24 ∧ pz_C (pz_sR (pz_new (pz_sR (pz_new h 110 4 4) 23 0 (some 24)) 111 25 25) 23 1 (some 25)) 24 = 110 ∧ pz_L (pz_sR (pz_new (pz_sR (pz_new h 110 4 4) 23 0 (some 24)) 111 25 25) 23 1 (some 25)) 24 = 4 ∧ pz_R (pz_sR (pz_new (pz_sR (pz_new h 110 4 4) 23 0 (some 24)) 111 25 25) 23 1 (some 25)) 23 1 = some 25 ∧ pz_C (pz_sR (pz_new (pz_sR (pz_new h 110 4 4) 23 0 (some 24)) 111 25 25) 23 1 (some 25)) 25 = 111 ∧ pz_L (pz_sR (pz_new (pz_sR (pz_new h 110 4 4) 23 0 (some 24)) 111 25 25) 23 1 (some 25)) 25 = 25 ∧ pz_N (pz_sR (pz_new (pz_sR (pz_new h 110 4 4) 23 0 (some 24)) 111 25 25) 23 1 (some 25)) = 26 ∧ pz_S (pz_sR (pz_new (pz_sR (pz_new h 110 4 4) 23 0 (some 24)) 111 25 25) 23 1 (some 25)) = pz_S h + 29 := by
    simp only [pq_C_sI, pq_C_sJ, pq_C_sR, pq_C_sA, pq_L_sI, pq_L_sJ, pq_L_sR, pq_L_sA, pq_I_sI, pq_I_sJ, pq_I_sR, pq_I_sA, pq_J_sI, pq_J_sJ, pq_J_sR, pq_J_sA, pq_R_sI, pq_R_sJ, pq_R_sR, pq_R_sA, pq_N_sI, pq_N_sJ, pq_N_sR, pq_N_sA, pq_S_sI, pq_S_sJ, pq_S_sR, pq_S_sA, pz_rf_s, pz_cut_i, pz_cut_r, pz_cut_n, pz_cut_f, pz_cut_u, pz_cut_o, true_and, and_true, true_or, or_true, Option.toList_some, Option.toList_none, List.cons_append, List.nil_append, Nat.add_left_cancel_iff, Nat.left_eq_add, Nat.add_eq_left, Nat.reduceEqDiff, if_true, if_false, ite_true, ite_false, false_and, and_false, false_or, or_false, reduceIte, reduceCtorEq, and_self, pq_C_new, pq_L_new, pq_I_new, pq_J_new, pq_R_new, pq_N_new, pq_S_new, Nat.add_assoc, Nat.reduceAdd, kz_4, kz_5, kz_8, kz_16, kz_20, kz_25, kz_64, kz_80, kz_6000, hN, hC]
  have F1 : CX 23 h (pz_sR (pz_new (pz_sR (pz_new h 110 4 4) 23 0 (some 24)) 111 25 25) 23 1 (some 25)) := by repeat (first | exact CX_refl | refine CX_trans ?_ (CX_sR (by omega)) | refine CX_trans ?_ (CX_sI (by omega)) | refine CX_trans ?_ (CX_sJ (by omega)) | refine CX_trans ?_ (CX_new (by first | omega | (simp only [pq_N_sR, pq_N_sI, pq_N_sJ, pq_N_new]; omega))))
  generalize pz_sR (pz_new (pz_sR (pz_new h 110 4 4) 23 0 (some 24)) 111 25 25) 23 1 (some 25) = H1 at *
  obtain ⟨a1, a2, a3, a4, a5, a6, a7, a8, a9⟩ := q1
  refine n_row (d := d + 1) (cap := 68) rfl a8 (by decide) (fun h2 F2 n2 s2 w2 => ?_)
  have b1 : pz_C h2 23 = 5 := by rw [(F2.1 23 (by decide)).1]; exact a1
  simp only [enX5_init, uX5_init_0, uX5_init_0o, uX5_init_0f, uX5_init_1, uX5_init_4, uX5_init_4o, uX5_init_4f, uX5_init_5, uX5_init_6, uX5_init_9, uX5_init_9o, uX5_init_12, uX5_init_12o, uX5_init_12f, uX5_init_13, uX5_init_15, uX5_init_18, uX5_init_18o, uX5_init_21, uX5_init_21o, uX5_init_21f, uX5_init_22, uX5_init_25, uX5_init_26, uX5_init_28, uX5_init_31, uX5_init_31o, uX5_init_34, uX5_init_34o, uX5_init_34f, uX5_init_35, uX5_init_38, uX5_init_39, uX5_init_42, uX5_init_42o, uX5_init_45, uX5_init_46, uX5_init_48, uX5_init_49, uX5_init_52, uX5_init_52o, uX5_init_52f, uX5_init_53, uX5_init_56, uX5_init_57, uX5_init_60, uX5_init_61, uX5_init_64, uX5_init_65, uX5_init_68, uX5_init_71, uX5_init_72, uX5_init_74, uX5_init_76, uX5_init_79, uX5_init_80, uX5_init_81, uX5_init_82, uX5_init_83, uX5_init_84, uX5_init_85, uX5_init_88, uX5_init_88o, uX5_init_88f, uX5_init_89, uX5_init_92, uX5_init_93, uX5_init_96, uX5_init_97, uX5_init_98, uX5_init_99, uX5_init_100, uX5_init_101, uX5_init_102, uX5_init_103, uX5_init_106, uX5_init_107, uX5_init_110, uX5_init_113, pq_C_sI, pq_C_sJ, pq_C_sR, pq_C_sA, pq_L_sI, pq_L_sJ, pq_L_sR, pq_L_sA, pq_I_sI, pq_I_sJ, pq_I_sR, pq_I_sA, pq_J_sI, pq_J_sJ, pq_J_sR, pq_J_sA, pq_R_sI, pq_R_sJ, pq_R_sR, pq_R_sA, pq_N_sI, pq_N_sJ, pq_N_sR, pq_N_sA, pq_S_sI, pq_S_sJ, pq_S_sR, pq_S_sA, pz_rf_s, pz_cut_i, pz_cut_r, pz_cut_n, pz_cut_f, pz_cut_u, pz_cut_o, true_and, and_true, true_or, or_true, Option.toList_some, Option.toList_none, List.cons_append, List.nil_append, Nat.add_left_cancel_iff, Nat.left_eq_add, Nat.add_eq_left, Nat.reduceEqDiff, if_true, if_false, ite_true, ite_false, false_and, and_false, false_or, or_false, reduceIte, reduceCtorEq, and_self, z_4, z_5, z_7, z_8, z_10, z_16, z_20, z_64, not_false_eq_true, b1, n2]
  have q2 : pz_C (pz_sR h2 23 2 (some 26)) 23 = 5 ∧ pz_R (pz_sR h2 23 2 (some 26)) 23 0 = some 24 ∧ pz_C (pz_sR h2 23 2 (some 26)) 24 = 110 ∧ pz_L (pz_sR h2 23 2 (some 26)) 24 = 4 ∧ pz_R (pz_sR h2 23 2 (some 26)) 23 1 = some 25 ∧ pz_C (pz_sR h2 23 2 (some 26)) 25 = 111 ∧ pz_L (pz_sR h2 23 2 (some 26)) 25 = 25 ∧ pz_R (pz_sR h2 23 2 (some 26)) 23 2 = some 26 := by
    obtain ⟨p1, p2, p3, p4, p5⟩ := F2.1 23 (by decide)
    obtain ⟨r1, r2, _⟩ := F2.1 24 (by decide)
    obtain ⟨t1, t2, _⟩ := F2.1 25 (by decide)
    simp only [pq_C_sI, pq_C_sJ, pq_C_sR, pq_C_sA, pq_L_sI, pq_L_sJ, pq_L_sR, pq_L_sA, pq_I_sI, pq_I_sJ, pq_I_sR, pq_I_sA, pq_J_sI, pq_J_sJ, pq_J_sR, pq_J_sA, pq_R_sI, pq_R_sJ, pq_R_sR, pq_R_sA, pq_N_sI, pq_N_sJ, pq_N_sR, pq_N_sA, pq_S_sI, pq_S_sJ, pq_S_sR, pq_S_sA, pz_rf_s, pz_cut_i, pz_cut_r, pz_cut_n, pz_cut_f, pz_cut_u, pz_cut_o, true_and, and_true, true_or, or_true, Option.toList_some, Option.toList_none, List.cons_append, List.nil_append, Nat.add_left_cancel_iff, Nat.left_eq_add, Nat.add_eq_left, Nat.reduceEqDiff, if_true, if_false, ite_true, ite_false, false_and, and_false, false_or, or_false, reduceIte, reduceCtorEq, and_self, p1, p5, r1, r2, t1, t2, a1, a2, a3, a4, a5, a6, a7]
  have F3 : CX 23 h (pz_sR h2 23 2 (some 26)) := CX_trans F1 (CX_trans (CX_le F2 (by decide)) (CX_sR (by decide)))
  have n3 : pz_N (pz_sR h2 23 2 (some 26)) = 28 := n2
  have s3 : pz_S (pz_sR h2 23 2 (some 26)) = pz_S H1 + 2 + 68 := s2
  have w3 : ROW (pz_sR h2 23 2 (some 26)) 26 27 68 [] := ROW_sR w2 (by decide)
  generalize pz_sR h2 23 2 (some 26) = h3 at *
  obtain ⟨c1, c2, c3, c4, c5, c6, c7, c8⟩ := q2
  refine i_tor (d := d) (t := 28) (new_C n3) (by rw [pq_N_new, n3]) (fun h4 F4 n4 s4 T4 => ?_)
  have F4' : CX 28 h3 h4 := CX_trans (CX_new (by omega)) F4
  have s4' : pz_S h4 = pz_S h3 + 9 + 1352 := s4
  have e1 : pz_C h4 23 = 5 := by rw [(F4'.1 23 (by decide)).1]; exact c1
  simp only [enX5_init, uX5_init_0, uX5_init_0o, uX5_init_0f, uX5_init_1, uX5_init_4, uX5_init_4o, uX5_init_4f, uX5_init_5, uX5_init_6, uX5_init_9, uX5_init_9o, uX5_init_12, uX5_init_12o, uX5_init_12f, uX5_init_13, uX5_init_15, uX5_init_18, uX5_init_18o, uX5_init_21, uX5_init_21o, uX5_init_21f, uX5_init_22, uX5_init_25, uX5_init_26, uX5_init_28, uX5_init_31, uX5_init_31o, uX5_init_34, uX5_init_34o, uX5_init_34f, uX5_init_35, uX5_init_38, uX5_init_39, uX5_init_42, uX5_init_42o, uX5_init_45, uX5_init_46, uX5_init_48, uX5_init_49, uX5_init_52, uX5_init_52o, uX5_init_52f, uX5_init_53, uX5_init_56, uX5_init_57, uX5_init_60, uX5_init_61, uX5_init_64, uX5_init_65, uX5_init_68, uX5_init_71, uX5_init_72, uX5_init_74, uX5_init_76, uX5_init_79, uX5_init_80, uX5_init_81, uX5_init_82, uX5_init_83, uX5_init_84, uX5_init_85, uX5_init_88, uX5_init_88o, uX5_init_88f, uX5_init_89, uX5_init_92, uX5_init_93, uX5_init_96, uX5_init_97, uX5_init_98, uX5_init_99, uX5_init_100, uX5_init_101, uX5_init_102, uX5_init_103, uX5_init_106, uX5_init_107, uX5_init_110, uX5_init_113, pq_C_sI, pq_C_sJ, pq_C_sR, pq_C_sA, pq_L_sI, pq_L_sJ, pq_L_sR, pq_L_sA, pq_I_sI, pq_I_sJ, pq_I_sR, pq_I_sA, pq_J_sI, pq_J_sJ, pq_J_sR, pq_J_sA, pq_R_sI, pq_R_sJ, pq_R_sR, pq_R_sA, pq_N_sI, pq_N_sJ, pq_N_sR, pq_N_sA, pq_S_sI, pq_S_sJ, pq_S_sR, pq_S_sA, pz_rf_s, pz_cut_i, pz_cut_r, pz_cut_n, pz_cut_f, pz_cut_u, pz_cut_o, true_and, and_true, true_or, or_true, Option.toList_some, Option.toList_none, List.cons_append, List.nil_append, Nat.add_left_cancel_iff, Nat.left_eq_add, Nat.add_eq_left, Nat.reduceEqDiff, if_true, if_false, ite_true, ite_false, false_and, and_false, false_or, or_false, reduceIte, reduceCtorEq, and_self, z_4, z_5, z_7, z_8, z_10, z_16, z_20, z_64, not_false_eq_true, e1]
  refine net_1 (h := pz_sR h4 23 3 (some 28)) ⟨?_, ?_, ROW_sR (ROW_CX w3 F4' (by decide) (by decide)) (by decide), TF_sR T4 (by decide)⟩ n4 (fun h5 F5 n5 s5 B5 C5 L5 => K h5 (CX_trans F3 (CX_trans (CX_le F4' (by decide)) (CX_trans (CX_sR (by decide)) F5))) n5 ?_ B5 C5 L5)
  · obtain ⟨p1, p2, p3, p4, p5⟩ := F4'.1 23 (by decide)
    obtain ⟨r1, r2, _⟩ := F4'.1 24 (by decide)
    obtain ⟨t1, t2, _⟩ := F4'.1 25 (by decide)
    unfold NET
    simp only [pq_C_sI, pq_C_sJ, pq_C_sR, pq_C_sA, pq_L_sI, pq_L_sJ, pq_L_sR, pq_L_sA, pq_I_sI, pq_I_sJ, pq_I_sR, pq_I_sA, pq_J_sI, pq_J_sJ, pq_J_sR, pq_J_sA, pq_R_sI, pq_R_sJ, pq_R_sR, pq_R_sA, pq_N_sI, pq_N_sJ, pq_N_sR, pq_N_sA, pq_S_sI, pq_S_sJ, pq_S_sR, pq_S_sA, pz_rf_s, pz_cut_i, pz_cut_r, pz_cut_n, pz_cut_f, pz_cut_u, pz_cut_o, true_and, and_true, true_or, or_true, Option.toList_some, Option.toList_none, List.cons_append, List.nil_append, Nat.add_left_cancel_iff, Nat.left_eq_add, Nat.add_eq_left, Nat.reduceEqDiff, if_true, if_false, ite_true, ite_false, false_and, and_false, false_or, or_false, reduceIte, reduceCtorEq, and_self, p1, p5, r1, r2, t1, t2, c1, c2, c3, c4, c5, c6, c7, c8]
  · rw [pq_R_sR, if_pos ⟨rfl, rfl⟩]
  · have s5' : pz_S h5 = pz_S h4 + 97080 := s5
    omega
end
