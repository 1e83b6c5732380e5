/-! ===== the class: lookWhatIsBusy ===== -/
section
variable {d : Nat} {h : PzH} {Q : Option Value → PzH → Prop} {A : St} {l c p : Nat}
def bsS (A : St) (a n : Nat) (v : Nat) : Prop := sB A 21 (1024 * a + v) ≠ 0 ∨ ∃ b, b < n ∧ v ∈ sL A (5 * a + b)
theorem RC_137 {h' : PzH} (R : RC h A) (f : HF [137] h h') : RC h' A := by
  refine RC_jk R f (fun x hx => by simp at hx; omega) ?_
  obtain ⟨⟨l1, w1⟩, ⟨l2, w2⟩, ⟨l3, w3⟩⟩ := R.2.2.2.2.2
  exact ⟨⟨l1, ROW_fr w1 f (by simp) (by simp)⟩, ⟨l2, ROW_fr w2 f (by simp) (by simp)⟩, ⟨l3, ROW_fr w3 f (by simp) (by simp)⟩⟩
theorem TS_of (R : RC h A) : ∃ t, (t = 15 ∨ t = 28) ∧ pz_R h 23 3 = some t ∧ pz_C h t = 8 ∧ TR h A t := by
  obtain ⟨t, ht, r1, _, T, _⟩ := R.2.1
  refine ⟨t, ht, r1, ?_, T⟩
  rcases ht with rfl | rfl
  · exact R.1.2.2.2.1.1
  · exact R.1.2.2.2.2.1.1
theorem look_1 (R : RC h A) (I : OI A l c p) {a b : Nat} (ha : a < 4) (hb : b < 5) (hab : a ≠ b) (Z : BZ (pz_I h 137) (bsS A a b)) {v6 : Value} (K : ∀ h' v6, HF [137] h h' → BZ (pz_I h' 137) (bsS A a (b + 1)) → wp (d + 1) mX0_lookWhatIsBusy 115 [.ref 132, .ref (36 + 4 * a), .int (nI a), .int (nI b), .ref (lkA (5 * a + b)), .int (nI (sL A (5 * a + b)).length), v6] [] h' Q) : wp (d + 1) mX0_lookWhatIsBusy 36 [.ref 132, .ref (36 + 4 * a), .int (nI a), .int (nI b), .ref (lkA (5 * a + b)), .int 0, v6] [] h Q := by
  obtain ⟨⟨k1, k2, k3, k4, k5⟩, L⟩ := LN_of R (show a < 5 by omega) hb hab
  have lin := lkA_in (k := 5 * a + b) (by omega) (by omega)
  have r12 := L.2.2.2.2.2.2.2.2.2.2.1
  obtain ⟨M, P1, M4, Mv, Mf⟩ := L.2.2.2.2.2.2.2.2.2.2.2.1
  have ml : M.length = (sL A (5 * a + b)).length := P1.length_eq
  have t6 := I.1.1.2.2.2.2.2.1
  refine wp_up M.length (fun i ls h' => HF [137] h h' ∧ BZ (pz_I h' 137) (fun v => bsS A a b v ∨ ∃ j, j < i ∧ v = M.getD j 0) ∧ ∃ v6, ls = [.ref 132, .ref (36 + 4 * a), .int (nI a), .int (nI b), .ref (lkA (5 * a + b)), .int (nI i), v6]) ?_ ?_ _ _ ⟨HF_refl, BZ_iff Z (fun v _ => ⟨Or.inl, fun z => z.elim id (fun ⟨j, hj, _⟩ => by omega)⟩), v6, rfl⟩
  · rintro i ls h' hi ⟨F, Z', v6, rfl⟩ K'
    have R' := RC_137 R F
    obtain ⟨a1, a2, a3, a4, a5, a6, a7, a8⟩ := ACT_of R'
    obtain ⟨t, ht, tr, tc, T⟩ := TS_of R'
    have n1 := R'.1.2.2.2.2.2.1.1
    obtain ⟨⟨k1, k2, k3, k4, k5⟩, _⟩ := LN_of R' (show a < 5 by omega) hb hab
    have e12 : pz_I h' (lkA (5 * a + b)) 12 = nI M.length := by
      rw [F.2.2.2.2.2.2.2.1 _ (by simp; omega), r12, ml]
    have eM : pz_I h' (lkA (5 * a + b) + 3) i = nI (M.getD i 0) := by
      rw [F.2.2.2.2.2.2.2.1 _ (by simp; omega)]
      exact Mf i hi
    have hmem : M.getD i 0 ∈ M := by
      have : M.getD i 0 = M[i] := by simp [List.getD, hi]
      rw [this]
      exact List.getElem_mem hi
    have hv := Mv _ hmem
    obtain ⟨v1, v2⟩ := I.1.2.2.2.2.2.2.1 (5 * a + b) (by omega) _ (P1.mem_iff.mp hmem)
    have stp : ∀ v, (bsS A a b v ∨ ∃ j, j < i ∧ v = M.getD j 0) ∨ v = M.getD i 0 ↔ (bsS A a b v ∨ ∃ j, j < i + 1 ∧ v = M.getD j 0) := by
      intro v
      constructor
      · rintro ((z | ⟨j, j1, j2⟩) | z)
        · exact Or.inl z
        · exact Or.inr ⟨j, by omega, j2⟩
        · exact Or.inr ⟨i, by omega, z⟩
      · rintro (z | ⟨j, j1, j2⟩)
        · exact Or.inl (Or.inl z)
        · by_cases e : j = i
          · subst e; exact Or.inr j2
          · exact Or.inl (Or.inr ⟨j, by omega, j2⟩)
    generalize M.getD i 0 = v at *
    have e16 : (16 : Int32) = nI 16 := rfl
    have ed : nI v / 16 = nI (v / 16) := by rw [e16, pk_div (by omega) (by decide) (by decide)]
    have er : nI v - nI (v / 16) * 16 = nI (v % 16) := by rw [e16, pk_mul, pk_remd]
    rw [uX0_lookWhatIsBusy_36]
    have ip : ∀ {Q : Option Value → PzH → Prop}, pz_M (d + 1) mX8_isPiece [.ref t, .long (nI (v / 16)).toInt64] h' Q ↔ Q (some (.int 1)) h' := fun {Q} => by
      rw [nI_l (by omega), c_isPiece tc T I.1.1 (by omega), if_pos v1]
    have hin : pz_in (nI i) 4 = true := pz_in_nI (by omega) (by decide)
    have hinP : pz_in (nI (v / 16)) 64 = true := pz_in_nI (by omega) (by decide)
    simp only [enX0_lookWhatIsBusy, uX0_lookWhatIsBusy_0, uX0_lookWhatIsBusy_0o, uX0_lookWhatIsBusy_0f, uX0_lookWhatIsBusy_1, uX0_lookWhatIsBusy_4, uX0_lookWhatIsBusy_5, uX0_lookWhatIsBusy_5o, uX0_lookWhatIsBusy_5f, uX0_lookWhatIsBusy_6, uX0_lookWhatIsBusy_9, uX0_lookWhatIsBusy_10, uX0_lookWhatIsBusy_12, uX0_lookWhatIsBusy_15, uX0_lookWhatIsBusy_16, uX0_lookWhatIsBusy_17, uX0_lookWhatIsBusy_18, uX0_lookWhatIsBusy_19, uX0_lookWhatIsBusy_22, uX0_lookWhatIsBusy_22o, uX0_lookWhatIsBusy_22f, uX0_lookWhatIsBusy_23, uX0_lookWhatIsBusy_26, uX0_lookWhatIsBusy_27, uX0_lookWhatIsBusy_28, uX0_lookWhatIsBusy_31, uX0_lookWhatIsBusy_31o, uX0_lookWhatIsBusy_33, uX0_lookWhatIsBusy_34, uX0_lookWhatIsBusy_38, uX0_lookWhatIsBusy_38a, uX0_lookWhatIsBusy_41, uX0_lookWhatIsBusy_43, uX0_lookWhatIsBusy_43o, uX0_lookWhatIsBusy_43f, uX0_lookWhatIsBusy_45, uX0_lookWhatIsBusy_48, uX0_lookWhatIsBusy_51, uX0_lookWhatIsBusy_53, uX0_lookWhatIsBusy_54, uX0_lookWhatIsBusy_57, uX0_lookWhatIsBusy_57o, uX0_lookWhatIsBusy_57f, uX0_lookWhatIsBusy_59, uX0_lookWhatIsBusy_62, uX0_lookWhatIsBusy_64, uX0_lookWhatIsBusy_65, uX0_lookWhatIsBusy_67, uX0_lookWhatIsBusy_68, uX0_lookWhatIsBusy_70, uX0_lookWhatIsBusy_70o, uX0_lookWhatIsBusy_70f, uX0_lookWhatIsBusy_71, uX0_lookWhatIsBusy_74, uX0_lookWhatIsBusy_77, uX0_lookWhatIsBusy_79, uX0_lookWhatIsBusy_80, uX0_lookWhatIsBusy_83, uX0_lookWhatIsBusy_86, uX0_lookWhatIsBusy_86o, uX0_lookWhatIsBusy_86f, uX0_lookWhatIsBusy_87, uX0_lookWhatIsBusy_90, uX0_lookWhatIsBusy_92, uX0_lookWhatIsBusy_93, uX0_lookWhatIsBusy_94, uX0_lookWhatIsBusy_95, uX0_lookWhatIsBusy_95o, uX0_lookWhatIsBusy_95f, uX0_lookWhatIsBusy_97, uX0_lookWhatIsBusy_100, uX0_lookWhatIsBusy_102, uX0_lookWhatIsBusy_103, uX0_lookWhatIsBusy_105, uX0_lookWhatIsBusy_106, uX0_lookWhatIsBusy_107, uX0_lookWhatIsBusy_108, uX0_lookWhatIsBusy_109, uX0_lookWhatIsBusy_112, uX0_lookWhatIsBusy_115, uX0_lookWhatIsBusy_118, uX0_lookWhatIsBusy_121, pq_C_sI, pq_C_sJ, pq_C_sR, pq_C_sA, pq_L_sI, pq_L_sJ, pq_L_sR, pq_L_sA, pq_I_sI, pq_I_sJ, pq_I_sR, pq_I_sA, pq_J_sI, pq_J_sJ, pq_J_sR, pq_J_sA, pq_R_sI, pq_R_sJ, pq_R_sR, pq_R_sA, pq_N_sI, pq_N_sJ, pq_N_sR, pq_N_sA, pq_S_sI, pq_S_sJ, pq_S_sR, pq_S_sA, pz_rf_s, pz_cut_i, pz_cut_r, pz_cut_n, pz_cut_f, pz_cut_u, pz_cut_o, true_and, and_true, true_or, or_true, Option.toList_some, Option.toList_none, List.cons_append, List.nil_append, Nat.add_left_cancel_iff, Nat.left_eq_add, Nat.add_eq_left, Nat.reduceEqDiff, if_true, if_false, ite_true, ite_false, false_and, and_false, false_or, or_false, reduceIte, reduceCtorEq, and_self, z_4, z_5, z_7, z_8, z_10, z_16, z_20, z_64, not_false_eq_true, a1, a2, a6, a7, a8, k1, k3, k4, k5, e12, n1, tr, tc, hin, nI_clamp (show i < 2 ^ 31 by omega), eM, er, ed, ip, hinP, nI_clamp (show v / 16 < 2 ^ 31 by omega), nI_1]
    rw [if_neg (nI_ge hi (by omega)), if_neg (show ¬ (4 : Int32) ≤ nI i from nI_ge (b := 4) (by omega) (by decide))]
    simp only [show ¬ (1 : Int32) = 0 by decide, if_false]
    have Z2 := BZ_set Z' (show v / 16 < 64 by omega) (show v % 16 < 16 by omega)
    rw [show 16 * (v / 16) + v % 16 = v by omega] at Z2
    refine K' _ _ ⟨HF_trans F (HF_sI (by simp)), BZ_iff (f := pz_I (pz_sI h' 137 (v / 16) (pz_I h' 137 (v / 16) ||| 1 <<< (nI (v % 16) &&& 31))) 137) ?_ (fun w _ => stp w), _, rfl⟩
    have e2 : pz_I (pz_sI h' 137 (v / 16) (pz_I h' 137 (v / 16) ||| 1 <<< (nI (v % 16) &&& 31))) 137 = upd (pz_I h' 137) (v / 16) (pz_I h' 137 (v / 16) ||| 1 <<< (nI (v % 16) &&& 31)) := by
      rw [pq_sI_A, pq_I_sA, if_pos rfl]
    rw [e2]
    exact Z2
  · rintro ls h' ⟨F, Z', v6, rfl⟩
    have R' := RC_137 R F
    obtain ⟨⟨k1, k2, k3, k4, k5⟩, _⟩ := LN_of R' (show a < 5 by omega) hb hab
    have e12 : pz_I h' (lkA (5 * a + b)) 12 = nI M.length := by
      rw [F.2.2.2.2.2.2.2.1 _ (by simp; omega), r12, ml]
    rw [uX0_lookWhatIsBusy_36]
    simp only [enX0_lookWhatIsBusy, uX0_lookWhatIsBusy_0, uX0_lookWhatIsBusy_0o, uX0_lookWhatIsBusy_0f, uX0_lookWhatIsBusy_1, uX0_lookWhatIsBusy_4, uX0_lookWhatIsBusy_5, uX0_lookWhatIsBusy_5o, uX0_lookWhatIsBusy_5f, uX0_lookWhatIsBusy_6, uX0_lookWhatIsBusy_9, uX0_lookWhatIsBusy_10, uX0_lookWhatIsBusy_12, uX0_lookWhatIsBusy_15, uX0_lookWhatIsBusy_16, uX0_lookWhatIsBusy_17, uX0_lookWhatIsBusy_18, uX0_lookWhatIsBusy_19, uX0_lookWhatIsBusy_22, uX0_lookWhatIsBusy_22o, uX0_lookWhatIsBusy_22f, uX0_lookWhatIsBusy_23, uX0_lookWhatIsBusy_26, uX0_lookWhatIsBusy_27, uX0_lookWhatIsBusy_28, uX0_lookWhatIsBusy_31, uX0_lookWhatIsBusy_31o, uX0_lookWhatIsBusy_33, uX0_lookWhatIsBusy_34, uX0_lookWhatIsBusy_38, uX0_lookWhatIsBusy_38a, uX0_lookWhatIsBusy_41, uX0_lookWhatIsBusy_43, uX0_lookWhatIsBusy_43o, uX0_lookWhatIsBusy_43f, uX0_lookWhatIsBusy_45, uX0_lookWhatIsBusy_48, uX0_lookWhatIsBusy_51, uX0_lookWhatIsBusy_53, uX0_lookWhatIsBusy_54, uX0_lookWhatIsBusy_57, uX0_lookWhatIsBusy_57o, uX0_lookWhatIsBusy_57f, uX0_lookWhatIsBusy_59, uX0_lookWhatIsBusy_62, uX0_lookWhatIsBusy_64, uX0_lookWhatIsBusy_65, uX0_lookWhatIsBusy_67, uX0_lookWhatIsBusy_68, uX0_lookWhatIsBusy_70, uX0_lookWhatIsBusy_70o, uX0_lookWhatIsBusy_70f, uX0_lookWhatIsBusy_71, uX0_lookWhatIsBusy_74, uX0_lookWhatIsBusy_77, uX0_lookWhatIsBusy_79, uX0_lookWhatIsBusy_80, uX0_lookWhatIsBusy_83, uX0_lookWhatIsBusy_86, uX0_lookWhatIsBusy_86o, uX0_lookWhatIsBusy_86f, uX0_lookWhatIsBusy_87, uX0_lookWhatIsBusy_90, uX0_lookWhatIsBusy_92, uX0_lookWhatIsBusy_93, uX0_lookWhatIsBusy_94, uX0_lookWhatIsBusy_95, uX0_lookWhatIsBusy_95o, uX0_lookWhatIsBusy_95f, uX0_lookWhatIsBusy_97, uX0_lookWhatIsBusy_100, uX0_lookWhatIsBusy_102, uX0_lookWhatIsBusy_103, uX0_lookWhatIsBusy_105, uX0_lookWhatIsBusy_106, uX0_lookWhatIsBusy_107, uX0_lookWhatIsBusy_108, uX0_lookWhatIsBusy_109, uX0_lookWhatIsBusy_112, uX0_lookWhatIsBusy_118, uX0_lookWhatIsBusy_121, pq_C_sI, pq_C_sJ, pq_C_sR, pq_C_sA, pq_L_sI, pq_L_sJ, pq_L_sR, pq_L_sA, pq_I_sI, pq_I_sJ, pq_I_sR, pq_I_sA, pq_J_sI, pq_J_sJ, pq_J_sR, pq_J_sA, pq_R_sI, pq_R_sJ, pq_R_sR, pq_R_sA, pq_N_sI, pq_N_sJ, pq_N_sR, pq_N_sA, pq_S_sI, pq_S_sJ, pq_S_sR, pq_S_sA, pz_rf_s, pz_cut_i, pz_cut_r, pz_cut_n, pz_cut_f, pz_cut_u, pz_cut_o, true_and, and_true, true_or, or_true, Option.toList_some, Option.toList_none, List.cons_append, List.nil_append, Nat.add_left_cancel_iff, Nat.left_eq_add, Nat.add_eq_left, Nat.reduceEqDiff, if_true, if_false, ite_true, ite_false, false_and, and_false, false_or, or_false, reduceIte, reduceCtorEq, and_self, z_4, z_5, z_7, z_8, z_10, z_16, z_20, z_64, not_false_eq_true, k1, e12]
    rw [if_pos (nI_le (Nat.le_refl _) (by omega)), ml]
    refine K h' v6 F (BZ_iff Z' (fun v hv => ?_))
    unfold bsS
    constructor
    · rintro ((z | ⟨b', b1, b2⟩) | ⟨j, j1, j2⟩)
      · exact Or.inl z
      · exact Or.inr ⟨b', by omega, b2⟩
      · refine Or.inr ⟨b, by omega, P1.mem_iff.mp ?_⟩
        rw [j2]
        have : M.getD j 0 = M[j] := by simp [List.getD, j1]
        rw [this]
        exact List.getElem_mem j1
    · rintro (z | ⟨b', b1, b2⟩)
      · exact Or.inl (Or.inl z)
      · by_cases e : b' = b
        · subst e
          obtain ⟨j, j1, j2⟩ := List.mem_iff_getElem.mp (P1.mem_iff.mpr b2)
          exact Or.inr ⟨j, j1, by simp [List.getD, j1, j2]⟩
        · exact Or.inl (Or.inr ⟨b', by omega, b2⟩)
theorem c_look (R : RC h A) (I : OI A l c p) {a : Nat} (ha : a < 4) (hth : sB A 18 a ≠ 0) (K : ∀ h', HF [137] h h' → BZ (pz_I h' 137) (bsy A a) → Q none h') : pz_M (d + 2) mX0_lookWhatIsBusy [.ref 132, .ref (36 + 4 * a), .int (nI a)] h Q := by
  obtain ⟨a1, a2, a3, a4, a5, a6, a7, a8⟩ := ACT_of R
  obtain ⟨⟨c1, c2, c3, c4, c5⟩, CRa⟩ := CL_of R ha
  obtain ⟨_, _, cb, _⟩ := CRa.2.2 hth
  have e36 : 36 + 4 * a + 3 = 39 + 4 * a := by omega
  rw [e36] at c3 c4 c5
  simp only [enX0_lookWhatIsBusy, uX0_lookWhatIsBusy_0, uX0_lookWhatIsBusy_0o, uX0_lookWhatIsBusy_0f, uX0_lookWhatIsBusy_1, uX0_lookWhatIsBusy_4, uX0_lookWhatIsBusy_5, uX0_lookWhatIsBusy_5o, uX0_lookWhatIsBusy_5f, uX0_lookWhatIsBusy_6, uX0_lookWhatIsBusy_9, uX0_lookWhatIsBusy_10, uX0_lookWhatIsBusy_12, uX0_lookWhatIsBusy_15, uX0_lookWhatIsBusy_16, uX0_lookWhatIsBusy_18, uX0_lookWhatIsBusy_19, uX0_lookWhatIsBusy_22, uX0_lookWhatIsBusy_22o, uX0_lookWhatIsBusy_22f, uX0_lookWhatIsBusy_23, uX0_lookWhatIsBusy_26, uX0_lookWhatIsBusy_27, uX0_lookWhatIsBusy_28, uX0_lookWhatIsBusy_31, uX0_lookWhatIsBusy_31o, uX0_lookWhatIsBusy_33, uX0_lookWhatIsBusy_34, uX0_lookWhatIsBusy_36, uX0_lookWhatIsBusy_36o, uX0_lookWhatIsBusy_36f, uX0_lookWhatIsBusy_38, uX0_lookWhatIsBusy_38a, uX0_lookWhatIsBusy_41, uX0_lookWhatIsBusy_43, uX0_lookWhatIsBusy_43o, uX0_lookWhatIsBusy_43f, uX0_lookWhatIsBusy_45, uX0_lookWhatIsBusy_48, uX0_lookWhatIsBusy_51, uX0_lookWhatIsBusy_53, uX0_lookWhatIsBusy_54, uX0_lookWhatIsBusy_57, uX0_lookWhatIsBusy_57o, uX0_lookWhatIsBusy_57f, uX0_lookWhatIsBusy_59, uX0_lookWhatIsBusy_62, uX0_lookWhatIsBusy_64, uX0_lookWhatIsBusy_65, uX0_lookWhatIsBusy_67, uX0_lookWhatIsBusy_68, uX0_lookWhatIsBusy_70, uX0_lookWhatIsBusy_70o, uX0_lookWhatIsBusy_70f, uX0_lookWhatIsBusy_71, uX0_lookWhatIsBusy_74, uX0_lookWhatIsBusy_77, uX0_lookWhatIsBusy_79, uX0_lookWhatIsBusy_80, uX0_lookWhatIsBusy_83, uX0_lookWhatIsBusy_86, uX0_lookWhatIsBusy_86o, uX0_lookWhatIsBusy_86f, uX0_lookWhatIsBusy_87, uX0_lookWhatIsBusy_90, uX0_lookWhatIsBusy_92, uX0_lookWhatIsBusy_93, uX0_lookWhatIsBusy_94, uX0_lookWhatIsBusy_95, uX0_lookWhatIsBusy_95o, uX0_lookWhatIsBusy_95f, uX0_lookWhatIsBusy_97, uX0_lookWhatIsBusy_100, uX0_lookWhatIsBusy_102, uX0_lookWhatIsBusy_103, uX0_lookWhatIsBusy_105, uX0_lookWhatIsBusy_106, uX0_lookWhatIsBusy_107, uX0_lookWhatIsBusy_108, uX0_lookWhatIsBusy_109, uX0_lookWhatIsBusy_112, uX0_lookWhatIsBusy_115, uX0_lookWhatIsBusy_118, uX0_lookWhatIsBusy_121, pq_C_sI, pq_C_sJ, pq_C_sR, pq_C_sA, pq_L_sI, pq_L_sJ, pq_L_sR, pq_L_sA, pq_I_sI, pq_I_sJ, pq_I_sR, pq_I_sA, pq_J_sI, pq_J_sJ, pq_J_sR, pq_J_sA, pq_R_sI, pq_R_sJ, pq_R_sR, pq_R_sA, pq_N_sI, pq_N_sJ, pq_N_sR, pq_N_sA, pq_S_sI, pq_S_sJ, pq_S_sR, pq_S_sA, pz_rf_s, pz_cut_i, pz_cut_r, pz_cut_n, pz_cut_f, pz_cut_u, pz_cut_o, true_and, and_true, true_or, or_true, Option.toList_some, Option.toList_none, List.cons_append, List.nil_append, Nat.add_left_cancel_iff, Nat.left_eq_add, Nat.add_eq_left, Nat.reduceEqDiff, if_true, if_false, ite_true, ite_false, false_and, and_false, false_or, or_false, reduceIte, reduceCtorEq, and_self, z_4, z_5, z_7, z_8, z_10, z_16, z_20, z_64, not_false_eq_true, a1, a6, a7, a8, c1, c3, c4, c5, tn0, show ¬ (0 : Int32) < 0 by decide, show (64 : Int32).toNatClampNeg = 64 from rfl, show ¬ (64 : Int32) < 0 by decide, Nat.zero_add, Nat.le_refl, cpy_put]
  have Z0 : BZ (put (pz_I h 137) 0 64 (fun i => pz_I h (39 + 4 * a) i)) (bsS A a 0) := by
    intro P hP
    obtain ⟨m, m1, m2, m3⟩ := cb P hP
    refine ⟨m, m1, ?_, fun q hq => ?_⟩
    · have := put_in (f := pz_I h 137) (u := fun i => pz_I h (39 + 4 * a) i) (a := 0) hP
      rw [Nat.zero_add] at this
      rw [this, m2]
    · rw [m3 q hq, decide_eq_true_eq]
      unfold bsS
      rw [← Nat.add_assoc]
      constructor
      · exact Or.inl
      · rintro (z | ⟨b, hb, _⟩)
        · exact z
        · omega
  have F0 : HF [137] h (pz_sA h 137 (put (pz_I h 137) 0 64 (fun i => pz_I h (39 + 4 * a) i))) := HF_sA (by simp)
  refine wp_up 5 (fun b ls h' => HF [137] h h' ∧ BZ (pz_I h' 137) (bsS A a b) ∧ ∃ v4 v5 v6, pz_cut v4 = v4 ∧ ls = [.ref 132, .ref (36 + 4 * a), .int (nI a), .int (nI b), v4, v5, v6]) ?_ ?_ _ _ ⟨F0, by rw [pq_I_sA, if_pos rfl]; exact Z0, .retAddr 0, .retAddr 0, .retAddr 0, rfl, rfl⟩
  · rintro b ls h' hb ⟨F, Z', v4, v5, v6, c4', rfl⟩ K'
    have R' := RC_137 R F
    obtain ⟨a1, a2, a3, a4, a5, a6, a7, a8⟩ := ACT_of R'
    have n1 := R'.1.2.2.2.2.2.1.1
    rw [uX0_lookWhatIsBusy_17]
    by_cases e : a = b
    · subst e
      rw [uX0_lookWhatIsBusy_18, uX0_lookWhatIsBusy_19, if_neg (show ¬ (5 : Int32) ≤ nI a from nI_ge hb (by decide))]
      simp only [enX0_lookWhatIsBusy, uX0_lookWhatIsBusy_0, uX0_lookWhatIsBusy_0o, uX0_lookWhatIsBusy_0f, uX0_lookWhatIsBusy_1, uX0_lookWhatIsBusy_4, uX0_lookWhatIsBusy_5, uX0_lookWhatIsBusy_5o, uX0_lookWhatIsBusy_5f, uX0_lookWhatIsBusy_6, uX0_lookWhatIsBusy_9, uX0_lookWhatIsBusy_10, uX0_lookWhatIsBusy_12, uX0_lookWhatIsBusy_15, uX0_lookWhatIsBusy_16, uX0_lookWhatIsBusy_18, uX0_lookWhatIsBusy_19, uX0_lookWhatIsBusy_22, uX0_lookWhatIsBusy_22o, uX0_lookWhatIsBusy_22f, uX0_lookWhatIsBusy_23, uX0_lookWhatIsBusy_26, uX0_lookWhatIsBusy_27, uX0_lookWhatIsBusy_28, uX0_lookWhatIsBusy_31, uX0_lookWhatIsBusy_31o, uX0_lookWhatIsBusy_33, uX0_lookWhatIsBusy_34, uX0_lookWhatIsBusy_36, uX0_lookWhatIsBusy_36o, uX0_lookWhatIsBusy_36f, uX0_lookWhatIsBusy_38, uX0_lookWhatIsBusy_38a, uX0_lookWhatIsBusy_41, uX0_lookWhatIsBusy_43, uX0_lookWhatIsBusy_43o, uX0_lookWhatIsBusy_43f, uX0_lookWhatIsBusy_45, uX0_lookWhatIsBusy_48, uX0_lookWhatIsBusy_51, uX0_lookWhatIsBusy_53, uX0_lookWhatIsBusy_54, uX0_lookWhatIsBusy_57, uX0_lookWhatIsBusy_57o, uX0_lookWhatIsBusy_57f, uX0_lookWhatIsBusy_59, uX0_lookWhatIsBusy_62, uX0_lookWhatIsBusy_64, uX0_lookWhatIsBusy_65, uX0_lookWhatIsBusy_67, uX0_lookWhatIsBusy_68, uX0_lookWhatIsBusy_70, uX0_lookWhatIsBusy_70o, uX0_lookWhatIsBusy_70f, uX0_lookWhatIsBusy_71, uX0_lookWhatIsBusy_74, uX0_lookWhatIsBusy_77, uX0_lookWhatIsBusy_79, uX0_lookWhatIsBusy_80, uX0_lookWhatIsBusy_83, uX0_lookWhatIsBusy_86, uX0_lookWhatIsBusy_86o, uX0_lookWhatIsBusy_86f, uX0_lookWhatIsBusy_87, uX0_lookWhatIsBusy_90, uX0_lookWhatIsBusy_92, uX0_lookWhatIsBusy_93, uX0_lookWhatIsBusy_94, uX0_lookWhatIsBusy_95, uX0_lookWhatIsBusy_95o, uX0_lookWhatIsBusy_95f, uX0_lookWhatIsBusy_97, uX0_lookWhatIsBusy_100, uX0_lookWhatIsBusy_102, uX0_lookWhatIsBusy_103, uX0_lookWhatIsBusy_105, uX0_lookWhatIsBusy_106, uX0_lookWhatIsBusy_107, uX0_lookWhatIsBusy_108, uX0_lookWhatIsBusy_109, uX0_lookWhatIsBusy_112, uX0_lookWhatIsBusy_115, uX0_lookWhatIsBusy_118, uX0_lookWhatIsBusy_121, pq_C_sI, pq_C_sJ, pq_C_sR, pq_C_sA, pq_L_sI, pq_L_sJ, pq_L_sR, pq_L_sA, pq_I_sI, pq_I_sJ, pq_I_sR, pq_I_sA, pq_J_sI, pq_J_sJ, pq_J_sR, pq_J_sA, pq_R_sI, pq_R_sJ, pq_R_sR, pq_R_sA, pq_N_sI, pq_N_sJ, pq_N_sR, pq_N_sA, pq_S_sI, pq_S_sJ, pq_S_sR, pq_S_sA, pz_rf_s, pz_cut_i, pz_cut_r, pz_cut_n, pz_cut_f, pz_cut_u, pz_cut_o, true_and, and_true, true_or, or_true, Option.toList_some, Option.toList_none, List.cons_append, List.nil_append, Nat.add_left_cancel_iff, Nat.left_eq_add, Nat.add_eq_left, Nat.reduceEqDiff, if_true, if_false, ite_true, ite_false, false_and, and_false, false_or, or_false, reduceIte, reduceCtorEq, and_self, z_4, z_5, z_7, z_8, z_10, z_16, z_20, z_64, not_false_eq_true, a1, a2, n1, c_linkOf R'.1, lkO_eq (show a < 5 by omega), nI_1, pz_cut_o]
      refine K' _ _ ⟨F, BZ_iff Z' (fun v hv => ?_), _, _, _, pz_cut_o none, rfl⟩
      have zl : sL A (5 * a + a) = [] := ((I.2.1 a a (by omega) (by omega)).2.1 (Classical.byContradiction (fun z => ((I.2.1 a a (by omega) (by omega)).1 z).1 rfl))).2.2.2.2.2.2
      unfold bsS
      constructor
      · rintro (z | ⟨b', b1, b2⟩)
        · exact Or.inl z
        · exact Or.inr ⟨b', by omega, b2⟩
      · rintro (z | ⟨b', b1, b2⟩)
        · exact Or.inl z
        · by_cases e2 : b' = a
          · subst e2
            rw [zl] at b2
            simp at b2
          · exact Or.inr ⟨b', by omega, b2⟩
    · rw [uX0_lookWhatIsBusy_18, uX0_lookWhatIsBusy_19, if_neg (show ¬ (5 : Int32) ≤ nI b from nI_ge hb (by decide))]
      simp only [enX0_lookWhatIsBusy, uX0_lookWhatIsBusy_0, uX0_lookWhatIsBusy_0o, uX0_lookWhatIsBusy_0f, uX0_lookWhatIsBusy_1, uX0_lookWhatIsBusy_4, uX0_lookWhatIsBusy_5, uX0_lookWhatIsBusy_5o, uX0_lookWhatIsBusy_5f, uX0_lookWhatIsBusy_6, uX0_lookWhatIsBusy_9, uX0_lookWhatIsBusy_10, uX0_lookWhatIsBusy_12, uX0_lookWhatIsBusy_15, uX0_lookWhatIsBusy_16, uX0_lookWhatIsBusy_18, uX0_lookWhatIsBusy_19, uX0_lookWhatIsBusy_22, uX0_lookWhatIsBusy_22o, uX0_lookWhatIsBusy_22f, uX0_lookWhatIsBusy_23, uX0_lookWhatIsBusy_26, uX0_lookWhatIsBusy_27, uX0_lookWhatIsBusy_28, uX0_lookWhatIsBusy_31, uX0_lookWhatIsBusy_31o, uX0_lookWhatIsBusy_33, uX0_lookWhatIsBusy_34, uX0_lookWhatIsBusy_38, uX0_lookWhatIsBusy_38a, uX0_lookWhatIsBusy_41, uX0_lookWhatIsBusy_43, uX0_lookWhatIsBusy_43o, uX0_lookWhatIsBusy_43f, uX0_lookWhatIsBusy_45, uX0_lookWhatIsBusy_48, uX0_lookWhatIsBusy_51, uX0_lookWhatIsBusy_53, uX0_lookWhatIsBusy_54, uX0_lookWhatIsBusy_57, uX0_lookWhatIsBusy_57o, uX0_lookWhatIsBusy_57f, uX0_lookWhatIsBusy_59, uX0_lookWhatIsBusy_62, uX0_lookWhatIsBusy_64, uX0_lookWhatIsBusy_65, uX0_lookWhatIsBusy_67, uX0_lookWhatIsBusy_68, uX0_lookWhatIsBusy_70, uX0_lookWhatIsBusy_70o, uX0_lookWhatIsBusy_70f, uX0_lookWhatIsBusy_71, uX0_lookWhatIsBusy_74, uX0_lookWhatIsBusy_77, uX0_lookWhatIsBusy_79, uX0_lookWhatIsBusy_80, uX0_lookWhatIsBusy_83, uX0_lookWhatIsBusy_86, uX0_lookWhatIsBusy_86o, uX0_lookWhatIsBusy_86f, uX0_lookWhatIsBusy_87, uX0_lookWhatIsBusy_90, uX0_lookWhatIsBusy_92, uX0_lookWhatIsBusy_93, uX0_lookWhatIsBusy_94, uX0_lookWhatIsBusy_95, uX0_lookWhatIsBusy_95o, uX0_lookWhatIsBusy_95f, uX0_lookWhatIsBusy_97, uX0_lookWhatIsBusy_100, uX0_lookWhatIsBusy_102, uX0_lookWhatIsBusy_103, uX0_lookWhatIsBusy_105, uX0_lookWhatIsBusy_106, uX0_lookWhatIsBusy_107, uX0_lookWhatIsBusy_108, uX0_lookWhatIsBusy_109, uX0_lookWhatIsBusy_112, uX0_lookWhatIsBusy_115, uX0_lookWhatIsBusy_118, uX0_lookWhatIsBusy_121, pq_C_sI, pq_C_sJ, pq_C_sR, pq_C_sA, pq_L_sI, pq_L_sJ, pq_L_sR, pq_L_sA, pq_I_sI, pq_I_sJ, pq_I_sR, pq_I_sA, pq_J_sI, pq_J_sJ, pq_J_sR, pq_J_sA, pq_R_sI, pq_R_sJ, pq_R_sR, pq_R_sA, pq_N_sI, pq_N_sJ, pq_N_sR, pq_N_sA, pq_S_sI, pq_S_sJ, pq_S_sR, pq_S_sA, pz_rf_s, pz_cut_i, pz_cut_r, pz_cut_n, pz_cut_f, pz_cut_u, pz_cut_o, true_and, and_true, true_or, or_true, Option.toList_some, Option.toList_none, List.cons_append, List.nil_append, Nat.add_left_cancel_iff, Nat.left_eq_add, Nat.add_eq_left, Nat.reduceEqDiff, if_true, if_false, ite_true, ite_false, false_and, and_false, false_or, or_false, reduceIte, reduceCtorEq, and_self, z_4, z_5, z_7, z_8, z_10, z_16, z_20, z_64, not_false_eq_true, a1, a2, n1, c_linkOf R'.1, lkO_of (show a < 5 by omega) hb e]
      refine look_1 R' I ha hb e Z' (fun h2 v6' F2 Z2 => ?_)
      simp only [enX0_lookWhatIsBusy, uX0_lookWhatIsBusy_0, uX0_lookWhatIsBusy_0o, uX0_lookWhatIsBusy_0f, uX0_lookWhatIsBusy_1, uX0_lookWhatIsBusy_4, uX0_lookWhatIsBusy_5, uX0_lookWhatIsBusy_5o, uX0_lookWhatIsBusy_5f, uX0_lookWhatIsBusy_6, uX0_lookWhatIsBusy_9, uX0_lookWhatIsBusy_10, uX0_lookWhatIsBusy_12, uX0_lookWhatIsBusy_15, uX0_lookWhatIsBusy_16, uX0_lookWhatIsBusy_18, uX0_lookWhatIsBusy_19, uX0_lookWhatIsBusy_22, uX0_lookWhatIsBusy_22o, uX0_lookWhatIsBusy_22f, uX0_lookWhatIsBusy_23, uX0_lookWhatIsBusy_26, uX0_lookWhatIsBusy_27, uX0_lookWhatIsBusy_28, uX0_lookWhatIsBusy_31, uX0_lookWhatIsBusy_31o, uX0_lookWhatIsBusy_33, uX0_lookWhatIsBusy_34, uX0_lookWhatIsBusy_38, uX0_lookWhatIsBusy_38a, uX0_lookWhatIsBusy_41, uX0_lookWhatIsBusy_43, uX0_lookWhatIsBusy_43o, uX0_lookWhatIsBusy_43f, uX0_lookWhatIsBusy_45, uX0_lookWhatIsBusy_48, uX0_lookWhatIsBusy_51, uX0_lookWhatIsBusy_53, uX0_lookWhatIsBusy_54, uX0_lookWhatIsBusy_57, uX0_lookWhatIsBusy_57o, uX0_lookWhatIsBusy_57f, uX0_lookWhatIsBusy_59, uX0_lookWhatIsBusy_62, uX0_lookWhatIsBusy_64, uX0_lookWhatIsBusy_65, uX0_lookWhatIsBusy_67, uX0_lookWhatIsBusy_68, uX0_lookWhatIsBusy_70, uX0_lookWhatIsBusy_70o, uX0_lookWhatIsBusy_70f, uX0_lookWhatIsBusy_71, uX0_lookWhatIsBusy_74, uX0_lookWhatIsBusy_77, uX0_lookWhatIsBusy_79, uX0_lookWhatIsBusy_80, uX0_lookWhatIsBusy_83, uX0_lookWhatIsBusy_86, uX0_lookWhatIsBusy_86o, uX0_lookWhatIsBusy_86f, uX0_lookWhatIsBusy_87, uX0_lookWhatIsBusy_90, uX0_lookWhatIsBusy_92, uX0_lookWhatIsBusy_93, uX0_lookWhatIsBusy_94, uX0_lookWhatIsBusy_95, uX0_lookWhatIsBusy_95o, uX0_lookWhatIsBusy_95f, uX0_lookWhatIsBusy_97, uX0_lookWhatIsBusy_100, uX0_lookWhatIsBusy_102, uX0_lookWhatIsBusy_103, uX0_lookWhatIsBusy_105, uX0_lookWhatIsBusy_106, uX0_lookWhatIsBusy_107, uX0_lookWhatIsBusy_108, uX0_lookWhatIsBusy_109, uX0_lookWhatIsBusy_112, uX0_lookWhatIsBusy_115, uX0_lookWhatIsBusy_118, uX0_lookWhatIsBusy_121, pq_C_sI, pq_C_sJ, pq_C_sR, pq_C_sA, pq_L_sI, pq_L_sJ, pq_L_sR, pq_L_sA, pq_I_sI, pq_I_sJ, pq_I_sR, pq_I_sA, pq_J_sI, pq_J_sJ, pq_J_sR, pq_J_sA, pq_R_sI, pq_R_sJ, pq_R_sR, pq_R_sA, pq_N_sI, pq_N_sJ, pq_N_sR, pq_N_sA, pq_S_sI, pq_S_sJ, pq_S_sR, pq_S_sA, pz_rf_s, pz_cut_i, pz_cut_r, pz_cut_n, pz_cut_f, pz_cut_u, pz_cut_o, true_and, and_true, true_or, or_true, Option.toList_some, Option.toList_none, List.cons_append, List.nil_append, Nat.add_left_cancel_iff, Nat.left_eq_add, Nat.add_eq_left, Nat.reduceEqDiff, if_true, if_false, ite_true, ite_false, false_and, and_false, false_or, or_false, reduceIte, reduceCtorEq, and_self, z_4, z_5, z_7, z_8, z_10, z_16, z_20, z_64, not_false_eq_true, nI_1]
      exact K' _ _ ⟨HF_trans F F2, Z2, _, _, _, pz_cut_r _, rfl⟩
  · rintro ls h' ⟨F, Z', v4, v5, v6, c4', rfl⟩
    rw [uX0_lookWhatIsBusy_17]
    simp only [enX0_lookWhatIsBusy, uX0_lookWhatIsBusy_0, uX0_lookWhatIsBusy_0o, uX0_lookWhatIsBusy_0f, uX0_lookWhatIsBusy_1, uX0_lookWhatIsBusy_4, uX0_lookWhatIsBusy_5, uX0_lookWhatIsBusy_5o, uX0_lookWhatIsBusy_5f, uX0_lookWhatIsBusy_6, uX0_lookWhatIsBusy_9, uX0_lookWhatIsBusy_10, uX0_lookWhatIsBusy_12, uX0_lookWhatIsBusy_15, uX0_lookWhatIsBusy_16, uX0_lookWhatIsBusy_18, uX0_lookWhatIsBusy_19, uX0_lookWhatIsBusy_22, uX0_lookWhatIsBusy_22o, uX0_lookWhatIsBusy_22f, uX0_lookWhatIsBusy_23, uX0_lookWhatIsBusy_26, uX0_lookWhatIsBusy_27, uX0_lookWhatIsBusy_28, uX0_lookWhatIsBusy_31, uX0_lookWhatIsBusy_31o, uX0_lookWhatIsBusy_33, uX0_lookWhatIsBusy_34, uX0_lookWhatIsBusy_36, uX0_lookWhatIsBusy_36o, uX0_lookWhatIsBusy_36f, uX0_lookWhatIsBusy_38, uX0_lookWhatIsBusy_38a, uX0_lookWhatIsBusy_41, uX0_lookWhatIsBusy_43, uX0_lookWhatIsBusy_43o, uX0_lookWhatIsBusy_43f, uX0_lookWhatIsBusy_45, uX0_lookWhatIsBusy_48, uX0_lookWhatIsBusy_51, uX0_lookWhatIsBusy_53, uX0_lookWhatIsBusy_54, uX0_lookWhatIsBusy_57, uX0_lookWhatIsBusy_57o, uX0_lookWhatIsBusy_57f, uX0_lookWhatIsBusy_59, uX0_lookWhatIsBusy_62, uX0_lookWhatIsBusy_64, uX0_lookWhatIsBusy_65, uX0_lookWhatIsBusy_67, uX0_lookWhatIsBusy_68, uX0_lookWhatIsBusy_70, uX0_lookWhatIsBusy_70o, uX0_lookWhatIsBusy_70f, uX0_lookWhatIsBusy_71, uX0_lookWhatIsBusy_74, uX0_lookWhatIsBusy_77, uX0_lookWhatIsBusy_79, uX0_lookWhatIsBusy_80, uX0_lookWhatIsBusy_83, uX0_lookWhatIsBusy_86, uX0_lookWhatIsBusy_86o, uX0_lookWhatIsBusy_86f, uX0_lookWhatIsBusy_87, uX0_lookWhatIsBusy_90, uX0_lookWhatIsBusy_92, uX0_lookWhatIsBusy_93, uX0_lookWhatIsBusy_94, uX0_lookWhatIsBusy_95, uX0_lookWhatIsBusy_95o, uX0_lookWhatIsBusy_95f, uX0_lookWhatIsBusy_97, uX0_lookWhatIsBusy_100, uX0_lookWhatIsBusy_102, uX0_lookWhatIsBusy_103, uX0_lookWhatIsBusy_105, uX0_lookWhatIsBusy_106, uX0_lookWhatIsBusy_107, uX0_lookWhatIsBusy_108, uX0_lookWhatIsBusy_109, uX0_lookWhatIsBusy_112, uX0_lookWhatIsBusy_115, uX0_lookWhatIsBusy_118, uX0_lookWhatIsBusy_121, pq_C_sI, pq_C_sJ, pq_C_sR, pq_C_sA, pq_L_sI, pq_L_sJ, pq_L_sR, pq_L_sA, pq_I_sI, pq_I_sJ, pq_I_sR, pq_I_sA, pq_J_sI, pq_J_sJ, pq_J_sR, pq_J_sA, pq_R_sI, pq_R_sJ, pq_R_sR, pq_R_sA, pq_N_sI, pq_N_sJ, pq_N_sR, pq_N_sA, pq_S_sI, pq_S_sJ, pq_S_sR, pq_S_sA, pz_rf_s, pz_cut_i, pz_cut_r, pz_cut_n, pz_cut_f, pz_cut_u, pz_cut_o, true_and, and_true, true_or, or_true, Option.toList_some, Option.toList_none, List.cons_append, List.nil_append, Nat.add_left_cancel_iff, Nat.left_eq_add, Nat.add_eq_left, Nat.reduceEqDiff, if_true, if_false, ite_true, ite_false, false_and, and_false, false_or, or_false, reduceIte, reduceCtorEq, and_self, z_4, z_5, z_7, z_8, z_10, z_16, z_20, z_64, not_false_eq_true]
    rw [if_pos (show (5 : Int32) ≤ nI 5 by decide)]
    refine K h' F (BZ_iff Z' (fun v _ => ?_))
    unfold bsS bsy
    rw [anyN_iff]
end
