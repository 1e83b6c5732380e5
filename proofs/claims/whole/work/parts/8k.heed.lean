/-! ===== the class: a message; heedHave, heedRequest ===== -/
section
variable {d : Nat} {h : PzH} {Q : Option Value → PzH → Prop} {A : St} {l c p : Nat}
theorem be32_4 {w m : List Int8} {i : Nat} (h4 : w.length = 4) : be32 (w ++ m) (4 + i) = be32 m i := by
  unfold be32
  rw [← h4, getD_app2, Nat.add_assoc, getD_app2, Nat.add_assoc, getD_app2, Nat.add_assoc, getD_app2]
theorem bt_or {x : Int64} {P q : Nat} (hP : P < 64) (hq : q < 64) : (x ||| lN (2 ^ P)).toBitVec.getLsbD q = (x.toBitVec.getLsbD q || decide (q = P)) := by
  rw [Int64.toBitVec_or, BitVec.getLsbD_or, wb_tb, BitVec.getLsbD_ofNat, Nat.testBit_two_pow, decide_eq_true hq, Bool.true_and]
  congr 1
  exact decide_eq_decide.mpr ⟨fun z => z.symm, fun z => z.symm⟩
/-- what is told of the pieces of a link is written -/
theorem RC_J {a b : Nat} {y : Int64} {f : Nat → Int32} (R : RC h A) (ha : a < 5) (hb : b < 5) (hab : a ≠ b) (hy : BTS y (fun q => f (64 * (5 * a + b) + q))) (ho : ∀ j, j ≠ 5 * a + b → ∀ q, q < 64 → f (64 * j + q) = sB A 30 (64 * j + q)) : RC (pz_sJ h (lkA (5 * a + b)) 10 y) (pz_u1 (sB A) 30 f, A.2) := by
  have f1 : HF (lkC (5 * a + b)) h (pz_sJ h (lkA (5 * a + b)) 10 y) := HF_sJ (lkC_m.mpr (by omega))
  have f2 : HF [lkA (5 * a + b)] h (pz_sJ h (lkA (5 * a + b)) 10 y) := HF_sJ (by simp)
  obtain ⟨r0, r1, r3, r4, r5, r6, r7, r8, r9, r10, r12, r11, r13, rw⟩ := R.2.2.2.2.1 a b ha hb hab
  have eb : ∀ r, r ≠ 30 → sB ((pz_u1 (sB A) 30 f, A.2) : St) r = sB A r := fun r hr => by show pz_u1 (sB A) 30 f r = _; rw [gu_11, if_neg hr]
  refine RC_lk R ha hb hab f1 ?_ (fun k => by rw [eb 0 (by decide)]) rfl rfl rfl (fun s hs => eb s (by rintro rfl; revert hs; decide)) (fun s hs k hk => by rw [eb s (by rintro rfl; revert hs; decide)]) (fun k hk q hq => ho k hk q hq) (fun _ _ => rfl) (fun _ _ => rfl)
  unfold LR
  rw [eb 23 (by decide), eb 24 (by decide), eb 25 (by decide), eb 26 (by decide), eb 27 (by decide), eb 28 (by decide), eb 29 (by decide), eb 31 (by decide)]
  refine ⟨r0, r1, r3, r4, r5, r6, r7, r8, r9, ?_, r12, r11, r13, ROW_fr rw f2 (by simp) (by simp)⟩
  rw [pq_J_sJ, if_pos ⟨rfl, rfl⟩]
  exact hy
def havC (A : St) (a b p : Nat) (m : List Int8) : Int32 × St := if be32 m 1 < p then (0, (pz_u1 (sB A) 30 (upd (sB A 30) (64 * (5 * a + b) + be32 m 1) 1), A.2)) else (4, A)
theorem c_heedHave (R : RC h A) (I : OI A l c p) {a b : Nat} {w m : List Int8} (ha : a < 5) (hb : b < 5) (hab : a ≠ b) (M : ROW h 133 134 104 (w ++ m)) (hw : w.length = 4) (hm : m.length = 5) (K : ∀ h', HC h h' → RC h' (havC A a b p m).2 → Q (some (.int (havC A a b p m).1)) h') : pz_M (d + 2) mX0_heedHave [.ref 132, .ref (lkA (5 * a + b))] h Q := by
  obtain ⟨a1, a2, a3, a4, a5, a6, a7, a8⟩ := ACT_of R
  obtain ⟨⟨k1, k2, k3, k4, k5⟩, L⟩ := LN_of R ha hb hab
  obtain ⟨t, ht, tr, tc, T⟩ := TS_of R
  have n1 := R.1.2.2.2.2.2.1.1
  have t6 := I.1.1.2.2.2.2.2.1
  have lin := lkA_in (k := 5 * a + b) (by omega) (by omega)
  have M1 := M.1
  have hl : (w ++ m).length = 9 := by rw [List.length_append]; omega
  have b1 := be32_lt (l := m) (i := 1)
  have nb : ∀ {Q : Option Value → PzH → Prop}, pz_M (d + 1) mX6_number [.ref 133, .int 5] h Q ↔ Q (some (.long (lN (be32 m 1)))) h := fun {Q} => by
    have := c_number (d := d) (Q := Q) (i := 5) M (by decide)
    rw [if_pos (by omega), show 5 = 4 + 1 from rfl, be32_4 hw] at this
    exact this
  simp only [enX0_heedHave, uX0_heedHave_0, uX0_heedHave_0o, uX0_heedHave_0f, uX0_heedHave_1, uX0_heedHave_4, uX0_heedHave_5, uX0_heedHave_8, uX0_heedHave_9, uX0_heedHave_9o, uX0_heedHave_9f, uX0_heedHave_10, uX0_heedHave_13, uX0_heedHave_16, uX0_heedHave_17, uX0_heedHave_20, uX0_heedHave_23, uX0_heedHave_24, uX0_heedHave_25, uX0_heedHave_25o, uX0_heedHave_25f, uX0_heedHave_26, uX0_heedHave_27, uX0_heedHave_30, uX0_heedHave_31, uX0_heedHave_32, uX0_heedHave_33, uX0_heedHave_34, uX0_heedHave_35, uX0_heedHave_38, uX0_heedHave_39, pq_C_sI, pq_C_sJ, pq_C_sR, pq_C_sA, pq_L_sI, pq_L_sJ, pq_L_sR, pq_L_sA, pq_I_sI, pq_I_sJ, pq_I_sR, pq_I_sA, pq_J_sI, pq_J_sJ, pq_J_sR, pq_J_sA, pq_R_sI, pq_R_sJ, pq_R_sR, pq_R_sA, pq_N_sI, pq_N_sJ, pq_N_sR, pq_N_sA, pq_S_sI, pq_S_sJ, pq_S_sR, pq_S_sA, pz_rf_s, pz_cut_i, pz_cut_r, pz_cut_n, pz_cut_f, pz_cut_u, pz_cut_o, true_and, and_true, true_or, or_true, Option.toList_some, Option.toList_none, List.cons_append, List.nil_append, Nat.add_left_cancel_iff, Nat.left_eq_add, Nat.add_eq_left, Nat.reduceEqDiff, if_true, if_false, ite_true, ite_false, false_and, and_false, false_or, or_false, reduceIte, reduceCtorEq, and_self, z_4, z_5, z_7, z_8, z_10, z_16, z_20, z_64, not_false_eq_true, a1, a2, a4, n1, tr, tc, M1, nb, c_isPiece tc T I.1.1 (show be32 m 1 < 2 ^ 63 by omega), k1, lN_i]
  unfold havC at K
  by_cases q : be32 m 1 < p
  · rw [if_pos q] at K ⊢
    rw [if_pos (show ¬ (1 : Int32) = 0 by decide)]
    have es : (1 : Int64) <<< ((nI (be32 m 1)).toInt64 &&& 63) = lN (2 ^ be32 m 1) := by
      have := wb_shl 1 (k := be32 m 1) (by omega)
      rw [Nat.one_mul] at this
      exact this
    rw [es]
    have r10 := L.2.2.2.2.2.2.2.2.2.1
    refine K _ (HC_HF (cs := [lkA (5 * a + b)]) (HF_sJ (by simp)) (fun x hx => by simp at hx; omega)) (RC_J R ha hb hab (fun z hz => ?_) (fun j hj z hz => pk_un (by omega)))
    rw [bt_or (by omega) hz, r10 z hz]
    by_cases e : z = be32 m 1
    · subst e
      simp [pk_us]
    · show (decide (sB A 30 (64 * (5 * a + b) + z) ≠ 0) || decide (z = be32 m 1)) = decide (upd (sB A 30) (64 * (5 * a + b) + be32 m 1) 1 (64 * (5 * a + b) + z) ≠ 0)
      rw [pk_un (by omega), decide_eq_false e, Bool.or_false]
  · rw [if_neg q] at K ⊢
    rw [if_neg (fun z => z rfl)]
    exact K h HC_refl R
def reqC (A : St) (a b l c p : Nat) (m : List Int8) : Int32 × St :=
  if be32 m 1 < p ∧ 1 ≤ be32 m 9 ∧ be32 m 9 ≤ 64 ∧ be32 m 5 + be32 m 9 ≤ psz l c p (be32 m 1) then
    (if sB A 26 (5 * a + b) ≠ 0 ∨ sB A 20 (64 * a + be32 m 1) = 0 then (0, A) else (0, sndA (inc (sB A) (5 * a + 2), A.2) a b (pcL A a c (be32 m 1) (be32 m 5) (be32 m 9))))
  else (6, A)
theorem c_notePiece (R : RC h A) (I : OI A l c p) {a P W N : Nat} (ha : a < 4) (hth : sB A 18 a ≠ 0) (hP : P < p) (hN : N ≤ 64) (ho : P * c + W + N ≤ l) (K : ∀ h', HF [135, 136] h h' → ROW h' 135 136 104 (pcL A a c P W N) → Q none h') : pz_M (d + 3) mX0_notePiece [.ref 132, .ref (36 + 4 * a), .int (nI P), .int (nI W), .int (nI N)] h Q := by
  obtain ⟨a1, a2, a3, a4, a5, a6, a7, a8⟩ := ACT_of R
  obtain ⟨_, _, ⟨l0, N0⟩⟩ := R.2.2.2.2.2
  have N1 := N0.1
  have hD := I.1.2.2.2.1 a ha hth
  simp only [enX0_notePiece, uX0_notePiece_0, uX0_notePiece_0o, uX0_notePiece_0f, uX0_notePiece_1, uX0_notePiece_4, uX0_notePiece_5, uX0_notePiece_8, uX0_notePiece_8o, uX0_notePiece_8f, uX0_notePiece_9, uX0_notePiece_12, uX0_notePiece_14, uX0_notePiece_16, uX0_notePiece_17, uX0_notePiece_20, uX0_notePiece_20o, uX0_notePiece_20f, uX0_notePiece_21, uX0_notePiece_24, uX0_notePiece_26, uX0_notePiece_29, uX0_notePiece_29o, uX0_notePiece_29f, uX0_notePiece_30, uX0_notePiece_33, uX0_notePiece_34, uX0_notePiece_37, uX0_notePiece_37o, uX0_notePiece_37f, uX0_notePiece_38, uX0_notePiece_41, uX0_notePiece_42, uX0_notePiece_45, uX0_notePiece_45o, uX0_notePiece_45f, uX0_notePiece_46, uX0_notePiece_49, uX0_notePiece_49o, uX0_notePiece_49f, uX0_notePiece_50, uX0_notePiece_53, uX0_notePiece_53o, uX0_notePiece_53f, uX0_notePiece_54, uX0_notePiece_57, uX0_notePiece_60, uX0_notePiece_61, uX0_notePiece_64, uX0_notePiece_65, uX0_notePiece_66, uX0_notePiece_68, uX0_notePiece_71, pq_C_sI, pq_C_sJ, pq_C_sR, pq_C_sA, pq_L_sI, pq_L_sJ, pq_L_sR, pq_L_sA, pq_I_sI, pq_I_sJ, pq_I_sR, pq_I_sA, pq_J_sI, pq_J_sJ, pq_J_sR, pq_J_sA, pq_R_sI, pq_R_sJ, pq_R_sR, pq_R_sA, pq_N_sI, pq_N_sJ, pq_N_sR, pq_N_sA, pq_S_sI, pq_S_sJ, pq_S_sR, pq_S_sA, pz_rf_s, pz_cut_i, pz_cut_r, pz_cut_n, pz_cut_f, pz_cut_u, pz_cut_o, true_and, and_true, true_or, or_true, Option.toList_some, Option.toList_none, List.cons_append, List.nil_append, Nat.add_left_cancel_iff, Nat.left_eq_add, Nat.add_eq_left, Nat.reduceEqDiff, if_true, if_false, ite_true, ite_false, false_and, and_false, false_or, or_false, reduceIte, reduceCtorEq, and_self, z_4, z_5, z_7, z_8, z_10, z_16, z_20, z_64, not_false_eq_true, a1, a5, N1, show (9 : Int32) + nI N = nI (9 + N) from nI_add 9 N]
  refine c_cut0 N0 (fun h1 F1 W1 => ?_)
  have A1 : pz_C h1 132 = 0 ∧ pz_R h1 132 3 = some 135 := by rw [F1.1, F1.2.2.1]; exact ⟨a1, a5⟩
  have N1 := W1.1
  simp only [enX0_notePiece, uX0_notePiece_0, uX0_notePiece_0o, uX0_notePiece_0f, uX0_notePiece_1, uX0_notePiece_4, uX0_notePiece_5, uX0_notePiece_8, uX0_notePiece_8o, uX0_notePiece_8f, uX0_notePiece_9, uX0_notePiece_12, uX0_notePiece_14, uX0_notePiece_16, uX0_notePiece_17, uX0_notePiece_20, uX0_notePiece_20o, uX0_notePiece_20f, uX0_notePiece_21, uX0_notePiece_24, uX0_notePiece_26, uX0_notePiece_29, uX0_notePiece_29o, uX0_notePiece_29f, uX0_notePiece_30, uX0_notePiece_33, uX0_notePiece_34, uX0_notePiece_37, uX0_notePiece_37o, uX0_notePiece_37f, uX0_notePiece_38, uX0_notePiece_41, uX0_notePiece_42, uX0_notePiece_45, uX0_notePiece_45o, uX0_notePiece_45f, uX0_notePiece_46, uX0_notePiece_49, uX0_notePiece_49o, uX0_notePiece_49f, uX0_notePiece_50, uX0_notePiece_53, uX0_notePiece_53o, uX0_notePiece_53f, uX0_notePiece_54, uX0_notePiece_57, uX0_notePiece_60, uX0_notePiece_61, uX0_notePiece_64, uX0_notePiece_65, uX0_notePiece_66, uX0_notePiece_68, uX0_notePiece_71, pq_C_sI, pq_C_sJ, pq_C_sR, pq_C_sA, pq_L_sI, pq_L_sJ, pq_L_sR, pq_L_sA, pq_I_sI, pq_I_sJ, pq_I_sR, pq_I_sA, pq_J_sI, pq_J_sJ, pq_J_sR, pq_J_sA, pq_R_sI, pq_R_sJ, pq_R_sR, pq_R_sA, pq_N_sI, pq_N_sJ, pq_N_sR, pq_N_sA, pq_S_sI, pq_S_sJ, pq_S_sR, pq_S_sA, pz_rf_s, pz_cut_i, pz_cut_r, pz_cut_n, pz_cut_f, pz_cut_u, pz_cut_o, true_and, and_true, true_or, or_true, Option.toList_some, Option.toList_none, List.cons_append, List.nil_append, Nat.add_left_cancel_iff, Nat.left_eq_add, Nat.add_eq_left, Nat.reduceEqDiff, if_true, if_false, ite_true, ite_false, false_and, and_false, false_or, or_false, reduceIte, reduceCtorEq, and_self, z_4, z_5, z_7, z_8, z_10, z_16, z_20, z_64, not_false_eq_true, A1, N1, show (9 : Int32) + nI N = nI (9 + N) from nI_add 9 N]
  refine c_addNumber W1 (by simp) (fun h2 F2 W2 => ?_)
  have A2 : pz_C h2 132 = 0 ∧ pz_R h2 132 3 = some 135 := by rw [F2.1, F2.2.2.1]; exact A1
  have N2 := W2.1
  simp only [enX0_notePiece, uX0_notePiece_0, uX0_notePiece_0o, uX0_notePiece_0f, uX0_notePiece_1, uX0_notePiece_4, uX0_notePiece_5, uX0_notePiece_8, uX0_notePiece_8o, uX0_notePiece_8f, uX0_notePiece_9, uX0_notePiece_12, uX0_notePiece_14, uX0_notePiece_16, uX0_notePiece_17, uX0_notePiece_20, uX0_notePiece_20o, uX0_notePiece_20f, uX0_notePiece_21, uX0_notePiece_24, uX0_notePiece_26, uX0_notePiece_29, uX0_notePiece_29o, uX0_notePiece_29f, uX0_notePiece_30, uX0_notePiece_33, uX0_notePiece_34, uX0_notePiece_37, uX0_notePiece_37o, uX0_notePiece_37f, uX0_notePiece_38, uX0_notePiece_41, uX0_notePiece_42, uX0_notePiece_45, uX0_notePiece_45o, uX0_notePiece_45f, uX0_notePiece_46, uX0_notePiece_49, uX0_notePiece_49o, uX0_notePiece_49f, uX0_notePiece_50, uX0_notePiece_53, uX0_notePiece_53o, uX0_notePiece_53f, uX0_notePiece_54, uX0_notePiece_57, uX0_notePiece_60, uX0_notePiece_61, uX0_notePiece_64, uX0_notePiece_65, uX0_notePiece_66, uX0_notePiece_68, uX0_notePiece_71, pq_C_sI, pq_C_sJ, pq_C_sR, pq_C_sA, pq_L_sI, pq_L_sJ, pq_L_sR, pq_L_sA, pq_I_sI, pq_I_sJ, pq_I_sR, pq_I_sA, pq_J_sI, pq_J_sJ, pq_J_sR, pq_J_sA, pq_R_sI, pq_R_sJ, pq_R_sR, pq_R_sA, pq_N_sI, pq_N_sJ, pq_N_sR, pq_N_sA, pq_S_sI, pq_S_sJ, pq_S_sR, pq_S_sA, pz_rf_s, pz_cut_i, pz_cut_r, pz_cut_n, pz_cut_f, pz_cut_u, pz_cut_o, true_and, and_true, true_or, or_true, Option.toList_some, Option.toList_none, List.cons_append, List.nil_append, Nat.add_left_cancel_iff, Nat.left_eq_add, Nat.add_eq_left, Nat.reduceEqDiff, if_true, if_false, ite_true, ite_false, false_and, and_false, false_or, or_false, reduceIte, reduceCtorEq, and_self, z_4, z_5, z_7, z_8, z_10, z_16, z_20, z_64, not_false_eq_true, A2, N2]
  refine c_add W2 (by simp [be4]) (fun h3 F3 W3 => ?_)
  have A3 : pz_C h3 132 = 0 ∧ pz_R h3 132 3 = some 135 := by rw [F3.1, F3.2.2.1]; exact A2
  have N3 := W3.1
  simp only [enX0_notePiece, uX0_notePiece_0, uX0_notePiece_0o, uX0_notePiece_0f, uX0_notePiece_1, uX0_notePiece_4, uX0_notePiece_5, uX0_notePiece_8, uX0_notePiece_8o, uX0_notePiece_8f, uX0_notePiece_9, uX0_notePiece_12, uX0_notePiece_14, uX0_notePiece_16, uX0_notePiece_17, uX0_notePiece_20, uX0_notePiece_20o, uX0_notePiece_20f, uX0_notePiece_21, uX0_notePiece_24, uX0_notePiece_26, uX0_notePiece_29, uX0_notePiece_29o, uX0_notePiece_29f, uX0_notePiece_30, uX0_notePiece_33, uX0_notePiece_34, uX0_notePiece_37, uX0_notePiece_37o, uX0_notePiece_37f, uX0_notePiece_38, uX0_notePiece_41, uX0_notePiece_42, uX0_notePiece_45, uX0_notePiece_45o, uX0_notePiece_45f, uX0_notePiece_46, uX0_notePiece_49, uX0_notePiece_49o, uX0_notePiece_49f, uX0_notePiece_50, uX0_notePiece_53, uX0_notePiece_53o, uX0_notePiece_53f, uX0_notePiece_54, uX0_notePiece_57, uX0_notePiece_60, uX0_notePiece_61, uX0_notePiece_64, uX0_notePiece_65, uX0_notePiece_66, uX0_notePiece_68, uX0_notePiece_71, pq_C_sI, pq_C_sJ, pq_C_sR, pq_C_sA, pq_L_sI, pq_L_sJ, pq_L_sR, pq_L_sA, pq_I_sI, pq_I_sJ, pq_I_sR, pq_I_sA, pq_J_sI, pq_J_sJ, pq_J_sR, pq_J_sA, pq_R_sI, pq_R_sJ, pq_R_sR, pq_R_sA, pq_N_sI, pq_N_sJ, pq_N_sR, pq_N_sA, pq_S_sI, pq_S_sJ, pq_S_sR, pq_S_sA, pz_rf_s, pz_cut_i, pz_cut_r, pz_cut_n, pz_cut_f, pz_cut_u, pz_cut_o, true_and, and_true, true_or, or_true, Option.toList_some, Option.toList_none, List.cons_append, List.nil_append, Nat.add_left_cancel_iff, Nat.left_eq_add, Nat.add_eq_left, Nat.reduceEqDiff, if_true, if_false, ite_true, ite_false, false_and, and_false, false_or, or_false, reduceIte, reduceCtorEq, and_self, z_4, z_5, z_7, z_8, z_10, z_16, z_20, z_64, not_false_eq_true, A3, N3]
  refine c_addNumber W3 (by simp [be4]) (fun h4 F4 W4 => ?_)
  have A4 : pz_C h4 132 = 0 ∧ pz_R h4 132 3 = some 135 := by rw [F4.1, F4.2.2.1]; exact A3
  have N4 := W4.1
  simp only [enX0_notePiece, uX0_notePiece_0, uX0_notePiece_0o, uX0_notePiece_0f, uX0_notePiece_1, uX0_notePiece_4, uX0_notePiece_5, uX0_notePiece_8, uX0_notePiece_8o, uX0_notePiece_8f, uX0_notePiece_9, uX0_notePiece_12, uX0_notePiece_14, uX0_notePiece_16, uX0_notePiece_17, uX0_notePiece_20, uX0_notePiece_20o, uX0_notePiece_20f, uX0_notePiece_21, uX0_notePiece_24, uX0_notePiece_26, uX0_notePiece_29, uX0_notePiece_29o, uX0_notePiece_29f, uX0_notePiece_30, uX0_notePiece_33, uX0_notePiece_34, uX0_notePiece_37, uX0_notePiece_37o, uX0_notePiece_37f, uX0_notePiece_38, uX0_notePiece_41, uX0_notePiece_42, uX0_notePiece_45, uX0_notePiece_45o, uX0_notePiece_45f, uX0_notePiece_46, uX0_notePiece_49, uX0_notePiece_49o, uX0_notePiece_49f, uX0_notePiece_50, uX0_notePiece_53, uX0_notePiece_53o, uX0_notePiece_53f, uX0_notePiece_54, uX0_notePiece_57, uX0_notePiece_60, uX0_notePiece_61, uX0_notePiece_64, uX0_notePiece_65, uX0_notePiece_66, uX0_notePiece_68, uX0_notePiece_71, pq_C_sI, pq_C_sJ, pq_C_sR, pq_C_sA, pq_L_sI, pq_L_sJ, pq_L_sR, pq_L_sA, pq_I_sI, pq_I_sJ, pq_I_sR, pq_I_sA, pq_J_sI, pq_J_sJ, pq_J_sR, pq_J_sA, pq_R_sI, pq_R_sJ, pq_R_sR, pq_R_sA, pq_N_sI, pq_N_sJ, pq_N_sR, pq_N_sA, pq_S_sI, pq_S_sJ, pq_S_sR, pq_S_sA, pz_rf_s, pz_cut_i, pz_cut_r, pz_cut_n, pz_cut_f, pz_cut_u, pz_cut_o, true_and, and_true, true_or, or_true, Option.toList_some, Option.toList_none, List.cons_append, List.nil_append, Nat.add_left_cancel_iff, Nat.left_eq_add, Nat.add_eq_left, Nat.reduceEqDiff, if_true, if_false, ite_true, ite_false, false_and, and_false, false_or, or_false, reduceIte, reduceCtorEq, and_self, z_4, z_5, z_7, z_8, z_10, z_16, z_20, z_64, not_false_eq_true, A4, N4]
  refine c_addNumber W4 (by simp [be4]) (fun h5 F5 W5 => ?_)
  have F15 : HF [135, 136] h h5 := HF_trans F1 (HF_trans F2 (HF_trans F3 (HF_trans F4 F5)))
  have R5 := RC_note R F15 W5
  obtain ⟨b1, b2, b3, b4, b5, b6, b7, b8⟩ := ACT_of R5
  obtain ⟨⟨c1, c2, c3, c4, c5⟩, CRa⟩ := CL_of R5 ha
  obtain ⟨rd, _⟩ := CRa.2.2 hth
  obtain ⟨t, ht, tr, tc, T⟩ := TS_of R5
  have n1 := R5.1.2.2.2.2.2.1.1
  have N5 := W5.1
  have e37 : 36 + 4 * a + 1 = 37 + 4 * a := by omega
  rw [e37] at c2
  simp only [enX0_notePiece, uX0_notePiece_0, uX0_notePiece_0o, uX0_notePiece_0f, uX0_notePiece_1, uX0_notePiece_4, uX0_notePiece_5, uX0_notePiece_8, uX0_notePiece_8o, uX0_notePiece_8f, uX0_notePiece_9, uX0_notePiece_12, uX0_notePiece_14, uX0_notePiece_16, uX0_notePiece_17, uX0_notePiece_20, uX0_notePiece_20o, uX0_notePiece_20f, uX0_notePiece_21, uX0_notePiece_24, uX0_notePiece_26, uX0_notePiece_29, uX0_notePiece_29o, uX0_notePiece_29f, uX0_notePiece_30, uX0_notePiece_33, uX0_notePiece_34, uX0_notePiece_37, uX0_notePiece_37o, uX0_notePiece_37f, uX0_notePiece_38, uX0_notePiece_41, uX0_notePiece_42, uX0_notePiece_45, uX0_notePiece_45o, uX0_notePiece_45f, uX0_notePiece_46, uX0_notePiece_49, uX0_notePiece_49o, uX0_notePiece_49f, uX0_notePiece_50, uX0_notePiece_53, uX0_notePiece_53o, uX0_notePiece_53f, uX0_notePiece_54, uX0_notePiece_57, uX0_notePiece_60, uX0_notePiece_61, uX0_notePiece_64, uX0_notePiece_65, uX0_notePiece_66, uX0_notePiece_68, uX0_notePiece_71, pq_C_sI, pq_C_sJ, pq_C_sR, pq_C_sA, pq_L_sI, pq_L_sJ, pq_L_sR, pq_L_sA, pq_I_sI, pq_I_sJ, pq_I_sR, pq_I_sA, pq_J_sI, pq_J_sJ, pq_J_sR, pq_J_sA, pq_R_sI, pq_R_sJ, pq_R_sR, pq_R_sA, pq_N_sI, pq_N_sJ, pq_N_sR, pq_N_sA, pq_S_sI, pq_S_sJ, pq_S_sR, pq_S_sA, pz_rf_s, pz_cut_i, pz_cut_r, pz_cut_n, pz_cut_f, pz_cut_u, pz_cut_o, true_and, and_true, true_or, or_true, Option.toList_some, Option.toList_none, List.cons_append, List.nil_append, Nat.add_left_cancel_iff, Nat.left_eq_add, Nat.add_eq_left, Nat.reduceEqDiff, if_true, if_false, ite_true, ite_false, false_and, and_false, false_or, or_false, reduceIte, reduceCtorEq, and_self, z_4, z_5, z_7, z_8, z_10, z_16, z_20, z_64, not_false_eq_true, b1, b2, b5, n1, tr, tc, N5, c1, c2, c_pieceBegin tc T I.1.1, nI_add]
  refine c_addPart W5 rd ⟨by omega, by omega⟩ (by rw [hD]; exact ho) (by simp [be4]; omega) (fun h6 F6 W6 => ?_)
  simp only [enX0_notePiece, uX0_notePiece_0, uX0_notePiece_0o, uX0_notePiece_0f, uX0_notePiece_1, uX0_notePiece_4, uX0_notePiece_5, uX0_notePiece_8, uX0_notePiece_8o, uX0_notePiece_8f, uX0_notePiece_9, uX0_notePiece_12, uX0_notePiece_14, uX0_notePiece_16, uX0_notePiece_17, uX0_notePiece_20, uX0_notePiece_20o, uX0_notePiece_20f, uX0_notePiece_21, uX0_notePiece_24, uX0_notePiece_26, uX0_notePiece_29, uX0_notePiece_29o, uX0_notePiece_29f, uX0_notePiece_30, uX0_notePiece_33, uX0_notePiece_34, uX0_notePiece_37, uX0_notePiece_37o, uX0_notePiece_37f, uX0_notePiece_38, uX0_notePiece_41, uX0_notePiece_42, uX0_notePiece_45, uX0_notePiece_45o, uX0_notePiece_45f, uX0_notePiece_46, uX0_notePiece_49, uX0_notePiece_49o, uX0_notePiece_49f, uX0_notePiece_50, uX0_notePiece_53, uX0_notePiece_53o, uX0_notePiece_53f, uX0_notePiece_54, uX0_notePiece_57, uX0_notePiece_60, uX0_notePiece_61, uX0_notePiece_64, uX0_notePiece_65, uX0_notePiece_66, uX0_notePiece_68, uX0_notePiece_71, pq_C_sI, pq_C_sJ, pq_C_sR, pq_C_sA, pq_L_sI, pq_L_sJ, pq_L_sR, pq_L_sA, pq_I_sI, pq_I_sJ, pq_I_sR, pq_I_sA, pq_J_sI, pq_J_sJ, pq_J_sR, pq_J_sA, pq_R_sI, pq_R_sJ, pq_R_sR, pq_R_sA, pq_N_sI, pq_N_sJ, pq_N_sR, pq_N_sA, pq_S_sI, pq_S_sJ, pq_S_sR, pq_S_sA, pz_rf_s, pz_cut_i, pz_cut_r, pz_cut_n, pz_cut_f, pz_cut_u, pz_cut_o, true_and, and_true, true_or, or_true, Option.toList_some, Option.toList_none, List.cons_append, List.nil_append, Nat.add_left_cancel_iff, Nat.left_eq_add, Nat.add_eq_left, Nat.reduceEqDiff, if_true, if_false, ite_true, ite_false, false_and, and_false, false_or, or_false, reduceIte, reduceCtorEq, and_self, z_4, z_5, z_7, z_8, z_10, z_16, z_20, z_64, not_false_eq_true]
  refine K h6 (HF_trans F15 F6) ?_
  have e : [] ++ be4 (nI (9 + N)) ++ [Int32.toInt8 7] ++ be4 (nI P) ++ be4 (nI W) ++ ofF (fun i => (sD A a).getD (P * c + W + i) 0) N = pcL A a c P W N := by
    unfold pcL dkL
    simp only [List.nil_append, List.append_assoc]
  rw [e] at W6
  exact W6
/-- a client's cells change -/
theorem RC_cl1 {h' : PzH} {A' : St} {k : Nat} (R : RC h A) (hk : k < 4) (f : HF [36 + 4 * k, 37 + 4 * k, 38 + 4 * k, 39 + 4 * k] h h') (C' : CR h' A' k) (e0 : ∀ j, sB A' 0 j = sB A 0 j) (eV : sV A' = sV A) (eF : sF A' = sF A) (eW : sW A' = sW A) (eL : sL A' = sL A) (eD : ∀ j, j ≠ k → sD A' j = sD A j) (eB : ∀ r, r ∈ [23, 24, 25, 26, 27, 28, 29, 30, 31] → sB A' r = sB A r) (e18 : ∀ j, j ≠ k → sB A' 18 j = sB A 18 j) (e20 : ∀ j, j ≠ k → ∀ q, q < 64 → sB A' 20 (64 * j + q) = sB A 20 (64 * j + q)) (e21 : ∀ j, j ≠ k → ∀ v, v < 1024 → sB A' 21 (1024 * j + v) = sB A 21 (1024 * j + v)) (e22 : ∀ j, j ≠ k → ∀ v, v < 5 → sB A' 22 (5 * j + v) = sB A 22 (5 * j + v)) : RC h' A' := by
  obtain ⟨C, T, B, CL, LL, J⟩ := R
  have out : ∀ z, (z < 36 + 4 * k ∨ 39 + 4 * k < z) → z ∉ [36 + 4 * k, 37 + 4 * k, 38 + 4 * k, 39 + 4 * k] := by
    intro z hz q
    simp only [List.mem_cons, List.not_mem_nil, or_false] at q
    omega
  refine ⟨CO_fr C f, TRS_fr T f (fun z h1 h2 => out z (by omega)) e0 eV eF, BYS_fr B f (fun z hz => out z (by omega)) e0 eV, fun j hj => ?_, fun x y hx hy hxy => ?_, JNK_fr J f (fun z hz => out z (by omega))⟩
  · by_cases e : j = k
    · subst e; exact C'
    · have f8 := f.2.2.2.2.2.2.2.1
      have f9 := f.2.2.2.2.2.2.2.2
      obtain ⟨c0, ⟨l, w⟩, c1⟩ := CL j hj
      unfold CR
      rw [f8 (36 + 4 * j) (out _ (by omega)), f8 (39 + 4 * j) (out _ (by omega)), f9 (36 + 4 * j) (out _ (by omega)), e18 j e, eD j e, e22 j e 1 (by decide), e22 j e 2 (by decide), e22 j e 3 (by decide), e22 j e 4 (by decide)]
      refine ⟨c0, ⟨l, ROW_fr w f (out _ (by omega)) (out _ (by omega))⟩, fun z => ?_⟩
      obtain ⟨d1, d2, d3, d4⟩ := c1 z
      refine ⟨ROW_fr d1 f (out _ (by omega)) (out _ (by omega)), fun q hq => ?_, fun P hP => ?_, d4⟩
      · rw [d2 q hq]
        show decide (sB A 20 (64 * j + q) ≠ 0) = decide (sB A' 20 (64 * j + q) ≠ 0)
        rw [e20 j e q hq]
      · obtain ⟨m, m1, m2, m3⟩ := d3 P hP
        refine ⟨m, m1, m2, fun q hq => ?_⟩
        rw [m3 q hq, Nat.add_assoc, e21 j e (16 * P + q) (by omega)]
  · have l1 := lkA_in (k := 5 * x + y) (by omega) (by omega)
    refine LR_A (LR_fr (LL x y hx hy hxy) f (fun z hz => out z (by rw [lkC_m] at hz; omega))) (fun r hr => ?_) (fun q hq => ?_) (by rw [eL]) (by rw [eW])
    · rw [eB r (by simp only [List.mem_cons, List.not_mem_nil, or_false] at hr ⊢; omega)]
    · rw [eB 30 (by decide)]
theorem RC_cnt {k i : Nat} {v : Int32} (R : RC h A) (hk : k < 4) (hi : 1 ≤ i ∧ i ≤ 4) : RC (pz_sI h (36 + 4 * k) (3 + i) v) (pz_u2 (sB A) 22 (5 * k + i) v, A.2) := by
  have f : HF [36 + 4 * k, 37 + 4 * k, 38 + 4 * k, 39 + 4 * k] h (pz_sI h (36 + 4 * k) (3 + i) v) := HF_sI (by simp)
  have f2 : HF [36 + 4 * k] h (pz_sI h (36 + 4 * k) (3 + i) v) := HF_sI (by simp)
  have eb : ∀ r, r ≠ 22 → sB ((pz_u2 (sB A) 22 (5 * k + i) v, A.2) : St) r = sB A r := fun r hr => gu_r hr
  refine RC_cl1 R hk f ?_ (fun j => by rw [eb 0 (by decide)]) rfl rfl rfl rfl (fun _ _ => rfl) (fun r hr => eb r (by rintro rfl; revert hr; decide)) (fun j _ => by rw [eb 18 (by decide)]) (fun j _ q _ => by rw [eb 20 (by decide)]) (fun j _ w _ => by rw [eb 21 (by decide)]) (fun j hj w hw => by
    show pz_u2 (sB A) 22 (5 * k + i) v 22 (5 * j + w) = _
    rw [gu_22, if_neg (fun z => by omega)])
  obtain ⟨c0, ⟨l, w⟩, c1⟩ := R.2.2.2.1 k hk
  have iv : ∀ j, pz_I (pz_sI h (36 + 4 * k) (3 + i) v) (36 + 4 * k) j = if j = 3 + i then v else pz_I h (36 + 4 * k) j := by
    intro j
    rw [pq_I_sI]
    by_cases e : j = 3 + i
    · rw [if_pos ⟨rfl, e⟩, if_pos e]
    · rw [if_neg (fun z => e z.2), if_neg e]
  have i39 : pz_I (pz_sI h (36 + 4 * k) (3 + i) v) (39 + 4 * k) = pz_I h (39 + 4 * k) := by
    funext j
    rw [pq_I_sI, if_neg (by omega)]
  have bv : ∀ j, sB ((pz_u2 (sB A) 22 (5 * k + i) v, A.2) : St) 22 (5 * k + j) = if j = i then v else sB A 22 (5 * k + j) := by
    intro j
    show pz_u2 (sB A) 22 (5 * k + i) v 22 (5 * k + j) = _
    rw [gu_22]
    by_cases e : j = i
    · rw [if_pos ⟨rfl, by omega⟩, if_pos e]
    · rw [if_neg (fun z => by omega), if_neg e]
  unfold CR
  rw [iv 0, iv 4, iv 5, iv 6, iv 7, i39, eb 18 (by decide), eb 20 (by decide), eb 21 (by decide), bv 1, bv 2, bv 3, bv 4]
  refine ⟨by rw [if_neg (by omega)]; exact c0, ⟨l, ROW_fr w f2 (by simp) (by simp)⟩, fun z => ?_⟩
  obtain ⟨d1, d2, d3, d4, d5, d6, d7⟩ := c1 z
  have hc : i = 1 ∨ i = 2 ∨ i = 3 ∨ i = 4 := by omega
  refine ⟨ROW_fr d1 f2 (by simp) (by simp), d2, d3, ?_, ?_, ?_, ?_⟩
  · rcases hc with rfl | rfl | rfl | rfl <;> first | rfl | exact d4
  · rcases hc with rfl | rfl | rfl | rfl <;> first | rfl | exact d5
  · rcases hc with rfl | rfl | rfl | rfl <;> first | rfl | exact d6
  · rcases hc with rfl | rfl | rfl | rfl <;> first | rfl | exact d7
end
