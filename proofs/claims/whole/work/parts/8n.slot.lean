/-! ===== the class: slotOfMessage, takeAsked ===== -/
theorem swap_rem {M : List Nat} {j : Nat} (hj : j < M.length) : M.Perm (M.getD j 0 :: (M.set j (M.getD (M.length - 1) 0)).take (M.length - 1)) := by
  have hl : M.length - 1 < M.length := by omega
  have e1 : M.getD j 0 = M[j] := by simp [List.getD, hj]
  have e2 : M.getD (M.length - 1) 0 = M[M.length - 1] := by simp [List.getD, hl]
  have p := List.set_set_perm hj hl
  rw [e1, e2]
  generalize hX : M.set j M[M.length - 1] = X at p
  have lX : X.length = M.length := by rw [← hX]; simp
  have e3 : X.set (M.length - 1) M[j] = X.take (M.length - 1) ++ [M[j]] := by
    rw [List.set_eq_take_append_cons_drop, if_pos (by omega), List.drop_eq_nil_of_le (by omega)]
  rw [e3] at p
  exact p.symm.trans List.perm_append_comm
section
variable {d : Nat} {h : PzH} {Q : Option Value → PzH → Prop} {A : St} {l c p : Nat}
/-- which of what is asked a PIECE is -/
def sltO (M : List Nat) (l c p : Nat) (m : List Int8) : Option Nat := fstN (fun j => gvP l c p m (M.getD j 0)) M.length
theorem c_slot (R : RC h A) (I : OI A l c p) {a b : Nat} {w m : List Int8} (ha : a < 4) (hb : b < 5) (hab : a ≠ b) (M : ROW h 133 134 104 (w ++ m)) (hw : w.length = 4) (hm : 10 ≤ m.length ∧ m.length ≤ 73) {Y : List Nat} (P1 : Y.Perm (sL A (5 * a + b))) (Y4 : Y.length ≤ 4) (Yv : ∀ v, v ∈ Y → v < 1024) (Yf : ∀ i, i < Y.length → pz_I h (lkA (5 * a + b) + 3) i = nI (Y.getD i 0)) : pz_M (d + 4) mX0_slotOfMessage [.ref 132, .ref (lkA (5 * a + b))] h Q ↔ Q (some (.int (kyOf (sltO Y l c p m)))) h := by
  obtain ⟨a1, a2, a3, a4, a5, a6, a7, a8⟩ := ACT_of R
  obtain ⟨⟨k1, k2, k3, k4, k5⟩, L⟩ := LN_of R (show a < 5 by omega) hb hab
  obtain ⟨t, ht, tr, tc, T⟩ := TS_of R
  have n1 := R.1.2.2.2.2.2.1.1
  have t6 := I.1.1.2.2.2.2.2.1
  have t5 := I.1.1.2.2.2.2.1
  have M1 := M.1
  have hl : (w ++ m).length = 4 + m.length := by rw [List.length_append]; omega
  have r12 := L.2.2.2.2.2.2.2.2.2.2.1
  rw [← P1.length_eq] at r12
  have b1 := be32_lt (l := m) (i := 1)
  have b5 := be32_lt (l := m) (i := 5)
  have nb : ∀ (i : Nat), i + 4 ≤ 10 → ∀ {Q : Option Value → PzH → Prop}, pz_M (d + 3) mX6_number [.ref 133, .int (nI (4 + i))] h Q ↔ Q (some (.long (lN (be32 m i)))) h := fun i hi {Q} => by
    have := c_number (d := d + 2) (Q := Q) (i := 4 + i) M (by omega)
    rw [if_pos (by omega), be32_4 hw] at this
    exact this
  have n5 : ∀ {Q : Option Value → PzH → Prop}, pz_M (d + 3) mX6_number [.ref 133, .int 5] h Q ↔ Q (some (.long (lN (be32 m 1)))) h := fun {Q} => nb 1 (by decide)
  have n9 : ∀ {Q : Option Value → PzH → Prop}, pz_M (d + 3) mX6_number [.ref 133, .int 9] h Q ↔ Q (some (.long (lN (be32 m 5)))) h := fun {Q} => nb 5 (by decide)
  have esz : nI (4 + m.length) - 13 = nI (m.length - 9) := by
    rw [show nI (4 + m.length) - 13 = nI (4 + m.length - 13) from pk_sub (b := 13) (by omega), show 4 + m.length - 13 = m.length - 9 by omega]
  simp only [enX0_slotOfMessage, uX0_slotOfMessage_0, uX0_slotOfMessage_1, uX0_slotOfMessage_3, uX0_slotOfMessage_3o, uX0_slotOfMessage_3f, uX0_slotOfMessage_4, uX0_slotOfMessage_7, uX0_slotOfMessage_10, uX0_slotOfMessage_11, uX0_slotOfMessage_12, uX0_slotOfMessage_15, uX0_slotOfMessage_15o, uX0_slotOfMessage_15f, uX0_slotOfMessage_16, uX0_slotOfMessage_19, uX0_slotOfMessage_20, uX0_slotOfMessage_21, uX0_slotOfMessage_23, uX0_slotOfMessage_24, uX0_slotOfMessage_25, uX0_slotOfMessage_25o, uX0_slotOfMessage_25f, uX0_slotOfMessage_26, uX0_slotOfMessage_29, uX0_slotOfMessage_30, uX0_slotOfMessage_31, uX0_slotOfMessage_33, uX0_slotOfMessage_34, uX0_slotOfMessage_36, uX0_slotOfMessage_36o, uX0_slotOfMessage_36f, uX0_slotOfMessage_37, uX0_slotOfMessage_40, uX0_slotOfMessage_41, uX0_slotOfMessage_44, uX0_slotOfMessage_45, uX0_slotOfMessage_46, uX0_slotOfMessage_47, uX0_slotOfMessage_50, uX0_slotOfMessage_50o, uX0_slotOfMessage_50f, uX0_slotOfMessage_51, uX0_slotOfMessage_54, uX0_slotOfMessage_56, uX0_slotOfMessage_59, uX0_slotOfMessage_61, uX0_slotOfMessage_63, uX0_slotOfMessage_64, uX0_slotOfMessage_65, uX0_slotOfMessage_66, uX0_slotOfMessage_69, uX0_slotOfMessage_69o, uX0_slotOfMessage_69f, uX0_slotOfMessage_70, uX0_slotOfMessage_73, uX0_slotOfMessage_76, uX0_slotOfMessage_78, uX0_slotOfMessage_79, uX0_slotOfMessage_79o, uX0_slotOfMessage_79f, uX0_slotOfMessage_80, uX0_slotOfMessage_83, uX0_slotOfMessage_86, uX0_slotOfMessage_87, uX0_slotOfMessage_89, uX0_slotOfMessage_92, uX0_slotOfMessage_95, uX0_slotOfMessage_96, uX0_slotOfMessage_97, uX0_slotOfMessage_100, uX0_slotOfMessage_103, uX0_slotOfMessage_104, pq_C_sI, pq_C_sJ, pq_C_sR, pq_C_sA, pq_L_sI, pq_L_sJ, pq_L_sR, pq_L_sA, pq_I_sI, pq_I_sJ, pq_I_sR, pq_I_sA, pq_J_sI, pq_J_sJ, pq_J_sR, pq_J_sA, pq_R_sI, pq_R_sJ, pq_R_sR, pq_R_sA, pq_N_sI, pq_N_sJ, pq_N_sR, pq_N_sA, pq_S_sI, pq_S_sJ, pq_S_sR, pq_S_sA, pz_rf_s, pz_cut_i, pz_cut_r, pz_cut_n, pz_cut_f, pz_cut_u, pz_cut_o, true_and, and_true, true_or, or_true, Option.toList_some, Option.toList_none, List.cons_append, List.nil_append, Nat.add_left_cancel_iff, Nat.left_eq_add, Nat.add_eq_left, Nat.reduceEqDiff, if_true, if_false, ite_true, ite_false, false_and, and_false, false_or, or_false, reduceIte, reduceCtorEq, and_self, z_4, z_5, z_7, z_8, z_10, z_16, z_20, z_64, not_false_eq_true]
  -- one turn
  have one : ∀ (i : Nat) (v3 v4 : Value), i < Y.length → pz_cut v3 = v3 → ∃ v3' v4', pz_cut v3' = v3' ∧ (wp (d + 3) mX0_slotOfMessage 2 [.ref 132, .ref (lkA (5 * a + b)), .int (nI i), v3, v4] [] h Q ↔ (if gvP l c p m (Y.getD i 0) then Q (some (.int (nI i))) h else wp (d + 3) mX0_slotOfMessage 2 [.ref 132, .ref (lkA (5 * a + b)), .int (nI (i + 1)), v3', v4'] [] h Q)) := by
    intro i v3 v4 hi c3
    have hmem : Y.getD i 0 ∈ Y := by
      have : Y.getD i 0 = Y[i] := by simp [List.getD, hi]
      rw [this]
      exact List.getElem_mem hi
    have hv := Yv _ hmem
    obtain ⟨v1, v2⟩ := I.1.2.2.2.2.2.2.1 (5 * a + b) (by omega) _ (P1.mem_iff.mp hmem)
    have ev := Yf i hi
    generalize Y.getD i 0 = v at hmem hv v1 v2 ev
    refine ⟨.int (nI (v / 16)), .int (nI (v % 16)), rfl, ?_⟩
    have e16 : (16 : Int32) = nI 16 := rfl
    have ed : nI v / 16 = nI (v / 16) := by rw [e16, pk_div (by omega) (by decide) (by decide)]
    have er : nI v - nI (v / 16) * 16 = nI (v % 16) := by rw [e16, pk_mul, pk_remd]
    have e64 : (64 : Int32) * nI (v % 16) = nI (64 * (v % 16)) := pk_mul 64 _
    have hin : pz_in (nI i) 4 = true := pz_in_nI (by omega) (by decide)
    have hbs : bsz l c p (v / 16) (v % 16) ≤ 64 := by unfold bsz; split <;> omega
    rw [uX0_slotOfMessage_2]
    simp only [enX0_slotOfMessage, uX0_slotOfMessage_0, uX0_slotOfMessage_1, uX0_slotOfMessage_3, uX0_slotOfMessage_3o, uX0_slotOfMessage_3f, uX0_slotOfMessage_4, uX0_slotOfMessage_7, uX0_slotOfMessage_10, uX0_slotOfMessage_11, uX0_slotOfMessage_12, uX0_slotOfMessage_15, uX0_slotOfMessage_15o, uX0_slotOfMessage_15f, uX0_slotOfMessage_16, uX0_slotOfMessage_19, uX0_slotOfMessage_20, uX0_slotOfMessage_21, uX0_slotOfMessage_23, uX0_slotOfMessage_24, uX0_slotOfMessage_25, uX0_slotOfMessage_25o, uX0_slotOfMessage_25f, uX0_slotOfMessage_26, uX0_slotOfMessage_29, uX0_slotOfMessage_30, uX0_slotOfMessage_31, uX0_slotOfMessage_33, uX0_slotOfMessage_34, uX0_slotOfMessage_36, uX0_slotOfMessage_36o, uX0_slotOfMessage_36f, uX0_slotOfMessage_37, uX0_slotOfMessage_40, uX0_slotOfMessage_41, uX0_slotOfMessage_44, uX0_slotOfMessage_45, uX0_slotOfMessage_46, uX0_slotOfMessage_47, uX0_slotOfMessage_50, uX0_slotOfMessage_50o, uX0_slotOfMessage_50f, uX0_slotOfMessage_51, uX0_slotOfMessage_54, uX0_slotOfMessage_56, uX0_slotOfMessage_59, uX0_slotOfMessage_61, uX0_slotOfMessage_63, uX0_slotOfMessage_64, uX0_slotOfMessage_65, uX0_slotOfMessage_66, uX0_slotOfMessage_69, uX0_slotOfMessage_69o, uX0_slotOfMessage_69f, uX0_slotOfMessage_70, uX0_slotOfMessage_73, uX0_slotOfMessage_76, uX0_slotOfMessage_78, uX0_slotOfMessage_79, uX0_slotOfMessage_79o, uX0_slotOfMessage_79f, uX0_slotOfMessage_80, uX0_slotOfMessage_83, uX0_slotOfMessage_86, uX0_slotOfMessage_87, uX0_slotOfMessage_89, uX0_slotOfMessage_92, uX0_slotOfMessage_95, uX0_slotOfMessage_96, uX0_slotOfMessage_97, uX0_slotOfMessage_100, uX0_slotOfMessage_103, uX0_slotOfMessage_104, pq_C_sI, pq_C_sJ, pq_C_sR, pq_C_sA, pq_L_sI, pq_L_sJ, pq_L_sR, pq_L_sA, pq_I_sI, pq_I_sJ, pq_I_sR, pq_I_sA, pq_J_sI, pq_J_sJ, pq_J_sR, pq_J_sA, pq_R_sI, pq_R_sJ, pq_R_sR, pq_R_sA, pq_N_sI, pq_N_sJ, pq_N_sR, pq_N_sA, pq_S_sI, pq_S_sJ, pq_S_sR, pq_S_sA, pz_rf_s, pz_cut_i, pz_cut_r, pz_cut_n, pz_cut_f, pz_cut_u, pz_cut_o, true_and, and_true, true_or, or_true, Option.toList_some, Option.toList_none, List.cons_append, List.nil_append, Nat.add_left_cancel_iff, Nat.left_eq_add, Nat.add_eq_left, Nat.reduceEqDiff, if_true, if_false, ite_true, ite_false, false_and, and_false, false_or, or_false, reduceIte, reduceCtorEq, and_self, z_4, z_5, z_7, z_8, z_10, z_16, z_20, z_64, not_false_eq_true, a1, a2, a4, n1, tr, tc, M1, k1, k3, k4, k5, r12, hin, nI_clamp (show i < 2 ^ 31 by omega), ev, ed, er, e64, n5, n9, c_size M, hl, esz, lg_cmp_eq, nI_l (show v / 16 < 2 ^ 31 by omega), nI_l (show 64 * (v % 16) < 2 ^ 31 by omega), c_blockSize tc T I.1.1 v1 (show 64 * (v % 16) ≤ psz l c p (v / 16) by omega), nI_1]
    rw [if_neg (nI_ge hi (by omega)), if_neg (show ¬ (4 : Int32) ≤ nI i from nI_ge (b := 4) (by omega) (by decide))]
    by_cases q1 : v / 16 = be32 m 1
    · rw [if_neg (fun z => z (by rw [q1]))]
      by_cases q2 : 64 * (v % 16) = be32 m 5
      · rw [if_neg (fun z => z (by rw [q2]))]
        by_cases q3 : bsz l c p (v / 16) (v % 16) = m.length - 9
        · rw [if_neg (fun z => z (by rw [q3])), if_pos ⟨q1, q2, q3⟩]
        · rw [if_pos (show ¬ nI (m.length - 9) = nI (bsz l c p (v / 16) (v % 16)) from fun z => q3 ((nI_eq (by omega) (by omega)).mp z).symm), if_neg (fun z => q3 z.2.2)]
      · rw [if_pos (show ¬ lN (be32 m 5) = lN (64 * (v % 16)) from fun z => q2 ((pk_lEQ (by omega) (by omega)).mp z).symm), if_neg (fun z => q2 z.2.1)]
    · rw [if_pos (show ¬ lN (be32 m 1) = lN (v / 16) from fun z => q1 ((pk_lEQ (by omega) (by omega)).mp z).symm), if_neg (fun z => q1 z.1)]
  have run : ∀ (n i : Nat) (v3 v4 : Value), i + n = Y.length → (∀ j, j < i → ¬ gvP l c p m (Y.getD j 0)) → pz_cut v3 = v3 → (wp (d + 3) mX0_slotOfMessage 2 [.ref 132, .ref (lkA (5 * a + b)), .int (nI i), v3, v4] [] h Q ↔ Q (some (.int (kyOf (sltO Y l c p m)))) h) := by
    intro n
    induction n with
    | zero =>
      intro i v3 v4 hn hno c3
      have e : i = Y.length := by omega
      subst e
      have es : sltO Y l c p m = none := fstN_none _ hno
      rw [es, uX0_slotOfMessage_2]
      simp only [enX0_slotOfMessage, uX0_slotOfMessage_0, uX0_slotOfMessage_1, uX0_slotOfMessage_3, uX0_slotOfMessage_3o, uX0_slotOfMessage_3f, uX0_slotOfMessage_4, uX0_slotOfMessage_7, uX0_slotOfMessage_10, uX0_slotOfMessage_11, uX0_slotOfMessage_12, uX0_slotOfMessage_15, uX0_slotOfMessage_15o, uX0_slotOfMessage_15f, uX0_slotOfMessage_16, uX0_slotOfMessage_19, uX0_slotOfMessage_20, uX0_slotOfMessage_21, uX0_slotOfMessage_23, uX0_slotOfMessage_24, uX0_slotOfMessage_25, uX0_slotOfMessage_25o, uX0_slotOfMessage_25f, uX0_slotOfMessage_26, uX0_slotOfMessage_29, uX0_slotOfMessage_30, uX0_slotOfMessage_31, uX0_slotOfMessage_33, uX0_slotOfMessage_34, uX0_slotOfMessage_36, uX0_slotOfMessage_36o, uX0_slotOfMessage_36f, uX0_slotOfMessage_37, uX0_slotOfMessage_40, uX0_slotOfMessage_41, uX0_slotOfMessage_44, uX0_slotOfMessage_45, uX0_slotOfMessage_46, uX0_slotOfMessage_47, uX0_slotOfMessage_50, uX0_slotOfMessage_50o, uX0_slotOfMessage_50f, uX0_slotOfMessage_51, uX0_slotOfMessage_54, uX0_slotOfMessage_56, uX0_slotOfMessage_59, uX0_slotOfMessage_61, uX0_slotOfMessage_63, uX0_slotOfMessage_64, uX0_slotOfMessage_65, uX0_slotOfMessage_66, uX0_slotOfMessage_69, uX0_slotOfMessage_69o, uX0_slotOfMessage_69f, uX0_slotOfMessage_70, uX0_slotOfMessage_73, uX0_slotOfMessage_76, uX0_slotOfMessage_78, uX0_slotOfMessage_79, uX0_slotOfMessage_79o, uX0_slotOfMessage_79f, uX0_slotOfMessage_80, uX0_slotOfMessage_83, uX0_slotOfMessage_86, uX0_slotOfMessage_87, uX0_slotOfMessage_89, uX0_slotOfMessage_92, uX0_slotOfMessage_95, uX0_slotOfMessage_96, uX0_slotOfMessage_97, uX0_slotOfMessage_100, uX0_slotOfMessage_103, uX0_slotOfMessage_104, pq_C_sI, pq_C_sJ, pq_C_sR, pq_C_sA, pq_L_sI, pq_L_sJ, pq_L_sR, pq_L_sA, pq_I_sI, pq_I_sJ, pq_I_sR, pq_I_sA, pq_J_sI, pq_J_sJ, pq_J_sR, pq_J_sA, pq_R_sI, pq_R_sJ, pq_R_sR, pq_R_sA, pq_N_sI, pq_N_sJ, pq_N_sR, pq_N_sA, pq_S_sI, pq_S_sJ, pq_S_sR, pq_S_sA, pz_rf_s, pz_cut_i, pz_cut_r, pz_cut_n, pz_cut_f, pz_cut_u, pz_cut_o, true_and, and_true, true_or, or_true, Option.toList_some, Option.toList_none, List.cons_append, List.nil_append, Nat.add_left_cancel_iff, Nat.left_eq_add, Nat.add_eq_left, Nat.reduceEqDiff, if_true, if_false, ite_true, ite_false, false_and, and_false, false_or, or_false, reduceIte, reduceCtorEq, and_self, z_4, z_5, z_7, z_8, z_10, z_16, z_20, z_64, not_false_eq_true, k1, r12]
      rw [if_pos (nI_le (Nat.le_refl _) (by omega))]
      exact Iff.rfl
    | succ n ih =>
      intro i v3 v4 hn hno c3
      obtain ⟨v3', v4', c3', e⟩ := one i v3 v4 (by omega) c3
      rw [e]
      by_cases q : gvP l c p m (Y.getD i 0)
      · have es : sltO Y l c p m = some i := fstN_some (f := fun j => gvP l c p m (Y.getD j 0)) q hno _ (by omega)
        rw [if_pos q, es]
        exact Iff.rfl
      · rw [if_neg q]
        exact ih (i + 1) v3' v4' (by omega) (fun j hj => by
          by_cases e : j = i
          · subst e; exact q
          · exact hno j (by omega)) c3'
  exact run Y.length 0 (.retAddr 0) (.retAddr 0) (by omega) (fun j hj => by omega) rfl
end
