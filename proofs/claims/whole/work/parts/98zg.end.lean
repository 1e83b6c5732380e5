/-! ===== both at rest; the law ===== -/
section
variable {d : Nat} {h h0 h1 : PzH} {Q : Option Value → PzH → Prop} {z : Nat → Int32}
def z1 : Nat → Int32 := fun j => if j = 27 then -1 else 0
theorem IV_27 (V : IV h0 15 (fun _ => 0) h) : IV h0 15 z1 (pz_sI h 138 27 (-1)) := by
  obtain ⟨v1, v2, v3, v4, v5, v6⟩ := V
  refine ⟨CX_trans v1 (CX_sI (Nat.le_refl _)), v2, ?_, v4, v5, fun j hj => ?_⟩
  · funext j
    rw [pq_I_sI, v3]
    unfold z1
    simp only [true_and]
  · obtain ⟨w1, w2, w3, w4, w5⟩ := v6 j hj
    refine ⟨w1, w2, w3, fun y => ?_, fun y i hi => ?_⟩
    · funext i
      rw [pq_I_sI, if_neg (fun q => by omega), w4 y]
    · rw [pq_I_sI, if_neg (fun q => by omega)]
      exact w5 y i hi
theorem i_ref (hC : pz_C h 138 = 10) (hN : pz_N h = 139) (hI : pz_I h 138 = fun _ => 0) (K : ∀ h', IV h 38 z1 h' → Q none h') : pz_M (d + 1) mX10_init [.ref 138] h Q := by
  have V : IV h 0 (fun _ => 0) h := ⟨CX_refl, hC, hI, hN, by rw [Nat.zero_mul]; exact Nat.le_refl _, fun j hj => absurd hj (by omega)⟩
  rw [enX10_init]
  refine x10_0 V (fun h10 V => ?_)
  refine x10_1 V (fun h11 V => ?_)
  refine x10_2 V (fun h12 V => ?_)
  refine x10_3 V (fun h13 V => ?_)
  refine x10_4 V (fun h14 V => ?_)
  refine x10_5 V (fun h15 V => ?_)
  refine x10_6 V (fun h16 V => ?_)
  refine x10_7 V (fun h17 V => ?_)
  refine x10_8 V (fun h18 V => ?_)
  refine x10_9 V (fun h19 V => ?_)
  refine x10_10 V (fun h20 V => ?_)
  refine x10_11 V (fun h21 V => ?_)
  refine x10_12 V (fun h22 V => ?_)
  refine x10_13 V (fun h23 V => ?_)
  refine x10_14 V (fun h24 V => ?_)
  simp only [uX10_init_408, uX10_init_409, uX10_init_410, pq_C_sI, pq_C_sJ, pq_C_sR, pq_C_sA, pq_L_sI, pq_L_sJ, pq_L_sR, pq_L_sA, pq_I_sI, pq_I_sJ, pq_I_sR, pq_I_sA, pq_J_sI, pq_J_sJ, pq_J_sR, pq_J_sA, pq_R_sI, pq_R_sJ, pq_R_sR, pq_R_sA, pq_N_sI, pq_N_sJ, pq_N_sR, pq_N_sA, pq_S_sI, pq_S_sJ, pq_S_sR, pq_S_sA, pz_rf_s, pz_cut_i, pz_cut_r, pz_cut_n, pz_cut_f, pz_cut_u, pz_cut_o, true_and, and_true, true_or, or_true, Option.toList_some, Option.toList_none, List.cons_append, List.nil_append, Nat.add_left_cancel_iff, Nat.left_eq_add, Nat.add_eq_left, Nat.reduceEqDiff, if_true, if_false, ite_true, ite_false, false_and, and_false, false_or, or_false, reduceIte, reduceCtorEq, and_self, V.2.1]
  have V := IV_27 V
  refine x10_15 V (fun h25 V => ?_)
  refine x10_16 V (fun h26 V => ?_)
  refine x10_17 V (fun h27 V => ?_)
  refine x10_18 V (fun h28 V => ?_)
  refine x10_19 V (fun h29 V => ?_)
  refine x10_20 V (fun h30 V => ?_)
  refine x10_21 V (fun h31 V => ?_)
  refine x10_22 V (fun h32 V => ?_)
  refine x10_23 V (fun h33 V => ?_)
  refine x10_24 V (fun h34 V => ?_)
  refine x10_25 V (fun h35 V => ?_)
  refine x10_26 V (fun h36 V => ?_)
  refine x10_27 V (fun h37 V => ?_)
  refine x10_28 V (fun h38 V => ?_)
  refine x10_29 V (fun h39 V => ?_)
  refine x10_30 V (fun h40 V => ?_)
  refine x10_31 V (fun h41 V => ?_)
  refine x10_32 V (fun h42 V => ?_)
  refine x10_33 V (fun h43 V => ?_)
  refine x10_34 V (fun h44 V => ?_)
  refine x10_35 V (fun h45 V => ?_)
  refine x10_36 V (fun h46 V => ?_)
  refine x10_37 V (fun h47 V => ?_)
  rw [uX10_init_756]
  exact K _ V
theorem IV_MO (V : IV h0 38 z1 h) : MO h 138 := by
  obtain ⟨v1, v2, v3, v4, v5, v6⟩ := V
  refine ⟨v2, ⟨(v6 0 (by decide)).1, (v6 0 (by decide)).2.1, (v6 0 (by decide)).2.2.1⟩, ⟨(v6 1 (by decide)).1, (v6 1 (by decide)).2.1, (v6 1 (by decide)).2.2.1⟩, ⟨(v6 2 (by decide)).1, (v6 2 (by decide)).2.1, (v6 2 (by decide)).2.2.1⟩, ⟨(v6 3 (by decide)).1, (v6 3 (by decide)).2.1, (v6 3 (by decide)).2.2.1⟩, ⟨(v6 4 (by decide)).1, (v6 4 (by decide)).2.1, (v6 4 (by decide)).2.2.1⟩, ⟨(v6 5 (by decide)).1, (v6 5 (by decide)).2.1, (v6 5 (by decide)).2.2.1⟩, ⟨(v6 6 (by decide)).1, (v6 6 (by decide)).2.1, (v6 6 (by decide)).2.2.1⟩, ⟨(v6 7 (by decide)).1, (v6 7 (by decide)).2.1, (v6 7 (by decide)).2.2.1⟩, ⟨(v6 8 (by decide)).1, (v6 8 (by decide)).2.1, (v6 8 (by decide)).2.2.1⟩, ⟨(v6 9 (by decide)).1, (v6 9 (by decide)).2.1, (v6 9 (by decide)).2.2.1⟩, ⟨(v6 10 (by decide)).1, (v6 10 (by decide)).2.1, (v6 10 (by decide)).2.2.1⟩, ⟨(v6 11 (by decide)).1, (v6 11 (by decide)).2.1, (v6 11 (by decide)).2.2.1⟩, ⟨(v6 12 (by decide)).1, (v6 12 (by decide)).2.1, (v6 12 (by decide)).2.2.1⟩, ⟨(v6 13 (by decide)).1, (v6 13 (by decide)).2.1, (v6 13 (by decide)).2.2.1⟩, ⟨(v6 14 (by decide)).1, (v6 14 (by decide)).2.1, (v6 14 (by decide)).2.2.1⟩, ⟨(v6 15 (by decide)).1, (v6 15 (by decide)).2.1, (v6 15 (by decide)).2.2.1⟩, ⟨(v6 16 (by decide)).1, (v6 16 (by decide)).2.1, (v6 16 (by decide)).2.2.1⟩, ⟨(v6 17 (by decide)).1, (v6 17 (by decide)).2.1, (v6 17 (by decide)).2.2.1⟩, ⟨(v6 18 (by decide)).1, (v6 18 (by decide)).2.1, (v6 18 (by decide)).2.2.1⟩, ⟨(v6 19 (by decide)).1, (v6 19 (by decide)).2.1, (v6 19 (by decide)).2.2.1⟩, ⟨(v6 20 (by decide)).1, (v6 20 (by decide)).2.1, (v6 20 (by decide)).2.2.1⟩, ⟨(v6 21 (by decide)).1, (v6 21 (by decide)).2.1, (v6 21 (by decide)).2.2.1⟩, ⟨(v6 22 (by decide)).1, (v6 22 (by decide)).2.1, (v6 22 (by decide)).2.2.1⟩, ⟨(v6 23 (by decide)).1, (v6 23 (by decide)).2.1, (v6 23 (by decide)).2.2.1⟩, ⟨(v6 24 (by decide)).1, (v6 24 (by decide)).2.1, (v6 24 (by decide)).2.2.1⟩, ⟨(v6 25 (by decide)).1, (v6 25 (by decide)).2.1, (v6 25 (by decide)).2.2.1⟩, ⟨(v6 26 (by decide)).1, (v6 26 (by decide)).2.1, (v6 26 (by decide)).2.2.1⟩, ⟨(v6 27 (by decide)).1, (v6 27 (by decide)).2.1, (v6 27 (by decide)).2.2.1⟩, ⟨(v6 28 (by decide)).1, (v6 28 (by decide)).2.1, (v6 28 (by decide)).2.2.1⟩, ⟨(v6 29 (by decide)).1, (v6 29 (by decide)).2.1, (v6 29 (by decide)).2.2.1⟩, ⟨(v6 30 (by decide)).1, (v6 30 (by decide)).2.1, (v6 30 (by decide)).2.2.1⟩, ⟨(v6 31 (by decide)).1, (v6 31 (by decide)).2.1, (v6 31 (by decide)).2.2.1⟩, ⟨(v6 32 (by decide)).1, (v6 32 (by decide)).2.1, (v6 32 (by decide)).2.2.1⟩, ⟨(v6 33 (by decide)).1, (v6 33 (by decide)).2.1, (v6 33 (by decide)).2.2.1⟩, ⟨(v6 34 (by decide)).1, (v6 34 (by decide)).2.1, (v6 34 (by decide)).2.2.1⟩, ⟨(v6 35 (by decide)).1, (v6 35 (by decide)).2.1, (v6 35 (by decide)).2.2.1⟩, ⟨(v6 36 (by decide)).1, (v6 36 (by decide)).2.1, (v6 36 (by decide)).2.2.1⟩, ⟨(v6 37 (by decide)).1, (v6 37 (by decide)).2.1, (v6 37 (by decide)).2.2.1⟩⟩
theorem IV_RM (V : IV h0 38 z1 h) : RM (fun b => pz_I h (138 + b)) A0 [] := by
  obtain ⟨v1, v2, v3, v4, v5, v6⟩ := V
  have z0 : ∀ j, j < 38 → x_cs j = false → pz_I h (138 + (j + 1)) = fun _ => 0 := fun j hj hc => by
    rw [show 138 + (j + 1) = 139 + j by omega]
    exact (v6 j hj).2.2.2.1 hc
  have zc : ∀ j, j < 38 → x_cs j = true → ∀ i, i < x_ln.getD j 0 → pz_I h (138 + (j + 1)) i = x_ct j i := fun j hj hc i hi => by
    rw [show 138 + (j + 1) = 139 + j by omega]
    exact (v6 j hj).2.2.2.2 hc i hi
  have c0 : ∀ j, pz_I h (138 + 0) j = z1 j := fun j => by rw [Nat.add_zero, v3]
  have nil : ∀ (f : Nat → Int32) (a : Nat), SEG f a [] := fun f a i hi => absurd hi (by simp)
  have fr : ∀ r, r ∈ FLr → r - 1 < 38 ∧ x_cs (r - 1) = false ∧ r - 1 + 1 = r ∧ r ≠ 0 := by decide
  refine ⟨⟨⟨⟨c0 2, nil _ _⟩, ⟨c0 3, nil _ _⟩, fun r j q => ?_, nil _ _, nil _ _, nil _ _, fun a _ => nil _ _, fun k _ => ⟨?_, nil _ _⟩, fun i hi => absurd (show i < 0 from hi) (by omega), ⟨fun i hi => ?_, fun i hi => ?_⟩, ⟨fun i hi => ?_, fun i hi => ?_⟩⟩, fun y => absurd (A0_0 (by decide)) y⟩, c0 50, nil _ _⟩
  · rcases q with q | ⟨rfl, q⟩
    · obtain ⟨r1, r2, r3, r4⟩ := fr r q
      have := z0 (r - 1) r1 r2
      rw [r3] at this
      show pz_I h (138 + r) j = _
      rw [this, A0_B r4]
    · show pz_I h (138 + 0) j = _
      rw [c0 j]
      show (if j = 27 then (-1 : Int32) else 0) = if 0 = 0 ∧ j = 27 then -1 else 0
      simp only [true_and]
  · show pz_I h (138 + 34) k = _
    rw [z0 33 (by decide) (by decide)]
    rfl
  · exact zc 8 (by decide) (by decide) i hi
  · exact zc 9 (by decide) (by decide) i hi
  · exact zc 35 (by decide) (by decide) i hi
  · exact zc 36 (by decide) (by decide) i hi
theorem DKF_CX (D : DKF h) (f : CX 138 h h1) : DKF h1 := by
  obtain ⟨d1, d2, ⟨w1, w2, w3⟩, s, ⟨lo, l2, T15⟩, ⟨nb, kf, lf⟩, ac, w4, w5⟩ := D
  have Z := CZ_CX f
  obtain ⟨p1, p2, p3, p4, p5⟩ := f.1 0 (by decide)
  refine ⟨?_, by rw [p3]; exact d2, ⟨ROW_CX w1 f (by decide) (by decide), ROW_CX w2 f (by decide) (by decide), ROW_CX w3 f (by decide) (by decide)⟩, SH_CZ s Z (by decide), ⟨LOA_CZ lo Z (by decide), by rw [(f.1 10 (by decide)).2.2.2.2]; exact l2, TF_CX T15 f (by decide)⟩, ⟨NB_CX nb f (by decide), KFs_CX kf f (by decide), LFs_CZ lf Z (by decide)⟩, ACT_CZ ac Z (by decide), ROW_CX w4 f (by decide) (by decide), ROW_CX w5 f (by decide) (by decide)⟩
  unfold DSKO
  rw [p1, p5]
  exact d1
theorem law_ok {L : Nat} {xs : Nat → Int32} (hL : L ≤ 3072) {e : Nat} : pz_M (e + 31) mL_law [.float 1000] (pz_h0 L xs) (fun v h' => v = some (.int 1) ∧ pz_N h' ≤ 600000 ∧ pz_S h' ≤ 7302250) := by
  simp only [enL_law, uL_law_0, uL_law_3, uL_law_4]
  refine i_desk (d := e + 26) (h := pz_new (pz_h0 L xs) 9 0 8) rfl rfl (fun k1 xl1 xs1 n1 s1 D1 => ?_)
  simp only [uL_law_7, uL_law_8, uL_law_11, uL_law_12, pq_C_sI, pq_C_sJ, pq_C_sR, pq_C_sA, pq_L_sI, pq_L_sJ, pq_L_sR, pq_L_sA, pq_I_sI, pq_I_sJ, pq_I_sR, pq_I_sA, pq_J_sI, pq_J_sJ, pq_J_sR, pq_J_sA, pq_R_sI, pq_R_sJ, pq_R_sR, pq_R_sA, pq_N_sI, pq_N_sJ, pq_N_sR, pq_N_sA, pq_S_sI, pq_S_sJ, pq_S_sR, pq_S_sA, pz_rf_s, pz_cut_i, pz_cut_r, pz_cut_n, pz_cut_f, pz_cut_u, pz_cut_o, true_and, and_true, true_or, or_true, Option.toList_some, Option.toList_none, List.cons_append, List.nil_append, Nat.add_left_cancel_iff, Nat.left_eq_add, Nat.add_eq_left, Nat.reduceEqDiff, if_true, if_false, ite_true, ite_false, false_and, and_false, false_or, or_false, reduceIte, reduceCtorEq, and_self, n1]
  refine i_ref (d := e + 29) (h := pz_new k1 10 0 55) (new_C n1) (by rw [pq_N_new, n1]) (by rw [pq_I_new, if_pos n1.symm]) (fun h2 V => ?_)
  simp only [uL_law_15, uL_law_16, uL_law_17, pq_C_sI, pq_C_sJ, pq_C_sR, pq_C_sA, pq_L_sI, pq_L_sJ, pq_L_sR, pq_L_sA, pq_I_sI, pq_I_sJ, pq_I_sR, pq_I_sA, pq_J_sI, pq_J_sJ, pq_J_sR, pq_J_sA, pq_R_sI, pq_R_sJ, pq_R_sR, pq_R_sA, pq_N_sI, pq_N_sJ, pq_N_sR, pq_N_sA, pq_S_sI, pq_S_sJ, pq_S_sR, pq_S_sA, pz_rf_s, pz_cut_i, pz_cut_r, pz_cut_n, pz_cut_f, pz_cut_u, pz_cut_o, true_and, and_true, true_or, or_true, Option.toList_some, Option.toList_none, List.cons_append, List.nil_append, Nat.add_left_cancel_iff, Nat.left_eq_add, Nat.add_eq_left, Nat.reduceEqDiff, if_true, if_false, ite_true, ite_false, false_and, and_false, false_or, or_false, reduceIte, reduceCtorEq, and_self]
  have F : CX 138 k1 h2 := CX_trans (CX_new (by omega)) V.1
  have M := IV_MO V
  have G := IV_RM V
  have N2 : pz_N h2 = 177 := V.2.2.2.1
  have S2 := V.2.2.2.2.1
  have T : TWO L xs h2 A0 (fun b => pz_I h2 (138 + b)) := ⟨RC_0 (DKF_CX D1 F), M, fun _ _ => rfl, G, F.2.1.trans xl1, F.2.2.trans xs1, by rw [N2]; decide, ?_⟩
  · exact lw_loop hL (fun h' A' g' T' => ⟨rfl, T'.2.2.2.2.2.2.1, T'.2.2.2.2.2.2.2⟩) L 0 h2 A0 _ (by omega) (by omega) T ⟨0, 0, 0, GV_0⟩
  · refine Nat.le_trans S2 ?_
    rw [pq_S_new, s1, pq_S_new, show pz_S (pz_h0 L xs) = 0 from rfl]
    decide
theorem whole_start {p : Program} {e : Env} {s : State} {m : MethodId} {below : List Frame} {meth : Method} {c : Code} (l : Launch) {b L : Nat} {xs : Nat → Int32} (hL : L ≤ 3072) (C0 : lw_At p s m meth c b L xs) : W p l e room_1 s m #[Value.ref b] below meth c s.heap [] 0 0 (lw_Z below #[Value.ref b] s) (entryFrame m ([Value.ref b] : List Value).toArray 4) := pz_whole l C0 (d := 100) (by decide) (law_ok (e := 70) hL)
end
