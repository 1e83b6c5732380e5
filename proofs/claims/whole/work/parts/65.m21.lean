/-! ===== the reference: feed ===== -/
def fdW (a b c e f : Int32) (i : Nat) : Int32 := if i < 4 then a else if i < 8 then b else if i < 12 then c else if i < 16 then e else f
def fdB (a b c e f : Int32) (i : Nat) : Int32 := (fdW a b c e f i >>> ((24 - 8 * nI (i % 4)) &&& 31)).toInt8.toInt32
/-- a run of cells out of a function -/
def put (f : Nat → Int32) (a m : Nat) (u : Nat → Int32) : Nat → Int32 := fun j => if a ≤ j ∧ j < a + m then u (j - a) else f j
theorem put_0 {f u : Nat → Int32} {a : Nat} : put f a 0 u = f := by
  funext j
  unfold put
  rw [if_neg (by omega)]
theorem put_s {f u : Nat → Int32} {a m : Nat} : upd (put f a m u) (a + m) (u m) = put f a (m + 1) u := by
  funext j
  unfold upd put
  by_cases h1 : j = a + m
  · rw [if_pos h1, if_pos (by omega), h1, Nat.add_sub_cancel_left]
  · rw [if_neg h1]
    by_cases h2 : a ≤ j ∧ j < a + m
    · rw [if_pos h2, if_pos (by omega)]
    · rw [if_neg h2, if_neg (by omega)]
section
variable {d : Nat} {h : PzH} {Q : Option Value → PzH → Prop} {mo : Nat} {g : Nat → Nat → Int32}
theorem g_feed (H : MO h mo) {a b c e f : Int32} {n : Nat} (hn : n ≤ 6000) (h2 : g 0 2 = nI n) : pz_M (d + 1) mX10_feed [.ref mo, .int a, .int b, .int c, .int e, .int f] (mh h mo g) Q ↔ (if n ≤ 5980 then Q (some (.int (nI (n + 20)))) (mh h mo (pz_u1 (pz_u2 g 0 2 (nI (n + 20))) 1 (put (g 1) n 20 (fdB a b c e f)))) else Q (some (.int (-1))) (mh h mo g)) := by
  simp only [enX10_feed, uX10_feed_0, uX10_feed_0o, uX10_feed_0f, uX10_feed_1, uX10_feed_4, uX10_feed_6, uX10_feed_7, uX10_feed_10, uX10_feed_13, uX10_feed_14, uX10_feed_15, uX10_feed_16, uX10_feed_20, uX10_feed_22, uX10_feed_25, uX10_feed_27, uX10_feed_28, uX10_feed_31, uX10_feed_32, uX10_feed_35, uX10_feed_37, uX10_feed_39, uX10_feed_42, uX10_feed_43, uX10_feed_46, uX10_feed_48, uX10_feed_50, uX10_feed_53, uX10_feed_54, uX10_feed_57, uX10_feed_59, uX10_feed_61, uX10_feed_64, uX10_feed_66, uX10_feed_69, uX10_feed_71, uX10_feed_73, uX10_feed_73o, uX10_feed_73f, uX10_feed_74, uX10_feed_77, uX10_feed_77o, uX10_feed_77f, uX10_feed_78, uX10_feed_81, uX10_feed_83, uX10_feed_85, uX10_feed_87, uX10_feed_89, uX10_feed_90, uX10_feed_91, uX10_feed_92, uX10_feed_93, uX10_feed_94, uX10_feed_95, uX10_feed_96, uX10_feed_96o, uX10_feed_96f, uX10_feed_97, uX10_feed_98, uX10_feed_101, uX10_feed_102, uX10_feed_103, uX10_feed_106, uX10_feed_109, uX10_feed_112, uX10_feed_112o, uX10_feed_112f, uX10_feed_113, uX10_feed_116, mo_C H, mo_R_tape H, mo_C_tape H, mo_L_tape H, pq_C_sI, pq_C_sJ, pq_C_sR, pq_C_sA, pq_L_sI, pq_L_sJ, pq_L_sR, pq_L_sA, pq_I_sI, pq_I_sJ, pq_I_sR, pq_I_sA, pq_J_sI, pq_J_sJ, pq_J_sR, pq_J_sA, pq_R_sI, pq_R_sJ, pq_R_sR, pq_R_sA, pq_N_sI, pq_N_sJ, pq_N_sR, pq_N_sA, pq_S_sI, pq_S_sJ, pq_S_sR, pq_S_sA, pz_rf_s, pz_cut_i, pz_cut_r, pz_cut_n, pz_cut_f, pz_cut_u, pz_cut_o, true_and, and_true, true_or, or_true, Option.toList_some, Option.toList_none, List.cons_append, List.nil_append, Nat.add_left_cancel_iff, Nat.left_eq_add, Nat.add_eq_left, Nat.reduceEqDiff, if_true, if_false, ite_true, ite_false, false_and, and_false, false_or, or_false, reduceIte, reduceCtorEq, and_self, mh_C, mh_L, mh_R, mh_J, mh_I0, mh_I, mh_Ir, mh_sI0, mh_sI, mh_sA, gu_11, gu_22, gu_r, gu_21s, gu_21c, gu_22s, gu_11s, gu_11c, gu_22c, Nat.reduceLeDiff, Nat.reduceLT, ne_eq, not_false_eq_true, not_true_eq_false, Nat.reduceEqDiff, Nat.lt_irrefl, eq_self, z_4, z_5, z_7, z_8, z_10, z_16, z_20, z_64, h2]
  rw [nI_c20, nI_add]
  by_cases h1 : n ≤ 5980
  · rw [if_pos (show nI (n + 20) ≤ 6000 from nI_le (b := 6000) (by omega) (by omega)), if_pos h1]
    obtain ⟨ls, h', ⟨v7, c7, rfl, rfl⟩, key⟩ := wp_loop (d := d) (m := mX10_feed) (pc := 18) (Q := Q) 20 (fun i ls h' => ∃ v7, pz_cut v7 = v7 ∧ ls = [.ref mo, .int a, .int b, .int c, .int e, .int f, .int (nI i), v7] ∧ h' = mh h mo (pz_u1 (pz_u2 g 0 2 (nI (n + i))) 1 (put (g 1) n i (fdB a b c e f)))) (by
      rintro i ls h' hi ⟨v7, c7, rfl, rfl⟩
      refine ⟨_, _, ⟨.int (fdW a b c e f i), rfl, rfl, rfl⟩, ?_⟩
      have tl : ∀ W : Int32, wp d mX10_feed 71 [.ref mo, .int a, .int b, .int c, .int e, .int f, .int (nI i), v7] [.int W] (mh h mo (pz_u1 (pz_u2 g 0 2 (nI (n + i))) 1 (put (g 1) n i (fdB a b c e f)))) Q ↔ wp d mX10_feed 18 [.ref mo, .int a, .int b, .int c, .int e, .int f, .int (nI (i + 1)), .int W] [] (mh h mo (pz_u1 (pz_u2 g 0 2 (nI (n + i + 1))) 1 (upd (put (g 1) n i (fdB a b c e f)) (n + i) ((W >>> ((24 - 8 * nI (i % 4)) &&& 31)).toInt8.toInt32)))) Q := by
        intro W
        simp only [enX10_feed, uX10_feed_0, uX10_feed_0o, uX10_feed_0f, uX10_feed_1, uX10_feed_4, uX10_feed_6, uX10_feed_7, uX10_feed_10, uX10_feed_13, uX10_feed_14, uX10_feed_15, uX10_feed_16, uX10_feed_20, uX10_feed_22, uX10_feed_25, uX10_feed_27, uX10_feed_28, uX10_feed_31, uX10_feed_32, uX10_feed_35, uX10_feed_37, uX10_feed_39, uX10_feed_42, uX10_feed_43, uX10_feed_46, uX10_feed_48, uX10_feed_50, uX10_feed_53, uX10_feed_54, uX10_feed_57, uX10_feed_59, uX10_feed_61, uX10_feed_64, uX10_feed_66, uX10_feed_69, uX10_feed_71, uX10_feed_73, uX10_feed_73o, uX10_feed_73f, uX10_feed_74, uX10_feed_77, uX10_feed_77o, uX10_feed_77f, uX10_feed_78, uX10_feed_81, uX10_feed_83, uX10_feed_85, uX10_feed_87, uX10_feed_89, uX10_feed_90, uX10_feed_91, uX10_feed_92, uX10_feed_93, uX10_feed_94, uX10_feed_95, uX10_feed_96, uX10_feed_96o, uX10_feed_96f, uX10_feed_97, uX10_feed_98, uX10_feed_101, uX10_feed_102, uX10_feed_103, uX10_feed_106, uX10_feed_109, uX10_feed_112, uX10_feed_112o, uX10_feed_112f, uX10_feed_113, uX10_feed_116, mo_C H, mo_R_tape H, mo_C_tape H, mo_L_tape H, pq_C_sI, pq_C_sJ, pq_C_sR, pq_C_sA, pq_L_sI, pq_L_sJ, pq_L_sR, pq_L_sA, pq_I_sI, pq_I_sJ, pq_I_sR, pq_I_sA, pq_J_sI, pq_J_sJ, pq_J_sR, pq_J_sA, pq_R_sI, pq_R_sJ, pq_R_sR, pq_R_sA, pq_N_sI, pq_N_sJ, pq_N_sR, pq_N_sA, pq_S_sI, pq_S_sJ, pq_S_sR, pq_S_sA, pz_rf_s, pz_cut_i, pz_cut_r, pz_cut_n, pz_cut_f, pz_cut_u, pz_cut_o, true_and, and_true, true_or, or_true, Option.toList_some, Option.toList_none, List.cons_append, List.nil_append, Nat.add_left_cancel_iff, Nat.left_eq_add, Nat.add_eq_left, Nat.reduceEqDiff, if_true, if_false, ite_true, ite_false, false_and, and_false, false_or, or_false, reduceIte, reduceCtorEq, and_self, mh_C, mh_L, mh_R, mh_J, mh_I0, mh_I, mh_Ir, mh_sI0, mh_sI, mh_sA, gu_11, gu_22, gu_r, gu_21s, gu_21c, gu_22s, gu_11s, gu_11c, gu_22c, Nat.reduceLeDiff, Nat.reduceLT, ne_eq, not_false_eq_true, not_true_eq_false, Nat.reduceEqDiff, Nat.lt_irrefl, eq_self, z_4, z_5, z_7, z_8, z_10, z_16, z_20, z_64]
        simp only [nI_c4, pk_rem (show i < 2 ^ 31 by omega) (show 0 < 4 by decide) (show 4 < 2 ^ 31 by decide)]
        simp (disch := omega) only [nI_clamp, pz_in_nI, true_and, nI_1, pk_vb]
      rw [uX10_feed_18]
      simp only [enX10_feed, uX10_feed_0, uX10_feed_0o, uX10_feed_0f, uX10_feed_1, uX10_feed_4, uX10_feed_6, uX10_feed_7, uX10_feed_10, uX10_feed_13, uX10_feed_14, uX10_feed_15, uX10_feed_16, uX10_feed_20, uX10_feed_22, uX10_feed_25, uX10_feed_27, uX10_feed_28, uX10_feed_31, uX10_feed_32, uX10_feed_35, uX10_feed_37, uX10_feed_39, uX10_feed_42, uX10_feed_43, uX10_feed_46, uX10_feed_48, uX10_feed_50, uX10_feed_53, uX10_feed_54, uX10_feed_57, uX10_feed_59, uX10_feed_61, uX10_feed_64, uX10_feed_66, uX10_feed_69, uX10_feed_73, uX10_feed_73o, uX10_feed_73f, uX10_feed_74, uX10_feed_77, uX10_feed_77o, uX10_feed_77f, uX10_feed_78, uX10_feed_81, uX10_feed_83, uX10_feed_85, uX10_feed_87, uX10_feed_89, uX10_feed_90, uX10_feed_91, uX10_feed_92, uX10_feed_93, uX10_feed_94, uX10_feed_95, uX10_feed_96, uX10_feed_96o, uX10_feed_96f, uX10_feed_97, uX10_feed_98, uX10_feed_101, uX10_feed_102, uX10_feed_103, uX10_feed_106, uX10_feed_109, uX10_feed_112, uX10_feed_112o, uX10_feed_112f, uX10_feed_113, uX10_feed_116, pq_C_sI, pq_C_sJ, pq_C_sR, pq_C_sA, pq_L_sI, pq_L_sJ, pq_L_sR, pq_L_sA, pq_I_sI, pq_I_sJ, pq_I_sR, pq_I_sA, pq_J_sI, pq_J_sJ, pq_J_sR, pq_J_sA, pq_R_sI, pq_R_sJ, pq_R_sR, pq_R_sA, pq_N_sI, pq_N_sJ, pq_N_sR, pq_N_sA, pq_S_sI, pq_S_sJ, pq_S_sR, pq_S_sA, pz_rf_s, pz_cut_i, pz_cut_r, pz_cut_n, pz_cut_f, pz_cut_u, pz_cut_o, true_and, and_true, true_or, or_true, Option.toList_some, Option.toList_none, List.cons_append, List.nil_append, Nat.add_left_cancel_iff, Nat.left_eq_add, Nat.add_eq_left, Nat.reduceEqDiff, if_true, if_false, ite_true, ite_false, false_and, and_false, false_or, or_false, reduceIte, reduceCtorEq, and_self, tl]
      rw [if_neg (show ¬ (20 : Int32) ≤ nI i from nI_ge hi (by decide)), ← put_s]
      unfold fdB fdW
      by_cases g1 : i < 4
      · rw [if_neg (show ¬ (4 : Int32) ≤ nI i from nI_ge g1 (by decide)), if_pos g1]
        exact Iff.rfl
      · rw [if_pos (show (4 : Int32) ≤ nI i from nI_le (a := 4) (by omega) (by omega)), if_neg g1]
        by_cases g2 : i < 8
        · rw [if_neg (show ¬ (8 : Int32) ≤ nI i from nI_ge g2 (by decide)), if_pos g2]
          exact Iff.rfl
        · rw [if_pos (show (8 : Int32) ≤ nI i from nI_le (a := 8) (by omega) (by omega)), if_neg g2]
          by_cases g3 : i < 12
          · rw [if_neg (show ¬ (12 : Int32) ≤ nI i from nI_ge g3 (by decide)), if_pos g3]
            exact Iff.rfl
          · rw [if_pos (show (12 : Int32) ≤ nI i from nI_le (a := 12) (by omega) (by omega)), if_neg g3]
            by_cases g4 : i < 16
            · rw [if_neg (show ¬ (16 : Int32) ≤ nI i from nI_ge g4 (by decide)), if_pos g4]
              exact Iff.rfl
            · rw [if_pos (show (16 : Int32) ≤ nI i from nI_le (a := 16) (by omega) (by omega)), if_neg g4]
              exact Iff.rfl) _ _ ⟨.retAddr 0, rfl, rfl, rfl⟩
    have e0 : mh h mo g = mh h mo (pz_u1 (pz_u2 g 0 2 (nI (n + 0))) 1 (put (g 1) n 0 (fdB a b c e f))) := by
      rw [put_0, Nat.add_zero, ← h2]
      congr 1
      funext p q
      rw [gu_11]
      by_cases p1 : p = 1
      · rw [if_pos p1, p1]
      · rw [if_neg p1, gu_22]
        by_cases p2 : p = 0 ∧ q = 2
        · rw [if_pos p2, p2.1, p2.2]
        · rw [if_neg p2]
    rw [e0]
    refine (show _ ↔ _ from key).trans ?_
    rw [uX10_feed_18]
    simp only [uX10_feed_20, uX10_feed_22]
    rw [if_pos (show (20 : Int32) ≤ nI 20 by decide)]
    simp only [enX10_feed, uX10_feed_0, uX10_feed_0o, uX10_feed_0f, uX10_feed_1, uX10_feed_4, uX10_feed_6, uX10_feed_7, uX10_feed_10, uX10_feed_13, uX10_feed_14, uX10_feed_15, uX10_feed_16, uX10_feed_20, uX10_feed_22, uX10_feed_25, uX10_feed_27, uX10_feed_28, uX10_feed_31, uX10_feed_32, uX10_feed_35, uX10_feed_37, uX10_feed_39, uX10_feed_42, uX10_feed_43, uX10_feed_46, uX10_feed_48, uX10_feed_50, uX10_feed_53, uX10_feed_54, uX10_feed_57, uX10_feed_59, uX10_feed_61, uX10_feed_64, uX10_feed_66, uX10_feed_69, uX10_feed_71, uX10_feed_73, uX10_feed_73o, uX10_feed_73f, uX10_feed_74, uX10_feed_77, uX10_feed_77o, uX10_feed_77f, uX10_feed_78, uX10_feed_81, uX10_feed_83, uX10_feed_85, uX10_feed_87, uX10_feed_89, uX10_feed_90, uX10_feed_91, uX10_feed_92, uX10_feed_93, uX10_feed_94, uX10_feed_95, uX10_feed_96, uX10_feed_96o, uX10_feed_96f, uX10_feed_97, uX10_feed_98, uX10_feed_101, uX10_feed_102, uX10_feed_103, uX10_feed_106, uX10_feed_109, uX10_feed_112, uX10_feed_112o, uX10_feed_112f, uX10_feed_113, uX10_feed_116, mo_C H, mo_R_tape H, mo_C_tape H, mo_L_tape H, pq_C_sI, pq_C_sJ, pq_C_sR, pq_C_sA, pq_L_sI, pq_L_sJ, pq_L_sR, pq_L_sA, pq_I_sI, pq_I_sJ, pq_I_sR, pq_I_sA, pq_J_sI, pq_J_sJ, pq_J_sR, pq_J_sA, pq_R_sI, pq_R_sJ, pq_R_sR, pq_R_sA, pq_N_sI, pq_N_sJ, pq_N_sR, pq_N_sA, pq_S_sI, pq_S_sJ, pq_S_sR, pq_S_sA, pz_rf_s, pz_cut_i, pz_cut_r, pz_cut_n, pz_cut_f, pz_cut_u, pz_cut_o, true_and, and_true, true_or, or_true, Option.toList_some, Option.toList_none, List.cons_append, List.nil_append, Nat.add_left_cancel_iff, Nat.left_eq_add, Nat.add_eq_left, Nat.reduceEqDiff, if_true, if_false, ite_true, ite_false, false_and, and_false, false_or, or_false, reduceIte, reduceCtorEq, and_self, mh_C, mh_L, mh_R, mh_J, mh_I0, mh_I, mh_Ir, mh_sI0, mh_sI, mh_sA, gu_11, gu_22, gu_r, gu_21s, gu_21c, gu_22s, gu_11s, gu_11c, gu_22c, Nat.reduceLeDiff, Nat.reduceLT, ne_eq, not_false_eq_true, not_true_eq_false, Nat.reduceEqDiff, Nat.lt_irrefl, eq_self, z_4, z_5, z_7, z_8, z_10, z_16, z_20, z_64]
  · rw [if_neg (show ¬ nI (n + 20) ≤ 6000 from nI_ge (a := 6000) (by omega) (by omega)), if_neg h1]
end
