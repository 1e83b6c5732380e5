/-! ===== the class: SHA-1, run whole; its bytes ===== -/
section
variable {d : Nat} {h : PzH} {Q : Option Value → PzH → Prop}
/-- a chunk's words, once the length is laid -/
def rwF (m : List Int8) (k : Nat) (w : Nat → Int32) : Nat → Int32 := if k + 1 = sh_P m.length / 64 then upd (rw16 m k w 16) 15 (nI (8 * m.length)) else rw16 m k w 16
theorem rwF_w {m : List Int8} {k : Nat} {w w' : Nat → Int32} (hm : m.length ≤ 6000) (hk : k < sh_P m.length / 64) : ∀ j, j < 80 → sh_sched (rwF m k w) 64 j = sh_W (sh_p2 (bof m) m.length 8) w' (64 * k) j := by
  obtain ⟨q1, q2, q3, q4⟩ := sh_P_le hm
  intro j hj
  unfold sh_W
  refine sched_c 64 (fun i hi => ?_) (Nat.le_refl _) j (by omega)
  show _ = if i < 16 then sh_w (sh_p2 (bof m) m.length 8) (64 * k + 4 * i) else w' i
  rw [if_pos hi]
  unfold rwF
  by_cases e : k + 1 = sh_P m.length / 64
  · rw [if_pos e]
    by_cases z : i = 15
    · subst z
      rw [pk_us, show 64 * k + 4 * 15 = sh_P m.length - 4 by omega, p2_l hm]
    · rw [pk_un z]
      unfold rw16
      rw [if_pos hi, p2_w hm (by omega)]
  · rw [if_neg e]
    unfold rw16
    rw [if_pos hi, p2_w hm (by omega)]
set_option maxHeartbeats 400000 in
theorem c_run (S : SH h) {r a cap : Nat} {l : List Int8} (w : ROW h r a cap l) (hra : r ≠ 8 ∧ a ≠ 8 ∧ r ≠ 9 ∧ a ≠ 9) {b n : Nat} (hb : b + n ≤ l.length) (K : ∀ h', HF [8, 9] h h' → SUM h' (ofF (fun i => l.getD (b + i) 0) n) → Q none h') : pz_M (d + 3) mX7_run [.ref 7, .ref r, .int (nI b), .int (nI n)] h Q := by
  have S0 := S
  obtain ⟨s1, s2, s3, s4, s5, s6, s7⟩ := S
  have w6 := w.2.2.2.2.2.1
  have w8 := w.2.2.2.2.2.2.2.1
  have ml : (ofF (fun i => l.getD (b + i) 0) n).length = n := ofF_len
  have hm : (ofF (fun i => l.getD (b + i) 0) n).length ≤ 6000 := by omega
  obtain ⟨q1, q2, q3, q4⟩ := sh_P_le hm
  have ek : sh_P (ofF (fun i => l.getD (b + i) 0) n).length / 64 = (n + 8) / 64 + 1 := by rw [ml]; unfold sh_P; omega
  simp only [enX7_run, uX7_run_0, uX7_run_0o, uX7_run_0f, uX7_run_1, uX7_run_4, uX7_run_5, uX7_run_7, uX7_run_8, uX7_run_8o, uX7_run_8f, uX7_run_9, uX7_run_12, uX7_run_13, uX7_run_15, uX7_run_16, uX7_run_16o, uX7_run_16f, uX7_run_17, uX7_run_20, uX7_run_21, uX7_run_23, uX7_run_24, uX7_run_24o, uX7_run_24f, uX7_run_25, uX7_run_28, uX7_run_29, uX7_run_31, uX7_run_32, uX7_run_32o, uX7_run_32f, uX7_run_33, uX7_run_36, uX7_run_37, uX7_run_39, uX7_run_40, uX7_run_41, uX7_run_43, uX7_run_44, uX7_run_46, uX7_run_47, uX7_run_48, uX7_run_49, uX7_run_51, uX7_run_52, uX7_run_56, uX7_run_58, uX7_run_61, uX7_run_62, uX7_run_64, uX7_run_66, uX7_run_68, uX7_run_71, uX7_run_71o, uX7_run_71f, uX7_run_72, uX7_run_75, uX7_run_77, uX7_run_77o, uX7_run_77f, uX7_run_78, uX7_run_79, uX7_run_80, uX7_run_82, uX7_run_84, uX7_run_85, uX7_run_86, uX7_run_88, uX7_run_89, uX7_run_90, uX7_run_93, uX7_run_94, uX7_run_97, uX7_run_100, uX7_run_102, uX7_run_104, uX7_run_105, uX7_run_106, uX7_run_109, uX7_run_109o, uX7_run_109f, uX7_run_110, uX7_run_113, uX7_run_115, uX7_run_117, uX7_run_118, uX7_run_119, uX7_run_120, uX7_run_120o, uX7_run_120f, uX7_run_121, uX7_run_124, uX7_run_127, uX7_run_130, pq_C_sI, pq_C_sJ, pq_C_sR, pq_C_sA, pq_L_sI, pq_L_sJ, pq_L_sR, pq_L_sA, pq_I_sI, pq_I_sJ, pq_I_sR, pq_I_sA, pq_J_sI, pq_J_sJ, pq_J_sR, pq_J_sA, pq_R_sI, pq_R_sJ, pq_R_sR, pq_R_sA, pq_N_sI, pq_N_sJ, pq_N_sR, pq_N_sA, pq_S_sI, pq_S_sJ, pq_S_sR, pq_S_sA, pz_rf_s, pz_cut_i, pz_cut_r, pz_cut_n, pz_cut_f, pz_cut_u, pz_cut_o, true_and, and_true, true_or, or_true, Option.toList_some, Option.toList_none, List.cons_append, List.nil_append, Nat.add_left_cancel_iff, Nat.left_eq_add, Nat.add_eq_left, Nat.reduceEqDiff, if_true, if_false, ite_true, ite_false, false_and, and_false, false_or, or_false, reduceIte, reduceCtorEq, and_self, z_4, z_5, z_7, z_8, z_10, z_16, z_20, z_64, not_false_eq_true, s1, s5, s6, s7, pi_5, tn_k]
  rw [show nI n + 8 = nI (n + 8) from nI_add n 8, show (64 : Int32) = nI 64 from rfl, pk_div (by omega) (by decide) (by decide), nI_1, ← ek]
  have hini : pz_sI (pz_sI (pz_sI (pz_sI (pz_sI h 9 0 1732584193) 9 1 (-271733879)) 9 2 (-1732584194)) 9 3 271733878) 9 4 (-1009589776) = pz_sA h 9 (sh_ini (pz_I h 9)) := by
    simp only [pq_sI_A (a := 9), pq_sA_sA, pq_I_sA, if_true]
    rfl
  rw [hini]
  generalize hM : ofF (fun i => l.getD (b + i) 0) n = M at K hm ml q1 q2 q3 q4 ek
  refine wp_up (sh_P M.length / 64) (fun k ls h' => (∃ v6, ls = [.ref 7, .ref r, .int (nI b), .int (nI n), .int (nI (sh_P M.length / 64)), .int (nI k), v6]) ∧ HF [8, 9] h h' ∧ ∀ i, i < 5 → pz_I h' 9 i = (sh_it (sh_p2 (bof M) M.length 8) (fun _ => 0) (sh_ini (fun _ => 0)) k).2 i) ?_ ?_ _ _ ⟨⟨.retAddr 0, rfl⟩, HF_sA (by simp), fun i hi => ?_⟩
  · rintro k ls h' hk ⟨⟨v6, rfl⟩, F, I⟩ K'
    have S' := SH_fr S0 F
    have W' := ROW_fr w F (by simp; exact ⟨hra.1, hra.2.2.1⟩) (by simp; exact ⟨hra.2.1, hra.2.2.2⟩)
    obtain ⟨t1, t2, t3, t4, t5, t6, t7⟩ := S'
    rw [uX7_run_54]
    simp only [enX7_run, uX7_run_0, uX7_run_0o, uX7_run_0f, uX7_run_1, uX7_run_4, uX7_run_5, uX7_run_7, uX7_run_8, uX7_run_8o, uX7_run_8f, uX7_run_9, uX7_run_12, uX7_run_13, uX7_run_15, uX7_run_16, uX7_run_16o, uX7_run_16f, uX7_run_17, uX7_run_20, uX7_run_21, uX7_run_23, uX7_run_24, uX7_run_24o, uX7_run_24f, uX7_run_25, uX7_run_28, uX7_run_29, uX7_run_31, uX7_run_32, uX7_run_32o, uX7_run_32f, uX7_run_33, uX7_run_36, uX7_run_37, uX7_run_39, uX7_run_40, uX7_run_41, uX7_run_43, uX7_run_44, uX7_run_46, uX7_run_47, uX7_run_48, uX7_run_49, uX7_run_51, uX7_run_52, uX7_run_56, uX7_run_58, uX7_run_61, uX7_run_62, uX7_run_66, uX7_run_68, uX7_run_71, uX7_run_71o, uX7_run_71f, uX7_run_72, uX7_run_75, uX7_run_77, uX7_run_77o, uX7_run_77f, uX7_run_78, uX7_run_79, uX7_run_80, uX7_run_82, uX7_run_84, uX7_run_85, uX7_run_86, uX7_run_88, uX7_run_89, uX7_run_90, uX7_run_93, uX7_run_94, uX7_run_97, uX7_run_100, uX7_run_102, uX7_run_104, uX7_run_105, uX7_run_106, uX7_run_109, uX7_run_109o, uX7_run_109f, uX7_run_110, uX7_run_113, uX7_run_115, uX7_run_117, uX7_run_118, uX7_run_119, uX7_run_120, uX7_run_120o, uX7_run_120f, uX7_run_121, uX7_run_124, uX7_run_127, uX7_run_130, pq_C_sI, pq_C_sJ, pq_C_sR, pq_C_sA, pq_L_sI, pq_L_sJ, pq_L_sR, pq_L_sA, pq_I_sI, pq_I_sJ, pq_I_sR, pq_I_sA, pq_J_sI, pq_J_sJ, pq_J_sR, pq_J_sA, pq_R_sI, pq_R_sJ, pq_R_sR, pq_R_sA, pq_N_sI, pq_N_sJ, pq_N_sR, pq_N_sA, pq_S_sI, pq_S_sJ, pq_S_sR, pq_S_sA, pz_rf_s, pz_cut_i, pz_cut_r, pz_cut_n, pz_cut_f, pz_cut_u, pz_cut_o, true_and, and_true, true_or, or_true, Option.toList_some, Option.toList_none, List.cons_append, List.nil_append, Nat.add_left_cancel_iff, Nat.left_eq_add, Nat.add_eq_left, Nat.reduceEqDiff, if_true, if_false, ite_true, ite_false, false_and, and_false, false_or, or_false, reduceIte, reduceCtorEq, and_self]
    rw [if_neg (nI_ge hk (by omega))]
    have e0 : h' = pz_sA h' 8 (pz_I h' 8) := pq_sA_eta.symm
    rw [e0, run_1 (SH_fr S0 F) W' hra hb (by omega), hM]
    generalize hX : rw16 M k (pz_I h' 8) 16 = X
    have fin : ∀ Y : Nat → Int32, Y = rwF M k (pz_I h' 8) → wp (d + 2) mX7_run 120 [.ref 7, .ref r, .int (nI b), .int (nI n), .int (nI (sh_P M.length / 64)), .int (nI k), .int 16] [] (pz_sA h' 8 Y) Q := by
      intro Y hY
      simp only [uX7_run_120, uX7_run_121, pq_C_sI, pq_C_sJ, pq_C_sR, pq_C_sA, pq_L_sI, pq_L_sJ, pq_L_sR, pq_L_sA, pq_I_sI, pq_I_sJ, pq_I_sR, pq_I_sA, pq_J_sI, pq_J_sJ, pq_J_sR, pq_J_sA, pq_R_sI, pq_R_sJ, pq_R_sR, pq_R_sA, pq_N_sI, pq_N_sJ, pq_N_sR, pq_N_sA, pq_S_sI, pq_S_sJ, pq_S_sR, pq_S_sA, pz_rf_s, pz_cut_i, pz_cut_r, pz_cut_n, pz_cut_f, pz_cut_u, pz_cut_o, true_and, and_true, true_or, or_true, Option.toList_some, Option.toList_none, List.cons_append, List.nil_append, Nat.add_left_cancel_iff, Nat.left_eq_add, Nat.add_eq_left, Nat.reduceEqDiff, if_true, if_false, ite_true, ite_false, false_and, and_false, false_or, or_false, reduceIte, reduceCtorEq, and_self, t1]
      generalize hW : sh_sched Y 64 = W
      rw [c_mix (SH_fr S0 F) hW]
      simp only [uX7_run_124, uX7_run_127, pq_C_sI, pq_C_sJ, pq_C_sR, pq_C_sA, pq_L_sI, pq_L_sJ, pq_L_sR, pq_L_sA, pq_I_sI, pq_I_sJ, pq_I_sR, pq_I_sA, pq_J_sI, pq_J_sJ, pq_J_sR, pq_J_sA, pq_R_sI, pq_R_sJ, pq_R_sR, pq_R_sA, pq_N_sI, pq_N_sJ, pq_N_sR, pq_N_sA, pq_S_sI, pq_S_sJ, pq_S_sR, pq_S_sA, pz_rf_s, pz_cut_i, pz_cut_r, pz_cut_n, pz_cut_f, pz_cut_u, pz_cut_o, true_and, and_true, true_or, or_true, Option.toList_some, Option.toList_none, List.cons_append, List.nil_append, Nat.add_left_cancel_iff, Nat.left_eq_add, Nat.add_eq_left, Nat.reduceEqDiff, if_true, if_false, ite_true, ite_false, false_and, and_false, false_or, or_false, reduceIte, reduceCtorEq, and_self, nI_1]
      refine K' _ _ ⟨⟨_, rfl⟩, HF_trans F (HF_trans (HF_sA (by simp)) (HF_sA (by simp))), fun i hi => ?_⟩
      rw [sh_it_s, pq_I_sA, if_pos rfl]
      refine st_c (fun j hj => ?_) I i hi
      rw [← hW, hY]
      exact rwF_w hm hk j hj
    simp only [enX7_run, uX7_run_0, uX7_run_0o, uX7_run_0f, uX7_run_1, uX7_run_4, uX7_run_5, uX7_run_7, uX7_run_8, uX7_run_8o, uX7_run_8f, uX7_run_9, uX7_run_12, uX7_run_13, uX7_run_15, uX7_run_16, uX7_run_16o, uX7_run_16f, uX7_run_17, uX7_run_20, uX7_run_21, uX7_run_23, uX7_run_24, uX7_run_24o, uX7_run_24f, uX7_run_25, uX7_run_28, uX7_run_29, uX7_run_31, uX7_run_32, uX7_run_32o, uX7_run_32f, uX7_run_33, uX7_run_36, uX7_run_37, uX7_run_39, uX7_run_40, uX7_run_41, uX7_run_43, uX7_run_44, uX7_run_46, uX7_run_47, uX7_run_48, uX7_run_49, uX7_run_51, uX7_run_52, uX7_run_56, uX7_run_58, uX7_run_61, uX7_run_62, uX7_run_66, uX7_run_68, uX7_run_71, uX7_run_71o, uX7_run_71f, uX7_run_72, uX7_run_75, uX7_run_77, uX7_run_77o, uX7_run_77f, uX7_run_78, uX7_run_79, uX7_run_80, uX7_run_82, uX7_run_84, uX7_run_85, uX7_run_86, uX7_run_88, uX7_run_89, uX7_run_90, uX7_run_93, uX7_run_94, uX7_run_97, uX7_run_100, uX7_run_102, uX7_run_104, uX7_run_105, uX7_run_106, uX7_run_109, uX7_run_109o, uX7_run_109f, uX7_run_110, uX7_run_113, uX7_run_115, uX7_run_117, uX7_run_118, uX7_run_119, uX7_run_121, uX7_run_124, uX7_run_127, uX7_run_130, pq_C_sI, pq_C_sJ, pq_C_sR, pq_C_sA, pq_L_sI, pq_L_sJ, pq_L_sR, pq_L_sA, pq_I_sI, pq_I_sJ, pq_I_sR, pq_I_sA, pq_J_sI, pq_J_sJ, pq_J_sR, pq_J_sA, pq_R_sI, pq_R_sJ, pq_R_sR, pq_R_sA, pq_N_sI, pq_N_sJ, pq_N_sR, pq_N_sA, pq_S_sI, pq_S_sJ, pq_S_sR, pq_S_sA, pz_rf_s, pz_cut_i, pz_cut_r, pz_cut_n, pz_cut_f, pz_cut_u, pz_cut_o, true_and, and_true, true_or, or_true, Option.toList_some, Option.toList_none, List.cons_append, List.nil_append, Nat.add_left_cancel_iff, Nat.left_eq_add, Nat.add_eq_left, Nat.reduceEqDiff, if_true, if_false, ite_true, ite_false, false_and, and_false, false_or, or_false, reduceIte, reduceCtorEq, and_self, t1, t2, t3, t4]
    rw [show nI (sh_P M.length / 64) - 1 = nI (sh_P M.length / 64 - 1) from pk_sub (b := 1) (by omega)]
    by_cases e : k + 1 = sh_P M.length / 64
    · rw [if_neg (fun z => z (by rw [← e]; rfl))]
      simp only [show (15 : Int32) = nI 15 from rfl, show (8 : Int32) * nI n = nI (8 * n) from pk_mul 8 n]
      simp (disch := omega) only [nI_clamp, pz_in_nI, true_and, pq_sI_sA]
      refine fin _ ?_
      unfold rwF
      rw [if_pos e, hX, ml]
    · rw [if_pos (show ¬ nI k = nI (sh_P M.length / 64 - 1) from fun z => e (by have := (nI_eq (by omega) (by omega)).mp z; omega))]
      refine fin X ?_
      unfold rwF
      rw [if_neg e, hX]
  · rintro ls h' ⟨⟨v6, rfl⟩, F, I⟩
    rw [uX7_run_54]
    simp only [enX7_run, uX7_run_0, uX7_run_0o, uX7_run_0f, uX7_run_1, uX7_run_4, uX7_run_5, uX7_run_7, uX7_run_8, uX7_run_8o, uX7_run_8f, uX7_run_9, uX7_run_12, uX7_run_13, uX7_run_15, uX7_run_16, uX7_run_16o, uX7_run_16f, uX7_run_17, uX7_run_20, uX7_run_21, uX7_run_23, uX7_run_24, uX7_run_24o, uX7_run_24f, uX7_run_25, uX7_run_28, uX7_run_29, uX7_run_31, uX7_run_32, uX7_run_32o, uX7_run_32f, uX7_run_33, uX7_run_36, uX7_run_37, uX7_run_39, uX7_run_40, uX7_run_41, uX7_run_43, uX7_run_44, uX7_run_46, uX7_run_47, uX7_run_48, uX7_run_49, uX7_run_51, uX7_run_52, uX7_run_56, uX7_run_58, uX7_run_61, uX7_run_62, uX7_run_66, uX7_run_68, uX7_run_71, uX7_run_71o, uX7_run_71f, uX7_run_72, uX7_run_75, uX7_run_77, uX7_run_77o, uX7_run_77f, uX7_run_78, uX7_run_79, uX7_run_80, uX7_run_82, uX7_run_84, uX7_run_85, uX7_run_86, uX7_run_88, uX7_run_89, uX7_run_90, uX7_run_93, uX7_run_94, uX7_run_97, uX7_run_100, uX7_run_102, uX7_run_104, uX7_run_105, uX7_run_106, uX7_run_109, uX7_run_109o, uX7_run_109f, uX7_run_110, uX7_run_113, uX7_run_115, uX7_run_117, uX7_run_118, uX7_run_119, uX7_run_120, uX7_run_120o, uX7_run_120f, uX7_run_121, uX7_run_124, uX7_run_127, uX7_run_130, pq_C_sI, pq_C_sJ, pq_C_sR, pq_C_sA, pq_L_sI, pq_L_sJ, pq_L_sR, pq_L_sA, pq_I_sI, pq_I_sJ, pq_I_sR, pq_I_sA, pq_J_sI, pq_J_sJ, pq_J_sR, pq_J_sA, pq_R_sI, pq_R_sJ, pq_R_sR, pq_R_sA, pq_N_sI, pq_N_sJ, pq_N_sR, pq_N_sA, pq_S_sI, pq_S_sJ, pq_S_sR, pq_S_sA, pz_rf_s, pz_cut_i, pz_cut_r, pz_cut_n, pz_cut_f, pz_cut_u, pz_cut_o, true_and, and_true, true_or, or_true, Option.toList_some, Option.toList_none, List.cons_append, List.nil_append, Nat.add_left_cancel_iff, Nat.left_eq_add, Nat.add_eq_left, Nat.reduceEqDiff, if_true, if_false, ite_true, ite_false, false_and, and_false, false_or, or_false, reduceIte, reduceCtorEq, and_self]
    rw [if_pos (nI_le (Nat.le_refl _) (by omega))]
    exact K h' F I
  · rw [pq_I_sA, if_pos rfl]
    show sh_ini (pz_I h 9) i = sh_ini (fun _ => 0) i
    exact ini_c i hi
theorem shaL_get {m : List Int8} {j : Nat} (hj : j < 20) : (shaL m).getD j 0 = ((sh_it (sh_p2 (bof m) m.length 8) (fun _ => 0) (sh_ini (fun _ => 0)) (sh_P m.length / 64)).2 (j / 4) >>> ((24 - 8 * nI (j % 4)) &&& 31)).toInt8 := by
  unfold shaL
  rw [ofF_get hj]
  show (sh_dg (sh_it (sh_p2 (bof m) m.length 8) (fun _ => 0) (sh_ini (fun _ => 0)) (sh_P m.length / 64)).2 j).toInt8 = _
  unfold sh_dg
  rw [i88]
theorem c_byteAt (S : SH h) {m : List Int8} (M : SUM h m) {j : Nat} (hj : j < 20) : pz_M (d + 1) mX7_byteAt [.ref 7, .int (nI j)] h Q ↔ Q (some (.int (nI (ub ((shaL m).getD j 0))))) h := by
  obtain ⟨s1, s2, s3, s4, s5, s6, s7⟩ := S
  simp only [enX7_byteAt, uX7_byteAt_0, uX7_byteAt_1, uX7_byteAt_4, uX7_byteAt_5, uX7_byteAt_7, uX7_byteAt_10, uX7_byteAt_11, uX7_byteAt_14, uX7_byteAt_14o, uX7_byteAt_14f, uX7_byteAt_15, uX7_byteAt_18, uX7_byteAt_19, uX7_byteAt_20, uX7_byteAt_21, uX7_byteAt_22, uX7_byteAt_24, uX7_byteAt_26, uX7_byteAt_27, uX7_byteAt_28, uX7_byteAt_29, uX7_byteAt_30, uX7_byteAt_31, uX7_byteAt_32, uX7_byteAt_35, uX7_byteAt_36, pq_C_sI, pq_C_sJ, pq_C_sR, pq_C_sA, pq_L_sI, pq_L_sJ, pq_L_sR, pq_L_sA, pq_I_sI, pq_I_sJ, pq_I_sR, pq_I_sA, pq_J_sI, pq_J_sJ, pq_J_sR, pq_J_sA, pq_R_sI, pq_R_sJ, pq_R_sR, pq_R_sA, pq_N_sI, pq_N_sJ, pq_N_sR, pq_N_sA, pq_S_sI, pq_S_sJ, pq_S_sR, pq_S_sA, pz_rf_s, pz_cut_i, pz_cut_r, pz_cut_n, pz_cut_f, pz_cut_u, pz_cut_o, true_and, and_true, true_or, or_true, Option.toList_some, Option.toList_none, List.cons_append, List.nil_append, Nat.add_left_cancel_iff, Nat.left_eq_add, Nat.add_eq_left, Nat.reduceEqDiff, if_true, if_false, ite_true, ite_false, false_and, and_false, false_or, or_false, reduceIte, reduceCtorEq, and_self, z_4, z_5, z_7, z_8, z_10, z_16, z_20, z_64, not_false_eq_true, s1, s5, s6, s7]
  rw [if_neg (nI_pos (by omega)), if_pos (show nI j < 20 from nI_lt (b := 20) hj (by decide))]
  rw [show (4 : Int32) = nI 4 from rfl, pk_rem (show j < 2 ^ 31 by omega) (by decide) (by decide), pk_div (show j < 2 ^ 31 by omega) (by decide) (by decide)]
  simp (disch := omega) only [nI_clamp, pz_in_nI, true_and]
  rw [M (j / 4) (by omega), shaL_get hj]
  have e : (24 : Int32) - 8 * nI (j % 4) = nI (24 - 8 * (j % 4)) := by
    rw [show (8 : Int32) = nI 8 from rfl, pk_mul]
    exact pk_sub (a := 24) (by omega)
  rw [e]
  generalize (sh_it (sh_p2 (bof m) m.length 8) (fun _ => 0) (sh_ini (fun _ => 0)) (sh_P m.length / 64)).2 (j / 4) = x
  have e2 : ((x.toUInt32 >>> ((nI (24 - 8 * (j % 4))).toUInt32 &&& Int32.toUInt32 31)).toInt32) &&& 255 = nI (ub ((x >>> (nI (24 - 8 * (j % 4)) &&& 31)).toInt8)) := by
    rw [← ub_and, ← sh_u8 _ (by omega), bp_b]
  rw [e2]
theorem c_addTo (S : SH h) {m : List Int8} (M : SUM h m) {r a cap : Nat} {l : List Int8} (w : ROW h r a cap l) (hra : r ≠ 9 ∧ a ≠ 9) (hl : l.length + 20 ≤ cap) (K : ∀ h', HF [r, a] h h' → ROW h' r a cap (l ++ shaL m) → Q none h') : pz_M (d + 3) mX7_addTo [.ref 7, .ref r] h Q := by
  simp only [enX7_addTo, uX7_addTo_0, uX7_addTo_1, uX7_addTo_3, uX7_addTo_5, uX7_addTo_8, uX7_addTo_8o, uX7_addTo_8f, uX7_addTo_9, uX7_addTo_9o, uX7_addTo_9f, uX7_addTo_10, uX7_addTo_11, uX7_addTo_14, uX7_addTo_17, uX7_addTo_20, uX7_addTo_23, pq_C_sI, pq_C_sJ, pq_C_sR, pq_C_sA, pq_L_sI, pq_L_sJ, pq_L_sR, pq_L_sA, pq_I_sI, pq_I_sJ, pq_I_sR, pq_I_sA, pq_J_sI, pq_J_sJ, pq_J_sR, pq_J_sA, pq_R_sI, pq_R_sJ, pq_R_sR, pq_R_sA, pq_N_sI, pq_N_sJ, pq_N_sR, pq_N_sA, pq_S_sI, pq_S_sJ, pq_S_sR, pq_S_sA, pz_rf_s, pz_cut_i, pz_cut_r, pz_cut_n, pz_cut_f, pz_cut_u, pz_cut_o, true_and, and_true, true_or, or_true, Option.toList_some, Option.toList_none, List.cons_append, List.nil_append, Nat.add_left_cancel_iff, Nat.left_eq_add, Nat.add_eq_left, Nat.reduceEqDiff, if_true, if_false, ite_true, ite_false, false_and, and_false, false_or, or_false, reduceIte, reduceCtorEq, and_self]
  have sl : (shaL m).length = 20 := ofF_len
  refine wp_up 20 (fun i ls h' => ls = [.ref 7, .ref r, .int (nI i)] ∧ HF [r, a] h h' ∧ ROW h' r a cap (l ++ ofF (fun i => (shaL m).getD i 0) i)) ?_ ?_ _ _ ⟨rfl, HF_refl, by rw [ofF_0, List.append_nil]; exact w⟩
  · rintro i ls h' hi ⟨rfl, F, W⟩ K'
    have S' := SH_fr S F
    have M' : SUM h' m := fun j hj => by rw [F.2.2.2.2.2.2.2.1 9 (by simp; exact ⟨fun z => hra.1 z.symm, fun z => hra.2 z.symm⟩)]; exact M j hj
    rw [uX7_addTo_2]
    simp only [enX7_addTo, uX7_addTo_0, uX7_addTo_1, uX7_addTo_3, uX7_addTo_5, uX7_addTo_8, uX7_addTo_8o, uX7_addTo_8f, uX7_addTo_9, uX7_addTo_9o, uX7_addTo_9f, uX7_addTo_10, uX7_addTo_11, uX7_addTo_14, uX7_addTo_17, uX7_addTo_20, uX7_addTo_23, pq_C_sI, pq_C_sJ, pq_C_sR, pq_C_sA, pq_L_sI, pq_L_sJ, pq_L_sR, pq_L_sA, pq_I_sI, pq_I_sJ, pq_I_sR, pq_I_sA, pq_J_sI, pq_J_sJ, pq_J_sR, pq_J_sA, pq_R_sI, pq_R_sJ, pq_R_sR, pq_R_sA, pq_N_sI, pq_N_sJ, pq_N_sR, pq_N_sA, pq_S_sI, pq_S_sJ, pq_S_sR, pq_S_sA, pz_rf_s, pz_cut_i, pz_cut_r, pz_cut_n, pz_cut_f, pz_cut_u, pz_cut_o, true_and, and_true, true_or, or_true, Option.toList_some, Option.toList_none, List.cons_append, List.nil_append, Nat.add_left_cancel_iff, Nat.left_eq_add, Nat.add_eq_left, Nat.reduceEqDiff, if_true, if_false, ite_true, ite_false, false_and, and_false, false_or, or_false, reduceIte, reduceCtorEq, and_self, S'.1, W.1, c_byteAt S' M' hi]
    rw [if_neg (show ¬ (20 : Int32) ≤ nI i from nI_ge hi (by decide))]
    refine c_add W (by rw [List.length_append, ofF_len]; omega) (fun h2 F2 W2 => ?_)
    simp only [enX7_addTo, uX7_addTo_0, uX7_addTo_1, uX7_addTo_3, uX7_addTo_5, uX7_addTo_8, uX7_addTo_8o, uX7_addTo_8f, uX7_addTo_9, uX7_addTo_9o, uX7_addTo_9f, uX7_addTo_10, uX7_addTo_11, uX7_addTo_14, uX7_addTo_17, uX7_addTo_20, uX7_addTo_23, pq_C_sI, pq_C_sJ, pq_C_sR, pq_C_sA, pq_L_sI, pq_L_sJ, pq_L_sR, pq_L_sA, pq_I_sI, pq_I_sJ, pq_I_sR, pq_I_sA, pq_J_sI, pq_J_sJ, pq_J_sR, pq_J_sA, pq_R_sI, pq_R_sJ, pq_R_sR, pq_R_sA, pq_N_sI, pq_N_sJ, pq_N_sR, pq_N_sA, pq_S_sI, pq_S_sJ, pq_S_sR, pq_S_sA, pz_rf_s, pz_cut_i, pz_cut_r, pz_cut_n, pz_cut_f, pz_cut_u, pz_cut_o, true_and, and_true, true_or, or_true, Option.toList_some, Option.toList_none, List.cons_append, List.nil_append, Nat.add_left_cancel_iff, Nat.left_eq_add, Nat.add_eq_left, Nat.reduceEqDiff, if_true, if_false, ite_true, ite_false, false_and, and_false, false_or, or_false, reduceIte, reduceCtorEq, and_self, nI_1]
    refine K' _ _ ⟨rfl, HF_trans F F2, ?_⟩
    rw [ub_8] at W2
    rw [ofF_s, ← List.append_assoc]
    exact W2
  · rintro ls h' ⟨rfl, F, W⟩
    rw [uX7_addTo_2]
    simp only [enX7_addTo, uX7_addTo_0, uX7_addTo_1, uX7_addTo_3, uX7_addTo_5, uX7_addTo_8, uX7_addTo_8o, uX7_addTo_8f, uX7_addTo_9, uX7_addTo_9o, uX7_addTo_9f, uX7_addTo_10, uX7_addTo_11, uX7_addTo_14, uX7_addTo_17, uX7_addTo_20, uX7_addTo_23, pq_C_sI, pq_C_sJ, pq_C_sR, pq_C_sA, pq_L_sI, pq_L_sJ, pq_L_sR, pq_L_sA, pq_I_sI, pq_I_sJ, pq_I_sR, pq_I_sA, pq_J_sI, pq_J_sJ, pq_J_sR, pq_J_sA, pq_R_sI, pq_R_sJ, pq_R_sR, pq_R_sA, pq_N_sI, pq_N_sJ, pq_N_sR, pq_N_sA, pq_S_sI, pq_S_sJ, pq_S_sR, pq_S_sA, pz_rf_s, pz_cut_i, pz_cut_r, pz_cut_n, pz_cut_f, pz_cut_u, pz_cut_o, true_and, and_true, true_or, or_true, Option.toList_some, Option.toList_none, List.cons_append, List.nil_append, Nat.add_left_cancel_iff, Nat.left_eq_add, Nat.add_eq_left, Nat.reduceEqDiff, if_true, if_false, ite_true, ite_false, false_and, and_false, false_or, or_false, reduceIte, reduceCtorEq, and_self]
    rw [if_pos (show (20 : Int32) ≤ nI 20 by decide)]
    have e : ofF (fun i => (shaL m).getD i 0) 20 = shaL m := by
      have := ofF_getD (l := shaL m)
      rwa [sl] at this
    rw [e] at W
    exact K h' F W
end
