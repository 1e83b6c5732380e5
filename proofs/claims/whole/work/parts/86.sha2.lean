/-! ===== the class: SHA-1, run ===== -/
section
variable {d : Nat} {h : PzH} {Q : Option Value → PzH → Prop}
def ad5 (s : Nat → Int32) (a b c e f : Int32) : Nat → Int32 := fun j => if j = 0 then s 0 + a else if j = 1 then s 1 + b else if j = 2 then s 2 + c else if j = 3 then s 3 + e else if j = 4 then s 4 + f else s j
set_option maxHeartbeats 200000 in
theorem mix_3 (S : SH h) {v1 v2 v3 v4 v5 v6 v7 : Value} : wp d mX7_mix 63 [.ref 7, v1, v2, v3, v4, v5, v6, v7] [] h Q ↔ wp d mX7_mix 103 [.ref 7, .int (pz_I h 9 0), .int (pz_I h 9 1), .int (pz_I h 9 2), .int (pz_I h 9 3), .int (pz_I h 9 4), .int 0, v7] [] h Q := by
  obtain ⟨s1, s2, s3, s4, s5, s6, s7⟩ := S
  simp only [enX7_mix, uX7_mix_0, uX7_mix_2, uX7_mix_3, uX7_mix_4, uX7_mix_6, uX7_mix_9, uX7_mix_9o, uX7_mix_9f, uX7_mix_10, uX7_mix_13, uX7_mix_14, uX7_mix_14o, uX7_mix_14f, uX7_mix_15, uX7_mix_18, uX7_mix_19, uX7_mix_20, uX7_mix_21, uX7_mix_22, uX7_mix_22o, uX7_mix_22f, uX7_mix_23, uX7_mix_26, uX7_mix_27, uX7_mix_29, uX7_mix_30, uX7_mix_31, uX7_mix_32, uX7_mix_32o, uX7_mix_32f, uX7_mix_33, uX7_mix_36, uX7_mix_37, uX7_mix_39, uX7_mix_40, uX7_mix_41, uX7_mix_42, uX7_mix_42o, uX7_mix_42f, uX7_mix_43, uX7_mix_46, uX7_mix_47, uX7_mix_49, uX7_mix_50, uX7_mix_51, uX7_mix_52, uX7_mix_53, uX7_mix_56, uX7_mix_57, uX7_mix_60, uX7_mix_63, uX7_mix_63o, uX7_mix_63f, uX7_mix_64, uX7_mix_67, uX7_mix_68, uX7_mix_69, uX7_mix_70, uX7_mix_70o, uX7_mix_70f, uX7_mix_71, uX7_mix_74, uX7_mix_75, uX7_mix_76, uX7_mix_77, uX7_mix_77o, uX7_mix_77f, uX7_mix_78, uX7_mix_81, uX7_mix_82, uX7_mix_83, uX7_mix_84, uX7_mix_84o, uX7_mix_84f, uX7_mix_85, uX7_mix_88, uX7_mix_89, uX7_mix_90, uX7_mix_92, uX7_mix_92o, uX7_mix_92f, uX7_mix_93, uX7_mix_96, uX7_mix_97, uX7_mix_98, uX7_mix_100, uX7_mix_101, uX7_mix_105, uX7_mix_107, uX7_mix_110, uX7_mix_111, uX7_mix_112, uX7_mix_115, uX7_mix_117, uX7_mix_118, uX7_mix_119, uX7_mix_121, uX7_mix_124, uX7_mix_125, uX7_mix_127, uX7_mix_128, uX7_mix_128o, uX7_mix_128f, uX7_mix_129, uX7_mix_132, uX7_mix_134, uX7_mix_135, uX7_mix_136, uX7_mix_138, uX7_mix_140, uX7_mix_142, uX7_mix_143, uX7_mix_145, uX7_mix_146, uX7_mix_148, uX7_mix_151, uX7_mix_152, uX7_mix_153, uX7_mix_154, uX7_mix_156, uX7_mix_157, uX7_mix_160, uX7_mix_164, uX7_mix_167, uX7_mix_168, uX7_mix_169, uX7_mix_170, uX7_mix_171, uX7_mix_172, uX7_mix_173, uX7_mix_173o, uX7_mix_173f, uX7_mix_174, uX7_mix_177, uX7_mix_178, uX7_mix_179, uX7_mix_180, uX7_mix_181, uX7_mix_182, uX7_mix_183, uX7_mix_183o, uX7_mix_183f, uX7_mix_184, uX7_mix_187, uX7_mix_188, uX7_mix_189, uX7_mix_190, uX7_mix_191, uX7_mix_192, uX7_mix_193, uX7_mix_193o, uX7_mix_193f, uX7_mix_194, uX7_mix_197, uX7_mix_198, uX7_mix_199, uX7_mix_200, uX7_mix_202, uX7_mix_203, uX7_mix_204, uX7_mix_204o, uX7_mix_204f, uX7_mix_205, uX7_mix_208, uX7_mix_209, uX7_mix_210, uX7_mix_211, uX7_mix_213, uX7_mix_214, uX7_mix_215, s1, s5, s6, s7, pq_C_sI, pq_C_sJ, pq_C_sR, pq_C_sA, pq_L_sI, pq_L_sJ, pq_L_sR, pq_L_sA, pq_I_sI, pq_I_sJ, pq_I_sR, pq_I_sA, pq_J_sI, pq_J_sJ, pq_J_sR, pq_J_sA, pq_R_sI, pq_R_sJ, pq_R_sR, pq_R_sA, pq_N_sI, pq_N_sJ, pq_N_sR, pq_N_sA, pq_S_sI, pq_S_sJ, pq_S_sR, pq_S_sA, pz_rf_s, pz_cut_i, pz_cut_r, pz_cut_n, pz_cut_f, pz_cut_u, pz_cut_o, true_and, and_true, true_or, or_true, Option.toList_some, Option.toList_none, List.cons_append, List.nil_append, Nat.add_left_cancel_iff, Nat.left_eq_add, Nat.add_eq_left, Nat.reduceEqDiff, if_true, if_false, ite_true, ite_false, false_and, and_false, false_or, or_false, reduceIte, reduceCtorEq, and_self, pi_5, tn_k]
set_option maxHeartbeats 200000 in
theorem mix_4 (S : SH h) {a b c e f : Int32} {v6 v7 : Value} : wp d mX7_mix 163 [.ref 7, .int a, .int b, .int c, .int e, .int f, v6, v7] [] h Q ↔ Q none (pz_sA h 9 (ad5 (pz_I h 9) a b c e f)) := by
  obtain ⟨s1, s2, s3, s4, s5, s6, s7⟩ := S
  simp only [enX7_mix, uX7_mix_0, uX7_mix_2, uX7_mix_3, uX7_mix_4, uX7_mix_6, uX7_mix_9, uX7_mix_9o, uX7_mix_9f, uX7_mix_10, uX7_mix_13, uX7_mix_14, uX7_mix_14o, uX7_mix_14f, uX7_mix_15, uX7_mix_18, uX7_mix_19, uX7_mix_20, uX7_mix_21, uX7_mix_22, uX7_mix_22o, uX7_mix_22f, uX7_mix_23, uX7_mix_26, uX7_mix_27, uX7_mix_29, uX7_mix_30, uX7_mix_31, uX7_mix_32, uX7_mix_32o, uX7_mix_32f, uX7_mix_33, uX7_mix_36, uX7_mix_37, uX7_mix_39, uX7_mix_40, uX7_mix_41, uX7_mix_42, uX7_mix_42o, uX7_mix_42f, uX7_mix_43, uX7_mix_46, uX7_mix_47, uX7_mix_49, uX7_mix_50, uX7_mix_51, uX7_mix_52, uX7_mix_53, uX7_mix_56, uX7_mix_57, uX7_mix_60, uX7_mix_63, uX7_mix_63o, uX7_mix_63f, uX7_mix_64, uX7_mix_67, uX7_mix_68, uX7_mix_69, uX7_mix_70, uX7_mix_70o, uX7_mix_70f, uX7_mix_71, uX7_mix_74, uX7_mix_75, uX7_mix_76, uX7_mix_77, uX7_mix_77o, uX7_mix_77f, uX7_mix_78, uX7_mix_81, uX7_mix_82, uX7_mix_83, uX7_mix_84, uX7_mix_84o, uX7_mix_84f, uX7_mix_85, uX7_mix_88, uX7_mix_89, uX7_mix_90, uX7_mix_92, uX7_mix_92o, uX7_mix_92f, uX7_mix_93, uX7_mix_96, uX7_mix_97, uX7_mix_98, uX7_mix_100, uX7_mix_101, uX7_mix_105, uX7_mix_107, uX7_mix_110, uX7_mix_111, uX7_mix_112, uX7_mix_115, uX7_mix_117, uX7_mix_118, uX7_mix_119, uX7_mix_121, uX7_mix_124, uX7_mix_125, uX7_mix_127, uX7_mix_128, uX7_mix_128o, uX7_mix_128f, uX7_mix_129, uX7_mix_132, uX7_mix_134, uX7_mix_135, uX7_mix_136, uX7_mix_138, uX7_mix_140, uX7_mix_142, uX7_mix_143, uX7_mix_145, uX7_mix_146, uX7_mix_148, uX7_mix_151, uX7_mix_152, uX7_mix_153, uX7_mix_154, uX7_mix_156, uX7_mix_157, uX7_mix_160, uX7_mix_163, uX7_mix_163o, uX7_mix_163f, uX7_mix_164, uX7_mix_167, uX7_mix_168, uX7_mix_169, uX7_mix_170, uX7_mix_171, uX7_mix_172, uX7_mix_173, uX7_mix_173o, uX7_mix_173f, uX7_mix_174, uX7_mix_177, uX7_mix_178, uX7_mix_179, uX7_mix_180, uX7_mix_181, uX7_mix_182, uX7_mix_183, uX7_mix_183o, uX7_mix_183f, uX7_mix_184, uX7_mix_187, uX7_mix_188, uX7_mix_189, uX7_mix_190, uX7_mix_191, uX7_mix_192, uX7_mix_193, uX7_mix_193o, uX7_mix_193f, uX7_mix_194, uX7_mix_197, uX7_mix_198, uX7_mix_199, uX7_mix_200, uX7_mix_202, uX7_mix_203, uX7_mix_204, uX7_mix_204o, uX7_mix_204f, uX7_mix_205, uX7_mix_208, uX7_mix_209, uX7_mix_210, uX7_mix_211, uX7_mix_213, uX7_mix_214, uX7_mix_215, s1, s5, s6, s7, pq_C_sI, pq_C_sJ, pq_C_sR, pq_C_sA, pq_L_sI, pq_L_sJ, pq_L_sR, pq_L_sA, pq_I_sI, pq_I_sJ, pq_I_sR, pq_I_sA, pq_J_sI, pq_J_sJ, pq_J_sR, pq_J_sA, pq_R_sI, pq_R_sJ, pq_R_sR, pq_R_sA, pq_N_sI, pq_N_sJ, pq_N_sR, pq_N_sA, pq_S_sI, pq_S_sJ, pq_S_sR, pq_S_sA, pz_rf_s, pz_cut_i, pz_cut_r, pz_cut_n, pz_cut_f, pz_cut_u, pz_cut_o, true_and, and_true, true_or, or_true, Option.toList_some, Option.toList_none, List.cons_append, List.nil_append, Nat.add_left_cancel_iff, Nat.left_eq_add, Nat.add_eq_left, Nat.reduceEqDiff, if_true, if_false, ite_true, ite_false, false_and, and_false, false_or, or_false, reduceIte, reduceCtorEq, and_self, pi_5, tn_k, pq_sI_A (a := 9), pq_sA_sA, upd]
  have e5 : upd (upd (upd (upd (upd (pz_I h 9) 0 (pz_I h 9 0 + a)) 1 (pz_I h 9 1 + b)) 2 (pz_I h 9 2 + c)) 3 (pz_I h 9 3 + e)) 4 (pz_I h 9 4 + f) = ad5 (pz_I h 9) a b c e f := by
    funext j
    unfold ad5 upd
    by_cases j4 : j = 4
    · subst j4; simp
    · by_cases j3 : j = 3
      · subst j3; simp
      · by_cases j2 : j = 2
        · subst j2; simp
        · by_cases j1 : j = 1
          · subst j1; simp
          · simp [j1, j2, j3, j4]
  rw [e5]
set_option maxHeartbeats 200000 in
theorem c_mix (S : SH h) {w0 W : Nat → Int32} (hW : sh_sched w0 64 = W) : pz_M (d + 2) mX7_mix [.ref 7] (pz_sA h 8 w0) Q ↔ Q none (pz_sA (pz_sA h 8 W) 9 (sh_st W (pz_I h 9))) := by
  have S1 : SH (pz_sA h 8 W) := S
  rw [enX7_mix, uX7_mix_0, uX7_mix_2, pz_cut_r]
  refine (mix_1 S).trans ?_
  rw [hW, mix_3 S1]
  obtain ⟨w7, e3⟩ := mix_2 (d := d) (Q := Q) (h := pz_sA h 8 W) S1 (s := pz_I (pz_sA h 8 W) 9) (v7 := .retAddr 0)
  refine e3.trans ?_
  rw [mix_4 S1]
  have ew : pz_I (pz_sA h 8 W) 8 = W := by rw [pq_I_sA, if_pos rfl]
  have e9 : pz_I (pz_sA h 8 W) 9 = pz_I h 9 := by rw [pq_I_sA, if_neg (by decide)]
  rw [ew, e9]
  generalize hz : sh_rd W (pz_I h 9) 80 = z
  have e6 : ad5 (pz_I h 9) z.1 z.2.1 z.2.2.1 z.2.2.2.1 z.2.2.2.2 = sh_st W (pz_I h 9) := by
    unfold ad5 sh_st
    rw [hz]
  rw [e6]
set_option maxHeartbeats 400000 in
theorem c_word {r a cap : Nat} {l : List Int8} (w : ROW h r a cap l) {b n o : Nat} (hb : b + n ≤ l.length) (ho : o ≤ 7000) : pz_M (d + 2) mX7_word [.ref r, .int (nI b), .int (nI n), .int (nI o)] h Q ↔ Q (some (.int (pw (ofF (fun i => l.getD (b + i) 0) n) o))) h := by
  have w6 := w.2.2.2.2.2.1
  have w8 := w.2.2.2.2.2.2.2.1
  have w1 := w.1
  have ml : (ofF (fun i => l.getD (b + i) 0) n).length = n := ofF_len
  generalize hM : ofF (fun i => l.getD (b + i) 0) n = M at ml
  have one : ∀ (i : Nat) (x : Nat) (v6 : Value), i < 4 → x < 16777216 → pz_cut v6 = v6 → (wp (d + 1) mX7_word 6 [.ref r, .int (nI b), .int (nI n), .int (nI o), .int (nI x), .int (nI (o + i)), v6] [] h Q ↔ wp (d + 1) mX7_word 6 [.ref r, .int (nI b), .int (nI n), .int (nI o), .int (nI (x * 2 ^ 8 + pby M (o + i))), .int (nI (o + i + 1)), .int (if o + i = n then 128 else 0)] [] h Q) := by
    intro i x v6 hi hx c6
    have pl := pby_lt (m := M) (i := o + i)
    have tl : ∀ y : Int32, wp (d + 1) mX7_word 29 [.ref r, .int (nI b), .int (nI n), .int (nI o), .int (nI x), .int (nI (o + i)), .int y] [] h Q ↔ wp (d + 1) mX7_word 6 [.ref r, .int (nI b), .int (nI n), .int (nI o), .int (nI (x * 2 ^ 8) ||| (if o + i < n then nI (ub (M.getD (o + i) 0)) else y)), .int (nI (o + i + 1)), .int y] [] h Q := by
      intro y
      simp only [enX7_word, uX7_word_0, uX7_word_1, uX7_word_3, uX7_word_4, uX7_word_8, uX7_word_9, uX7_word_10, uX7_word_11, uX7_word_14, uX7_word_16, uX7_word_17, uX7_word_20, uX7_word_23, uX7_word_26, uX7_word_27, uX7_word_29, uX7_word_31, uX7_word_33, uX7_word_34, uX7_word_36, uX7_word_37, uX7_word_40, uX7_word_40o, uX7_word_40f, uX7_word_41, uX7_word_42, uX7_word_44, uX7_word_45, uX7_word_48, uX7_word_51, uX7_word_52, uX7_word_55, uX7_word_57, uX7_word_58, uX7_word_60, uX7_word_63, uX7_word_66, uX7_word_68, pq_C_sI, pq_C_sJ, pq_C_sR, pq_C_sA, pq_L_sI, pq_L_sJ, pq_L_sR, pq_L_sA, pq_I_sI, pq_I_sJ, pq_I_sR, pq_I_sA, pq_J_sI, pq_J_sJ, pq_J_sR, pq_J_sA, pq_R_sI, pq_R_sJ, pq_R_sR, pq_R_sA, pq_N_sI, pq_N_sJ, pq_N_sR, pq_N_sA, pq_S_sI, pq_S_sJ, pq_S_sR, pq_S_sA, pz_rf_s, pz_cut_i, pz_cut_r, pz_cut_n, pz_cut_f, pz_cut_u, pz_cut_o, true_and, and_true, true_or, or_true, Option.toList_some, Option.toList_none, List.cons_append, List.nil_append, Nat.add_left_cancel_iff, Nat.left_eq_add, Nat.add_eq_left, Nat.reduceEqDiff, if_true, if_false, ite_true, ite_false, false_and, and_false, false_or, or_false, reduceIte, reduceCtorEq, and_self, w1, c_at w, nI_1, nI_add]
      rw [pk_shlN _ 8 (by decide) (by omega)]
      by_cases q : o + i < n
      · rw [if_neg (nI_ge q (by omega)), if_pos q]
        have ea : atL l (nI (b + (o + i))) = nI (ub (M.getD (o + i) 0)) := by
          unfold atL
          rw [vI_of (by omega) (by omega), ← hM, ofF_get q]
        have hu := ub_lt (M.getD (o + i) 0)
        rw [ea, pk_andN (by omega) 8 (by decide), Nat.mod_eq_of_lt (by omega)]
      · rw [if_pos (nI_le (by omega) (by omega)), if_neg q]
    rw [uX7_word_6]
    simp only [enX7_word, uX7_word_0, uX7_word_1, uX7_word_3, uX7_word_4, uX7_word_8, uX7_word_9, uX7_word_10, uX7_word_11, uX7_word_14, uX7_word_16, uX7_word_17, uX7_word_20, uX7_word_23, uX7_word_26, uX7_word_27, uX7_word_31, uX7_word_33, uX7_word_34, uX7_word_36, uX7_word_37, uX7_word_40, uX7_word_40o, uX7_word_40f, uX7_word_41, uX7_word_42, uX7_word_44, uX7_word_45, uX7_word_48, uX7_word_51, uX7_word_52, uX7_word_55, uX7_word_57, uX7_word_58, uX7_word_60, uX7_word_63, uX7_word_66, uX7_word_68, pq_C_sI, pq_C_sJ, pq_C_sR, pq_C_sA, pq_L_sI, pq_L_sJ, pq_L_sR, pq_L_sA, pq_I_sI, pq_I_sJ, pq_I_sR, pq_I_sA, pq_J_sI, pq_J_sJ, pq_J_sR, pq_J_sA, pq_R_sI, pq_R_sJ, pq_R_sR, pq_R_sA, pq_N_sI, pq_N_sJ, pq_N_sR, pq_N_sA, pq_S_sI, pq_S_sJ, pq_S_sR, pq_S_sA, pz_rf_s, pz_cut_i, pz_cut_r, pz_cut_n, pz_cut_f, pz_cut_u, pz_cut_o, true_and, and_true, true_or, or_true, Option.toList_some, Option.toList_none, List.cons_append, List.nil_append, Nat.add_left_cancel_iff, Nat.left_eq_add, Nat.add_eq_left, Nat.reduceEqDiff, if_true, if_false, ite_true, ite_false, false_and, and_false, false_or, or_false, reduceIte, reduceCtorEq, and_self, tl]
    rw [show nI o + 4 = nI (o + 4) from nI_add o 4, if_neg (nI_ge (show o + i < o + 4 by omega) (by omega))]
    have ep : nI (x * 2 ^ 8) ||| (if o + i < n then nI (ub (M.getD (o + i) 0)) else (if o + i = n then (128 : Int32) else 0)) = nI (x * 2 ^ 8 + pby M (o + i)) := by
      have : (if o + i < n then nI (ub (M.getD (o + i) 0)) else (if o + i = n then (128 : Int32) else 0)) = nI (pby M (o + i)) := by
        unfold pby
        rw [ml]
        by_cases q : o + i < n
        · rw [if_pos q, if_pos q]
        · rw [if_neg q, if_neg q]
          by_cases q2 : o + i = n
          · rw [if_pos q2, if_pos q2]; rfl
          · rw [if_neg q2, if_neg q2]; rfl
      rw [this, n_or (k := 8) (by omega)]
    by_cases q2 : o + i = n
    · rw [if_neg (fun z => z (by rw [q2]))]
      rw [if_pos q2] at ep ⊢
      rw [ep]
    · rw [if_pos (show ¬ nI (o + i) = nI n from fun z => q2 ((nI_eq (by omega) (by omega)).mp z))]
      rw [if_neg q2] at ep ⊢
      rw [ep]
  simp only [enX7_word, uX7_word_0, uX7_word_1, uX7_word_3, uX7_word_4, pz_cut_i]
  have p0 := pby_lt (m := M) (i := o)
  have p1 := pby_lt (m := M) (i := o + 1)
  have p2 := pby_lt (m := M) (i := o + 2)
  have p3 := pby_lt (m := M) (i := o + 3)
  refine Iff.trans (show _ ↔ _ from one 0 0 (.retAddr 0) (by decide) (by decide) rfl) ?_
  refine Iff.trans (show _ ↔ _ from one 1 (0 * 2 ^ 8 + pby M (o + 0)) _ (by decide) (by simp; omega) rfl) ?_
  refine Iff.trans (show _ ↔ _ from one 2 ((0 * 2 ^ 8 + pby M (o + 0)) * 2 ^ 8 + pby M (o + 1)) _ (by decide) (by simp; omega) rfl) ?_
  refine Iff.trans (show _ ↔ _ from one 3 (((0 * 2 ^ 8 + pby M (o + 0)) * 2 ^ 8 + pby M (o + 1)) * 2 ^ 8 + pby M (o + 2)) _ (by decide) (by simp; omega) rfl) ?_
  rw [uX7_word_6]
  simp only [enX7_word, uX7_word_0, uX7_word_1, uX7_word_3, uX7_word_4, uX7_word_8, uX7_word_9, uX7_word_10, uX7_word_11, uX7_word_14, uX7_word_16, uX7_word_17, uX7_word_20, uX7_word_23, uX7_word_26, uX7_word_27, uX7_word_29, uX7_word_31, uX7_word_33, uX7_word_34, uX7_word_36, uX7_word_37, uX7_word_40, uX7_word_40o, uX7_word_40f, uX7_word_41, uX7_word_42, uX7_word_44, uX7_word_45, uX7_word_48, uX7_word_51, uX7_word_52, uX7_word_55, uX7_word_57, uX7_word_58, uX7_word_60, uX7_word_63, uX7_word_66, uX7_word_68, pq_C_sI, pq_C_sJ, pq_C_sR, pq_C_sA, pq_L_sI, pq_L_sJ, pq_L_sR, pq_L_sA, pq_I_sI, pq_I_sJ, pq_I_sR, pq_I_sA, pq_J_sI, pq_J_sJ, pq_J_sR, pq_J_sA, pq_R_sI, pq_R_sJ, pq_R_sR, pq_R_sA, pq_N_sI, pq_N_sJ, pq_N_sR, pq_N_sA, pq_S_sI, pq_S_sJ, pq_S_sR, pq_S_sA, pz_rf_s, pz_cut_i, pz_cut_r, pz_cut_n, pz_cut_f, pz_cut_u, pz_cut_o, true_and, and_true, true_or, or_true, Option.toList_some, Option.toList_none, List.cons_append, List.nil_append, Nat.add_left_cancel_iff, Nat.left_eq_add, Nat.add_eq_left, Nat.reduceEqDiff, if_true, if_false, ite_true, ite_false, false_and, and_false, false_or, or_false, reduceIte, reduceCtorEq, and_self]
  rw [show nI o + 4 = nI (o + 4) from nI_add o 4, if_pos (nI_le (show o + 4 ≤ o + 3 + 1 by omega) (by omega))]
  have e : (((0 * 2 ^ 8 + pby M (o + 0)) * 2 ^ 8 + pby M (o + 1)) * 2 ^ 8 + pby M (o + 2)) * 2 ^ 8 + pby M (o + 3) = wdN (pby M o) (pby M (o + 1)) (pby M (o + 2)) (pby M (o + 3)) := by
    unfold wdN
    rw [Nat.add_zero]
    omega
  rw [e]
  exact Iff.rfl
/-- the words of a chunk, as run() lays them -/
def rw16 (m : List Int8) (k : Nat) (w : Nat → Int32) (t : Nat) : Nat → Int32 := fun j => if j < t then pw m (64 * k + 4 * j) else w j
theorem run_1 (S : SH h) {r a cap : Nat} {l : List Int8} (w : ROW h r a cap l) (hra : r ≠ 8 ∧ a ≠ 8 ∧ r ≠ 9 ∧ a ≠ 9) {b n k : Nat} {v4 : Int32} (hb : b + n ≤ l.length) (hk : k < 100) {f : Nat → Int32} : wp (d + 2) mX7_run 64 [.ref 7, .ref r, .int (nI b), .int (nI n), .int v4, .int (nI k), .int 0] [] (pz_sA h 8 f) Q ↔ wp (d + 2) mX7_run 100 [.ref 7, .ref r, .int (nI b), .int (nI n), .int v4, .int (nI k), .int 16] [] (pz_sA h 8 (rw16 (ofF (fun i => l.getD (b + i) 0) n) k f 16)) Q := by
  obtain ⟨s1, s2, s3, s4, s5, s6, s7⟩ := S
  have w6 := w.2.2.2.2.2.1
  have key := wp_for (d := d + 2) (m := mX7_run) (pc := 64) (Q := Q) (fun t => pz_sA h 8 (rw16 (ofF (fun i => l.getD (b + i) 0) n) k f t)) (fun t => [.ref 7, .ref r, .int (nI b), .int (nI n), .int v4, .int (nI k), .int (nI t)]) 16 (fun t ht => by
    have W : ROW (pz_sA h 8 (rw16 (ofF (fun i => l.getD (b + i) 0) n) k f t)) r a cap l := ROW_fr w (HF_sA (cs := [8]) (by simp)) (by simp; exact hra.1) (by simp; exact hra.2.1)
    rw [uX7_run_64]
    simp only [enX7_run, uX7_run_0, uX7_run_0o, uX7_run_0f, uX7_run_1, uX7_run_4, uX7_run_5, uX7_run_7, uX7_run_8, uX7_run_8o, uX7_run_8f, uX7_run_9, uX7_run_12, uX7_run_13, uX7_run_15, uX7_run_16, uX7_run_16o, uX7_run_16f, uX7_run_17, uX7_run_20, uX7_run_21, uX7_run_23, uX7_run_24, uX7_run_24o, uX7_run_24f, uX7_run_25, uX7_run_28, uX7_run_29, uX7_run_31, uX7_run_32, uX7_run_32o, uX7_run_32f, uX7_run_33, uX7_run_36, uX7_run_37, uX7_run_39, uX7_run_40, uX7_run_41, uX7_run_43, uX7_run_44, uX7_run_46, uX7_run_47, uX7_run_48, uX7_run_49, uX7_run_51, uX7_run_52, uX7_run_54, uX7_run_56, uX7_run_58, uX7_run_61, uX7_run_62, uX7_run_66, uX7_run_68, uX7_run_71, uX7_run_71o, uX7_run_71f, uX7_run_72, uX7_run_75, uX7_run_77, uX7_run_77o, uX7_run_77f, uX7_run_78, uX7_run_79, uX7_run_80, uX7_run_82, uX7_run_84, uX7_run_85, uX7_run_86, uX7_run_88, uX7_run_89, uX7_run_90, uX7_run_93, uX7_run_94, uX7_run_97, uX7_run_102, uX7_run_104, uX7_run_105, uX7_run_106, uX7_run_109, uX7_run_109o, uX7_run_109f, uX7_run_110, uX7_run_113, uX7_run_115, uX7_run_117, uX7_run_118, uX7_run_119, uX7_run_120, uX7_run_120o, uX7_run_120f, uX7_run_121, uX7_run_124, uX7_run_127, uX7_run_130, s1, s2, s3, s4, pq_C_sI, pq_C_sJ, pq_C_sR, pq_C_sA, pq_L_sI, pq_L_sJ, pq_L_sR, pq_L_sA, pq_I_sI, pq_I_sJ, pq_I_sR, pq_I_sA, pq_J_sI, pq_J_sJ, pq_J_sR, pq_J_sA, pq_R_sI, pq_R_sJ, pq_R_sR, pq_R_sA, pq_N_sI, pq_N_sJ, pq_N_sR, pq_N_sA, pq_S_sI, pq_S_sJ, pq_S_sR, pq_S_sA, pz_rf_s, pz_cut_i, pz_cut_r, pz_cut_n, pz_cut_f, pz_cut_u, pz_cut_o, true_and, and_true, true_or, or_true, Option.toList_some, Option.toList_none, List.cons_append, List.nil_append, Nat.add_left_cancel_iff, Nat.left_eq_add, Nat.add_eq_left, Nat.reduceEqDiff, if_true, if_false, ite_true, ite_false, false_and, and_false, false_or, or_false, reduceIte, reduceCtorEq, and_self, nI_c16, nI_c64, nI_c4, pk_mul, nI_add, c_word W hb (show 64 * k + 4 * t ≤ 7000 by omega)]
    rw [if_neg (nI_ge ht (by decide))]
    simp (disch := omega) only [nI_clamp, pz_in_nI, true_and, nI_1, pq_sI_sA]
    have e : upd (rw16 (ofF (fun i => l.getD (b + i) 0) n) k f t) t (pw (ofF (fun i => l.getD (b + i) 0) n) (64 * k + 4 * t)) = rw16 (ofF (fun i => l.getD (b + i) 0) n) k f (t + 1) := upd_pre (f := fun j => pw (ofF (fun i => l.getD (b + i) 0) n) (64 * k + 4 * j)) (g := f) (i := t)
    rw [e])
  have e0 : rw16 (ofF (fun i => l.getD (b + i) 0) n) k f 0 = f := by
    funext j
    unfold rw16
    rw [if_neg (by omega)]
  rw [e0] at key
  refine Iff.trans (show _ ↔ _ from key) ?_
  rw [uX7_run_64]
  simp only [enX7_run, uX7_run_0, uX7_run_0o, uX7_run_0f, uX7_run_1, uX7_run_4, uX7_run_5, uX7_run_7, uX7_run_8, uX7_run_8o, uX7_run_8f, uX7_run_9, uX7_run_12, uX7_run_13, uX7_run_15, uX7_run_16, uX7_run_16o, uX7_run_16f, uX7_run_17, uX7_run_20, uX7_run_21, uX7_run_23, uX7_run_24, uX7_run_24o, uX7_run_24f, uX7_run_25, uX7_run_28, uX7_run_29, uX7_run_31, uX7_run_32, uX7_run_32o, uX7_run_32f, uX7_run_33, uX7_run_36, uX7_run_37, uX7_run_39, uX7_run_40, uX7_run_41, uX7_run_43, uX7_run_44, uX7_run_46, uX7_run_47, uX7_run_48, uX7_run_49, uX7_run_51, uX7_run_52, uX7_run_54, uX7_run_56, uX7_run_58, uX7_run_61, uX7_run_62, uX7_run_66, uX7_run_68, uX7_run_71, uX7_run_71o, uX7_run_71f, uX7_run_72, uX7_run_75, uX7_run_77, uX7_run_77o, uX7_run_77f, uX7_run_78, uX7_run_79, uX7_run_80, uX7_run_82, uX7_run_84, uX7_run_85, uX7_run_86, uX7_run_88, uX7_run_89, uX7_run_90, uX7_run_93, uX7_run_94, uX7_run_97, uX7_run_102, uX7_run_104, uX7_run_105, uX7_run_106, uX7_run_109, uX7_run_109o, uX7_run_109f, uX7_run_110, uX7_run_113, uX7_run_115, uX7_run_117, uX7_run_118, uX7_run_119, uX7_run_120, uX7_run_120o, uX7_run_120f, uX7_run_121, uX7_run_124, uX7_run_127, uX7_run_130]
  rw [if_pos (show (16 : Int32) ≤ nI 16 by decide)]
  exact Iff.rfl
/-- the sum of those bytes lies in the cells -/
def SUM (h : PzH) (m : List Int8) : Prop := ∀ i, i < 5 → pz_I h 9 i = (sh_it (sh_p2 (bof m) m.length 8) (fun _ => 0) (sh_ini (fun _ => 0)) (sh_P m.length / 64)).2 i
theorem sh_it_s {b w s : Nat → Int32} {k : Nat} : (sh_it b w s (k + 1)).2 = sh_st (sh_W b (sh_it b w s k).1 (64 * k)) (sh_it b w s k).2 := by rw [sh_it]
end
