/-! ===== the reference: meta ===== -/
def nPc (l c : Nat) : Nat := (l + c - 1) / c
def metaR (x : Nat → Nat) (n : Nat) : Except Nat (Nat × Nat × List (Nat × Nat) × Nat × Nat) :=
  match (if x 0 = 100 then inK x n 0 0 else none) with
  | none => .error 2
  | some i => if x i = 100 then (if isNm x (inK x n i 1) = true then (match natO x (inK x n i 2) with
      | none => .error 4
      | some c => if 32 ≤ c ∧ c ≤ 1024 then (match lenO x n i with
        | none => .error 5
        | some (l, fs) => (match inK x n i 6 with
          | none => .error 6
          | some q => if nPc l c ≤ 64 ∧ dg (x q) ∧ stN x q = 20 * nPc l c then .ok (l, c, fs, q, i) else .error 6)) else .error 4)
    else .error 3) else .error 2
section
variable {d : Nat} {h : PzH} {Q : Option Value → PzH → Prop} {mo : Nat} {g : Nat → Nat → Int32} {x : Nat → Nat} {n : Nat}
theorem GF_eta : GF g (g 0 28) (g 0 29) (g 16) (g 17) = g := by
  unfold GF
  funext a j
  by_cases a1 : a = 17
  · subst a1; simp [gu_11]
  · by_cases a2 : a = 16
    · subst a2; simp [gu_11]
    · rw [gu_11, if_neg a1, gu_11, if_neg a2, gu_22]
      by_cases a3 : a = 0 ∧ j = 29
      · rw [if_pos a3, a3.1, a3.2]
      · rw [if_neg a3, gu_22]
        by_cases a4 : a = 0 ∧ j = 28
        · rw [if_pos a4, a4.1, a4.2]
        · rw [if_neg a4]
theorem pv_end (T : TX (g 1) n x) : ∀ f md dp p e, p ≤ n → pv x n f md dp p = .ok e → p < e ∧ e ≤ n := by
  intro f
  induction f with
  | zero =>
    intro md dp p e _ h1
    exact absurd h1 (by cases md <;> simp [pv])
  | succ f ih =>
    intro md dp p e hp h1
    cases md with
    | none =>
      rw [pv] at h1
      by_cases a1 : dg (x p)
      · rw [if_pos a1] at h1
        cases hs : stF x n p with
        | some w' =>
          rw [hs] at h1
          exact absurd h1 (by simp)
        | none =>
          rw [hs] at h1
          obtain ⟨b1, b2, b3⟩ := stF_SK hs
          have := Except.ok.inj h1
          have := b1.1
          unfold stEnd at *
          omega
      · rw [if_neg a1] at h1
        by_cases a2 : x p = 105
        · rw [if_pos a2] at h1
          cases hs : nuF x p with
          | some w' =>
            rw [hs] at h1
            exact absurd h1 (by simp)
          | none =>
            rw [hs] at h1
            have := nuF_ok T hs
            have := Except.ok.inj h1
            omega
        · rw [if_neg a2] at h1
          by_cases a3 : (x p = 108 ∨ x p = 100) ∧ dp < 8
          · rw [if_pos a3] at h1
            have := TX_lt T (show x p < 256 by omega)
            have := ih _ _ _ _ (by omega) h1
            omega
          · rw [if_neg a3] at h1
            exact absurd h1 (by simp)
    | some m =>
      obtain ⟨b, ky⟩ := m
      rw [pv_i] at h1
      by_cases a1 : x p = 101
      · rw [if_pos a1] at h1
        have := TX_lt T (show x p < 256 by omega)
        have := Except.ok.inj h1
        omega
      · rw [if_neg a1] at h1
        by_cases a2 : b = true
        · rw [if_pos a2] at h1
          cases hs : stF x n p with
          | some w' =>
            rw [hs] at h1
            exact absurd h1 (by simp)
          | none =>
            rw [hs] at h1
            simp only at h1
            obtain ⟨b1, b2, b3⟩ := stF_SK hs
            by_cases a3 : rsk x ky p = true
            · rw [if_pos a3] at h1
              cases q1 : pv x n f none dp (stEnd x p) with
              | error w' =>
                rw [q1] at h1
                exact absurd h1 (by simp)
              | ok u1 =>
                rw [q1] at h1
                have r1 := ih _ _ _ _ b2 q1
                have r2 := ih _ _ _ _ r1.2 h1
                have := b1.1
                unfold stEnd at r1
                omega
            · rw [if_neg a3] at h1
              exact absurd h1 (by simp)
        · rw [if_neg a2] at h1
          cases q1 : pv x n f none dp p with
          | error w' =>
            rw [q1] at h1
            exact absurd h1 (by simp)
          | ok u1 =>
            rw [q1] at h1
            have r1 := ih _ _ _ _ hp q1
            have r2 := ih _ _ _ _ r1.2 h1
            omega
theorem VL_e {p e : Nat} (T : TX (g 1) n x) (hV : VL x n none p e) : p < e ∧ e ≤ n := by
  have := VL_p T hV
  obtain ⟨f, dp, h1, h2⟩ := hV
  exact pv_end T f none dp p e (by omega) h2
/-- behind the lengths -/
theorem me_tail (H : MO h mo) (T : TX (g 1) n x) (C : CST g) {i e c l : Nat} {fs : List (Nat × Nat)} {s r : Nat → Int32} {v3 v4 v5 : Value} (c3 : pz_cut v3 = v3) (c4 : pz_cut v4 = v4) (hx : x i = 100) (hV : VL x n none i e) (hc : 32 ≤ c ∧ c ≤ 1024) (hl : 1 ≤ l ∧ l ≤ 4096) (hf : fs.length ≤ 16) (hF : FS s r fs)
    (K0 : ∀ l' f' s' r', (∀ q, inK x n i 6 = some q → ¬ (nPc l c ≤ 64 ∧ dg (x q) ∧ stN x q = 20 * nPc l c)) → Q (some (.int 6)) (mh h mo (GF g l' f' s' r')))
    (K1 : ∀ q g', inK x n i 6 = some q → nPc l c ≤ 64 → stF x n q = none → stN x q = 20 * nPc l c → FR [3, 4, 5, 6, 11, 12, 13, 14, 16, 17] [5, 18, 19, 20, 21, 28, 29] g g' → g' 0 18 = nI l → g' 0 19 = nI c → g' 0 20 = nI (nPc l c) → g' 0 21 = nI fs.length → FS (g' 11) (g' 12) fs → (∀ j, j < 20 * nPc l c → g' 13 j = b8 (x (stE x q + 1 + j))) → (∀ j, j < 20 → g' 14 j = SHA (fun t => g 1 (i + t)) (e - i) j) → Q (some (.int 0)) (mh h mo g')) :
    wp (d + 6) mX10_meta 90 [.ref mo, .int (nI i), .int (nI c), v3, v4, v5] [] (mh h mo (GF g (nI l) (nI fs.length) s r)) Q := by
  have hn := T.1
  have z0 : (nI c = 0) = False := eq_false (nI_ne0 (by omega) (by omega))
  simp only [enX10_meta, uX10_meta_0, uX10_meta_0o, uX10_meta_0f, uX10_meta_1, uX10_meta_4, uX10_meta_5, uX10_meta_6, uX10_meta_8, uX10_meta_11, uX10_meta_11o, uX10_meta_11f, uX10_meta_12, uX10_meta_13, uX10_meta_14, uX10_meta_17, uX10_meta_20, uX10_meta_21, uX10_meta_22, uX10_meta_23, uX10_meta_26, uX10_meta_26o, uX10_meta_26f, uX10_meta_27, uX10_meta_30, uX10_meta_31, uX10_meta_32, uX10_meta_34, uX10_meta_37, uX10_meta_38, uX10_meta_39, uX10_meta_39o, uX10_meta_39f, uX10_meta_40, uX10_meta_40o, uX10_meta_40f, uX10_meta_41, uX10_meta_42, uX10_meta_43, uX10_meta_46, uX10_meta_49, uX10_meta_52, uX10_meta_53, uX10_meta_54, uX10_meta_54o, uX10_meta_54f, uX10_meta_55, uX10_meta_55o, uX10_meta_55f, uX10_meta_56, uX10_meta_57, uX10_meta_58, uX10_meta_61, uX10_meta_64, uX10_meta_65, uX10_meta_66, uX10_meta_68, uX10_meta_71, uX10_meta_72, uX10_meta_75, uX10_meta_78, uX10_meta_79, uX10_meta_80, uX10_meta_80o, uX10_meta_80f, uX10_meta_81, uX10_meta_82, uX10_meta_85, uX10_meta_88, uX10_meta_89, uX10_meta_90, uX10_meta_90o, uX10_meta_90f, uX10_meta_91, uX10_meta_94, uX10_meta_95, uX10_meta_96, uX10_meta_97, uX10_meta_98, uX10_meta_99, uX10_meta_100, uX10_meta_101, uX10_meta_101o, uX10_meta_101f, uX10_meta_102, uX10_meta_103, uX10_meta_105, uX10_meta_108, uX10_meta_110, uX10_meta_111, uX10_meta_113, uX10_meta_116, uX10_meta_118, uX10_meta_121, uX10_meta_121o, uX10_meta_121f, uX10_meta_122, uX10_meta_125, uX10_meta_127, uX10_meta_128, uX10_meta_131, uX10_meta_134, uX10_meta_134o, uX10_meta_134f, uX10_meta_135, uX10_meta_137, uX10_meta_140, uX10_meta_142, uX10_meta_143, uX10_meta_144, uX10_meta_147, uX10_meta_149, uX10_meta_150, uX10_meta_150o, uX10_meta_150f, uX10_meta_151, uX10_meta_151o, uX10_meta_151f, uX10_meta_152, uX10_meta_155, uX10_meta_158, uX10_meta_158o, uX10_meta_158f, uX10_meta_159, uX10_meta_160, uX10_meta_163, uX10_meta_163o, uX10_meta_163f, uX10_meta_164, uX10_meta_165, uX10_meta_168, uX10_meta_168o, uX10_meta_168f, uX10_meta_169, uX10_meta_169o, uX10_meta_169f, uX10_meta_170, uX10_meta_173, uX10_meta_176, uX10_meta_177, uX10_meta_181, uX10_meta_181o, uX10_meta_181f, uX10_meta_182, uX10_meta_185, uX10_meta_188, uX10_meta_188o, uX10_meta_188f, uX10_meta_189, uX10_meta_192, uX10_meta_194, uX10_meta_194o, uX10_meta_194f, uX10_meta_195, uX10_meta_198, uX10_meta_200, uX10_meta_201, uX10_meta_202, uX10_meta_202o, uX10_meta_202f, uX10_meta_203, uX10_meta_206, uX10_meta_208, uX10_meta_208o, uX10_meta_208f, uX10_meta_209, uX10_meta_212, uX10_meta_214, uX10_meta_215, uX10_meta_216, uX10_meta_219, uX10_meta_222, uX10_meta_223, uX10_meta_227, uX10_meta_229, uX10_meta_230, uX10_meta_231, uX10_meta_234, uX10_meta_234o, uX10_meta_234f, uX10_meta_235, uX10_meta_238, uX10_meta_240, uX10_meta_240o, uX10_meta_240f, uX10_meta_241, uX10_meta_244, uX10_meta_244o, uX10_meta_244f, uX10_meta_245, uX10_meta_247, uX10_meta_250, uX10_meta_252, uX10_meta_253, uX10_meta_254, uX10_meta_255, uX10_meta_258, uX10_meta_261, uX10_meta_261o, uX10_meta_261f, uX10_meta_262, uX10_meta_263, uX10_meta_263o, uX10_meta_263f, uX10_meta_264, uX10_meta_265, uX10_meta_268, uX10_meta_271, uX10_meta_272, mo_C H, mo_R_tape H, mo_C_tape H, mo_L_tape H, pq_C_sI, pq_C_sJ, pq_C_sR, pq_C_sA, pq_L_sI, pq_L_sJ, pq_L_sR, pq_L_sA, pq_I_sI, pq_I_sJ, pq_I_sR, pq_I_sA, pq_J_sI, pq_J_sJ, pq_J_sR, pq_J_sA, pq_R_sI, pq_R_sJ, pq_R_sR, pq_R_sA, pq_N_sI, pq_N_sJ, pq_N_sR, pq_N_sA, pq_S_sI, pq_S_sJ, pq_S_sR, pq_S_sA, pz_rf_s, pz_cut_i, pz_cut_r, pz_cut_n, pz_cut_f, pz_cut_u, pz_cut_o, true_and, and_true, true_or, or_true, Option.toList_some, Option.toList_none, List.cons_append, List.nil_append, Nat.add_left_cancel_iff, Nat.left_eq_add, Nat.add_eq_left, Nat.reduceEqDiff, if_true, if_false, ite_true, ite_false, false_and, and_false, false_or, or_false, reduceIte, reduceCtorEq, and_self, mh_C, mh_L, mh_R, mh_J, mh_I0, mh_I, mh_Ir, mh_sI0, mh_sI, mh_sA, gu_11, gu_22, gu_r, gu_21s, gu_21c, gu_22s, gu_11s, gu_11c, gu_22c, Nat.reduceLeDiff, Nat.reduceLT, ne_eq, not_false_eq_true, not_true_eq_false, Nat.reduceEqDiff, Nat.lt_irrefl, eq_self, z_4, z_5, z_7, z_8, z_10, z_16, z_20, z_64, c3, c4, GF_28, z0]
  rw [nI_add, show (1 : Int32) = nI 1 from rfl, pk_sub (by omega), pk_div (by omega) (by omega) (by omega), show (l + c - 1) / c = nPc l c from rfl]
  have hp : nPc l c ≤ 5120 := by
    unfold nPc
    exact Nat.le_trans (Nat.div_le_self _ _) (by omega)
  refine g_in H (GF_TX T) (GF_CST C) (k := 6) (by omega) hx hV ?_
  simp only [enX10_meta, uX10_meta_0, uX10_meta_0o, uX10_meta_0f, uX10_meta_1, uX10_meta_4, uX10_meta_5, uX10_meta_6, uX10_meta_8, uX10_meta_11, uX10_meta_11o, uX10_meta_11f, uX10_meta_12, uX10_meta_13, uX10_meta_14, uX10_meta_17, uX10_meta_20, uX10_meta_21, uX10_meta_22, uX10_meta_23, uX10_meta_26, uX10_meta_26o, uX10_meta_26f, uX10_meta_27, uX10_meta_30, uX10_meta_31, uX10_meta_32, uX10_meta_34, uX10_meta_37, uX10_meta_38, uX10_meta_39, uX10_meta_39o, uX10_meta_39f, uX10_meta_40, uX10_meta_40o, uX10_meta_40f, uX10_meta_41, uX10_meta_42, uX10_meta_43, uX10_meta_46, uX10_meta_49, uX10_meta_52, uX10_meta_53, uX10_meta_54, uX10_meta_54o, uX10_meta_54f, uX10_meta_55, uX10_meta_55o, uX10_meta_55f, uX10_meta_56, uX10_meta_57, uX10_meta_58, uX10_meta_61, uX10_meta_64, uX10_meta_65, uX10_meta_66, uX10_meta_68, uX10_meta_71, uX10_meta_72, uX10_meta_75, uX10_meta_78, uX10_meta_79, uX10_meta_80, uX10_meta_80o, uX10_meta_80f, uX10_meta_81, uX10_meta_82, uX10_meta_85, uX10_meta_88, uX10_meta_89, uX10_meta_90, uX10_meta_90o, uX10_meta_90f, uX10_meta_91, uX10_meta_94, uX10_meta_95, uX10_meta_96, uX10_meta_97, uX10_meta_98, uX10_meta_99, uX10_meta_100, uX10_meta_101, uX10_meta_101o, uX10_meta_101f, uX10_meta_102, uX10_meta_103, uX10_meta_105, uX10_meta_108, uX10_meta_110, uX10_meta_111, uX10_meta_113, uX10_meta_116, uX10_meta_118, uX10_meta_121, uX10_meta_121o, uX10_meta_121f, uX10_meta_122, uX10_meta_125, uX10_meta_127, uX10_meta_128, uX10_meta_131, uX10_meta_134, uX10_meta_134o, uX10_meta_134f, uX10_meta_135, uX10_meta_137, uX10_meta_140, uX10_meta_142, uX10_meta_143, uX10_meta_144, uX10_meta_147, uX10_meta_149, uX10_meta_150, uX10_meta_150o, uX10_meta_150f, uX10_meta_151, uX10_meta_151o, uX10_meta_151f, uX10_meta_152, uX10_meta_155, uX10_meta_158, uX10_meta_158o, uX10_meta_158f, uX10_meta_159, uX10_meta_160, uX10_meta_163, uX10_meta_163o, uX10_meta_163f, uX10_meta_164, uX10_meta_165, uX10_meta_168, uX10_meta_168o, uX10_meta_168f, uX10_meta_169, uX10_meta_169o, uX10_meta_169f, uX10_meta_170, uX10_meta_173, uX10_meta_176, uX10_meta_177, uX10_meta_181, uX10_meta_181o, uX10_meta_181f, uX10_meta_182, uX10_meta_185, uX10_meta_188, uX10_meta_188o, uX10_meta_188f, uX10_meta_189, uX10_meta_192, uX10_meta_194, uX10_meta_194o, uX10_meta_194f, uX10_meta_195, uX10_meta_198, uX10_meta_200, uX10_meta_201, uX10_meta_202, uX10_meta_202o, uX10_meta_202f, uX10_meta_203, uX10_meta_206, uX10_meta_208, uX10_meta_208o, uX10_meta_208f, uX10_meta_209, uX10_meta_212, uX10_meta_214, uX10_meta_215, uX10_meta_216, uX10_meta_219, uX10_meta_222, uX10_meta_223, uX10_meta_227, uX10_meta_229, uX10_meta_230, uX10_meta_231, uX10_meta_234, uX10_meta_234o, uX10_meta_234f, uX10_meta_235, uX10_meta_238, uX10_meta_240, uX10_meta_240o, uX10_meta_240f, uX10_meta_241, uX10_meta_244, uX10_meta_244o, uX10_meta_244f, uX10_meta_245, uX10_meta_247, uX10_meta_250, uX10_meta_252, uX10_meta_253, uX10_meta_254, uX10_meta_255, uX10_meta_258, uX10_meta_261, uX10_meta_261o, uX10_meta_261f, uX10_meta_262, uX10_meta_263, uX10_meta_263o, uX10_meta_263f, uX10_meta_264, uX10_meta_265, uX10_meta_268, uX10_meta_271, uX10_meta_272, mo_C H, mo_R_tape H, mo_C_tape H, mo_L_tape H, pq_C_sI, pq_C_sJ, pq_C_sR, pq_C_sA, pq_L_sI, pq_L_sJ, pq_L_sR, pq_L_sA, pq_I_sI, pq_I_sJ, pq_I_sR, pq_I_sA, pq_J_sI, pq_J_sJ, pq_J_sR, pq_J_sA, pq_R_sI, pq_R_sJ, pq_R_sR, pq_R_sA, pq_N_sI, pq_N_sJ, pq_N_sR, pq_N_sA, pq_S_sI, pq_S_sJ, pq_S_sR, pq_S_sA, pz_rf_s, pz_cut_i, pz_cut_r, pz_cut_n, pz_cut_f, pz_cut_u, pz_cut_o, true_and, and_true, true_or, or_true, Option.toList_some, Option.toList_none, List.cons_append, List.nil_append, Nat.add_left_cancel_iff, Nat.left_eq_add, Nat.add_eq_left, Nat.reduceEqDiff, if_true, if_false, ite_true, ite_false, false_and, and_false, false_or, or_false, reduceIte, reduceCtorEq, and_self, mh_C, mh_L, mh_R, mh_J, mh_I0, mh_I, mh_Ir, mh_sI0, mh_sI, mh_sA, gu_11, gu_22, gu_r, gu_21s, gu_21c, gu_22s, gu_11s, gu_11c, gu_22c, Nat.reduceLeDiff, Nat.reduceLT, ne_eq, not_false_eq_true, not_true_eq_false, Nat.reduceEqDiff, Nat.lt_irrefl, eq_self, z_4, z_5, z_7, z_8, z_10, z_16, z_20, z_64]
  by_cases h1 : nPc l c ≤ 64
  · rw [if_neg (show ¬ (64 : Int32) < nI (nPc l c) from nI_nlt (a := 64) h1 (by omega))]
    cases e1 : inK x n i 6 with
    | none =>
      rw [show kyOf none = -1 from rfl, if_pos (by decide)]
      exact K0 _ _ _ _ (fun q hq => by rw [e1] at hq; simp at hq)
    | some q =>
      obtain ⟨u, hA⟩ := inK_VL hx hV e1
      have ha := VL_p T hA
      obtain ⟨t3, t4⟩ := (T.2 q).1 ha
      have t5 := VL_128 hA
      have e2 : b8 (x q) = bI (x q) := by rw [b8_lo _ t5, bI, if_pos t4]
      have no : ¬ (nPc l c ≤ 64 ∧ dg (x q) ∧ stN x q = 20 * nPc l c) → Q (some (.int 6)) (mh h mo (GF g (nI l) (nI fs.length) s r)) := fun z => K0 _ _ _ _ (fun q' hq' => by
        rw [e1] at hq'
        rw [← Option.some.inj hq']
        exact z)
      rw [show kyOf (some q) = nI q from rfl, if_neg (nI_pos (by omega))]
      simp (disch := omega) only [nI_clamp, pz_in_nI, true_and]
      rw [show GF g (nI l) (nI fs.length) s r 1 q = g 1 q from rfl, t3, e2, g_isDigit (TX_le T q)]
      simp only [enX10_meta, uX10_meta_0, uX10_meta_0o, uX10_meta_0f, uX10_meta_1, uX10_meta_4, uX10_meta_5, uX10_meta_6, uX10_meta_8, uX10_meta_11, uX10_meta_11o, uX10_meta_11f, uX10_meta_12, uX10_meta_13, uX10_meta_14, uX10_meta_17, uX10_meta_20, uX10_meta_21, uX10_meta_22, uX10_meta_23, uX10_meta_26, uX10_meta_26o, uX10_meta_26f, uX10_meta_27, uX10_meta_30, uX10_meta_31, uX10_meta_32, uX10_meta_34, uX10_meta_37, uX10_meta_38, uX10_meta_39, uX10_meta_39o, uX10_meta_39f, uX10_meta_40, uX10_meta_40o, uX10_meta_40f, uX10_meta_41, uX10_meta_42, uX10_meta_43, uX10_meta_46, uX10_meta_49, uX10_meta_52, uX10_meta_53, uX10_meta_54, uX10_meta_54o, uX10_meta_54f, uX10_meta_55, uX10_meta_55o, uX10_meta_55f, uX10_meta_56, uX10_meta_57, uX10_meta_58, uX10_meta_61, uX10_meta_64, uX10_meta_65, uX10_meta_66, uX10_meta_68, uX10_meta_71, uX10_meta_72, uX10_meta_75, uX10_meta_78, uX10_meta_79, uX10_meta_80, uX10_meta_80o, uX10_meta_80f, uX10_meta_81, uX10_meta_82, uX10_meta_85, uX10_meta_88, uX10_meta_89, uX10_meta_90, uX10_meta_90o, uX10_meta_90f, uX10_meta_91, uX10_meta_94, uX10_meta_95, uX10_meta_96, uX10_meta_97, uX10_meta_98, uX10_meta_99, uX10_meta_100, uX10_meta_101, uX10_meta_101o, uX10_meta_101f, uX10_meta_102, uX10_meta_103, uX10_meta_105, uX10_meta_108, uX10_meta_110, uX10_meta_111, uX10_meta_113, uX10_meta_116, uX10_meta_118, uX10_meta_121, uX10_meta_121o, uX10_meta_121f, uX10_meta_122, uX10_meta_125, uX10_meta_127, uX10_meta_128, uX10_meta_131, uX10_meta_134, uX10_meta_134o, uX10_meta_134f, uX10_meta_135, uX10_meta_137, uX10_meta_140, uX10_meta_142, uX10_meta_143, uX10_meta_144, uX10_meta_147, uX10_meta_149, uX10_meta_150, uX10_meta_150o, uX10_meta_150f, uX10_meta_151, uX10_meta_151o, uX10_meta_151f, uX10_meta_152, uX10_meta_155, uX10_meta_158, uX10_meta_158o, uX10_meta_158f, uX10_meta_159, uX10_meta_160, uX10_meta_163, uX10_meta_163o, uX10_meta_163f, uX10_meta_164, uX10_meta_165, uX10_meta_168, uX10_meta_168o, uX10_meta_168f, uX10_meta_169, uX10_meta_169o, uX10_meta_169f, uX10_meta_170, uX10_meta_173, uX10_meta_176, uX10_meta_177, uX10_meta_181, uX10_meta_181o, uX10_meta_181f, uX10_meta_182, uX10_meta_185, uX10_meta_188, uX10_meta_188o, uX10_meta_188f, uX10_meta_189, uX10_meta_192, uX10_meta_194, uX10_meta_194o, uX10_meta_194f, uX10_meta_195, uX10_meta_198, uX10_meta_200, uX10_meta_201, uX10_meta_202, uX10_meta_202o, uX10_meta_202f, uX10_meta_203, uX10_meta_206, uX10_meta_208, uX10_meta_208o, uX10_meta_208f, uX10_meta_209, uX10_meta_212, uX10_meta_214, uX10_meta_215, uX10_meta_216, uX10_meta_219, uX10_meta_222, uX10_meta_223, uX10_meta_227, uX10_meta_229, uX10_meta_230, uX10_meta_231, uX10_meta_234, uX10_meta_234o, uX10_meta_234f, uX10_meta_235, uX10_meta_238, uX10_meta_240, uX10_meta_240o, uX10_meta_240f, uX10_meta_241, uX10_meta_244, uX10_meta_244o, uX10_meta_244f, uX10_meta_245, uX10_meta_247, uX10_meta_250, uX10_meta_252, uX10_meta_253, uX10_meta_254, uX10_meta_255, uX10_meta_258, uX10_meta_261, uX10_meta_261o, uX10_meta_261f, uX10_meta_262, uX10_meta_263, uX10_meta_263o, uX10_meta_263f, uX10_meta_264, uX10_meta_265, uX10_meta_268, uX10_meta_271, uX10_meta_272, mo_C H, mo_R_tape H, mo_C_tape H, mo_L_tape H, pq_C_sI, pq_C_sJ, pq_C_sR, pq_C_sA, pq_L_sI, pq_L_sJ, pq_L_sR, pq_L_sA, pq_I_sI, pq_I_sJ, pq_I_sR, pq_I_sA, pq_J_sI, pq_J_sJ, pq_J_sR, pq_J_sA, pq_R_sI, pq_R_sJ, pq_R_sR, pq_R_sA, pq_N_sI, pq_N_sJ, pq_N_sR, pq_N_sA, pq_S_sI, pq_S_sJ, pq_S_sR, pq_S_sA, pz_rf_s, pz_cut_i, pz_cut_r, pz_cut_n, pz_cut_f, pz_cut_u, pz_cut_o, true_and, and_true, true_or, or_true, Option.toList_some, Option.toList_none, List.cons_append, List.nil_append, Nat.add_left_cancel_iff, Nat.left_eq_add, Nat.add_eq_left, Nat.reduceEqDiff, if_true, if_false, ite_true, ite_false, false_and, and_false, false_or, or_false, reduceIte, reduceCtorEq, and_self, mh_C, mh_L, mh_R, mh_J, mh_I0, mh_I, mh_Ir, mh_sI0, mh_sI, mh_sA, gu_11, gu_22, gu_r, gu_21s, gu_21c, gu_22s, gu_11s, gu_11c, gu_22c, Nat.reduceLeDiff, Nat.reduceLT, ne_eq, not_false_eq_true, not_true_eq_false, Nat.reduceEqDiff, Nat.lt_irrefl, eq_self, z_4, z_5, z_7, z_8, z_10, z_16, z_20, z_64]
      by_cases h2 : dg (x q)
      · rw [if_pos h2, if_neg (by decide)]
        rcases VL_kind hA with ⟨_, a, _⟩ | ⟨a, _⟩ | a
        · obtain ⟨s1, s2, s3⟩ := stF_SK a
          rw [g_textSize H (GF_TX T) s1, show vlk x q (stE x q - q) = stN x q from rfl]
          simp only [enX10_meta, uX10_meta_0, uX10_meta_0o, uX10_meta_0f, uX10_meta_1, uX10_meta_4, uX10_meta_5, uX10_meta_6, uX10_meta_8, uX10_meta_11, uX10_meta_11o, uX10_meta_11f, uX10_meta_12, uX10_meta_13, uX10_meta_14, uX10_meta_17, uX10_meta_20, uX10_meta_21, uX10_meta_22, uX10_meta_23, uX10_meta_26, uX10_meta_26o, uX10_meta_26f, uX10_meta_27, uX10_meta_30, uX10_meta_31, uX10_meta_32, uX10_meta_34, uX10_meta_37, uX10_meta_38, uX10_meta_39, uX10_meta_39o, uX10_meta_39f, uX10_meta_40, uX10_meta_40o, uX10_meta_40f, uX10_meta_41, uX10_meta_42, uX10_meta_43, uX10_meta_46, uX10_meta_49, uX10_meta_52, uX10_meta_53, uX10_meta_54, uX10_meta_54o, uX10_meta_54f, uX10_meta_55, uX10_meta_55o, uX10_meta_55f, uX10_meta_56, uX10_meta_57, uX10_meta_58, uX10_meta_61, uX10_meta_64, uX10_meta_65, uX10_meta_66, uX10_meta_68, uX10_meta_71, uX10_meta_72, uX10_meta_75, uX10_meta_78, uX10_meta_79, uX10_meta_80, uX10_meta_80o, uX10_meta_80f, uX10_meta_81, uX10_meta_82, uX10_meta_85, uX10_meta_88, uX10_meta_89, uX10_meta_90, uX10_meta_90o, uX10_meta_90f, uX10_meta_91, uX10_meta_94, uX10_meta_95, uX10_meta_96, uX10_meta_97, uX10_meta_98, uX10_meta_99, uX10_meta_100, uX10_meta_101, uX10_meta_101o, uX10_meta_101f, uX10_meta_102, uX10_meta_103, uX10_meta_105, uX10_meta_108, uX10_meta_110, uX10_meta_111, uX10_meta_113, uX10_meta_116, uX10_meta_118, uX10_meta_121, uX10_meta_121o, uX10_meta_121f, uX10_meta_122, uX10_meta_125, uX10_meta_127, uX10_meta_128, uX10_meta_131, uX10_meta_134, uX10_meta_134o, uX10_meta_134f, uX10_meta_135, uX10_meta_137, uX10_meta_140, uX10_meta_142, uX10_meta_143, uX10_meta_144, uX10_meta_147, uX10_meta_149, uX10_meta_150, uX10_meta_150o, uX10_meta_150f, uX10_meta_151, uX10_meta_151o, uX10_meta_151f, uX10_meta_152, uX10_meta_155, uX10_meta_158, uX10_meta_158o, uX10_meta_158f, uX10_meta_159, uX10_meta_160, uX10_meta_163, uX10_meta_163o, uX10_meta_163f, uX10_meta_164, uX10_meta_165, uX10_meta_168, uX10_meta_168o, uX10_meta_168f, uX10_meta_169, uX10_meta_169o, uX10_meta_169f, uX10_meta_170, uX10_meta_173, uX10_meta_176, uX10_meta_177, uX10_meta_181, uX10_meta_181o, uX10_meta_181f, uX10_meta_182, uX10_meta_185, uX10_meta_188, uX10_meta_188o, uX10_meta_188f, uX10_meta_189, uX10_meta_192, uX10_meta_194, uX10_meta_194o, uX10_meta_194f, uX10_meta_195, uX10_meta_198, uX10_meta_200, uX10_meta_201, uX10_meta_202, uX10_meta_202o, uX10_meta_202f, uX10_meta_203, uX10_meta_206, uX10_meta_208, uX10_meta_208o, uX10_meta_208f, uX10_meta_209, uX10_meta_212, uX10_meta_214, uX10_meta_215, uX10_meta_216, uX10_meta_219, uX10_meta_222, uX10_meta_223, uX10_meta_227, uX10_meta_229, uX10_meta_230, uX10_meta_231, uX10_meta_234, uX10_meta_234o, uX10_meta_234f, uX10_meta_235, uX10_meta_238, uX10_meta_240, uX10_meta_240o, uX10_meta_240f, uX10_meta_241, uX10_meta_244, uX10_meta_244o, uX10_meta_244f, uX10_meta_245, uX10_meta_247, uX10_meta_250, uX10_meta_252, uX10_meta_253, uX10_meta_254, uX10_meta_255, uX10_meta_258, uX10_meta_261, uX10_meta_261o, uX10_meta_261f, uX10_meta_262, uX10_meta_263, uX10_meta_263o, uX10_meta_263f, uX10_meta_264, uX10_meta_265, uX10_meta_268, uX10_meta_271, uX10_meta_272, mo_C H, mo_R_tape H, mo_C_tape H, mo_L_tape H, pq_C_sI, pq_C_sJ, pq_C_sR, pq_C_sA, pq_L_sI, pq_L_sJ, pq_L_sR, pq_L_sA, pq_I_sI, pq_I_sJ, pq_I_sR, pq_I_sA, pq_J_sI, pq_J_sJ, pq_J_sR, pq_J_sA, pq_R_sI, pq_R_sJ, pq_R_sR, pq_R_sA, pq_N_sI, pq_N_sJ, pq_N_sR, pq_N_sA, pq_S_sI, pq_S_sJ, pq_S_sR, pq_S_sA, pz_rf_s, pz_cut_i, pz_cut_r, pz_cut_n, pz_cut_f, pz_cut_u, pz_cut_o, true_and, and_true, true_or, or_true, Option.toList_some, Option.toList_none, List.cons_append, List.nil_append, Nat.add_left_cancel_iff, Nat.left_eq_add, Nat.add_eq_left, Nat.reduceEqDiff, if_true, if_false, ite_true, ite_false, false_and, and_false, false_or, or_false, reduceIte, reduceCtorEq, and_self, mh_C, mh_L, mh_R, mh_J, mh_I0, mh_I, mh_Ir, mh_sI0, mh_sI, mh_sA, gu_11, gu_22, gu_r, gu_21s, gu_21c, gu_22s, gu_11s, gu_11c, gu_22c, Nat.reduceLeDiff, Nat.reduceLT, ne_eq, not_false_eq_true, not_true_eq_false, Nat.reduceEqDiff, Nat.lt_irrefl, eq_self, z_4, z_5, z_7, z_8, z_10, z_16, z_20, z_64, GF_28, GF_29]
          rw [show (20 : Int32) = nI 20 from rfl, pk_mul]
          by_cases h3 : stN x q = 20 * nPc l c
          · rw [if_pos (by rw [h3])]
            generalize hG : pz_u2 (pz_u2 (pz_u2 (pz_u2 (GF g (nI l) (nI fs.length) s r) 0 18 (nI l)) 0 19 (nI c)) 0 20 (nI (nPc l c))) 0 21 (nI fs.length) = G
            have g1 : G 1 = g 1 := by rw [← hG]; rfl
            have g16 : G 16 = s := by rw [← hG]; rfl
            have g17 : G 17 = r := by rw [← hG]; rfl
            have g18 : G 0 18 = nI l := by rw [← hG]; rfl
            have g19 : G 0 19 = nI c := by rw [← hG]; rfl
            have g20 : G 0 20 = nI (nPc l c) := by rw [← hG]; rfl
            have g21 : G 0 21 = nI fs.length := by rw [← hG]; rfl
            have gF : FR [3, 4, 5, 6, 11, 12, 13, 14, 16, 17] [5, 18, 19, 20, 21, 28, 29] g G := by
              rw [← hG]
              unfold GF
              exact FR_trans (FR_2 (by decide)) (FR_trans (FR_2 (by decide)) (FR_trans (FR_1 (by decide) (by decide)) (FR_trans (FR_1 (by decide) (by decide)) (FR_trans (FR_2 (by decide)) (FR_trans (FR_2 (by decide)) (FR_trans (FR_2 (by decide)) (FR_2 (by decide))))))))
            rw [show mh h mo G = mh h mo (pz_u1 (pz_u1 G 11 (G 11)) 12 ((pz_u1 G 11 (G 11)) 12)) by rw [gu_1e, gu_1e]]
            rw [me_files H hf g21, g16, g17]
            simp only [enX10_meta, uX10_meta_0, uX10_meta_0o, uX10_meta_0f, uX10_meta_1, uX10_meta_4, uX10_meta_5, uX10_meta_6, uX10_meta_8, uX10_meta_11, uX10_meta_11o, uX10_meta_11f, uX10_meta_12, uX10_meta_13, uX10_meta_14, uX10_meta_17, uX10_meta_20, uX10_meta_21, uX10_meta_22, uX10_meta_23, uX10_meta_26, uX10_meta_26o, uX10_meta_26f, uX10_meta_27, uX10_meta_30, uX10_meta_31, uX10_meta_32, uX10_meta_34, uX10_meta_37, uX10_meta_38, uX10_meta_39, uX10_meta_39o, uX10_meta_39f, uX10_meta_40, uX10_meta_40o, uX10_meta_40f, uX10_meta_41, uX10_meta_42, uX10_meta_43, uX10_meta_46, uX10_meta_49, uX10_meta_52, uX10_meta_53, uX10_meta_54, uX10_meta_54o, uX10_meta_54f, uX10_meta_55, uX10_meta_55o, uX10_meta_55f, uX10_meta_56, uX10_meta_57, uX10_meta_58, uX10_meta_61, uX10_meta_64, uX10_meta_65, uX10_meta_66, uX10_meta_68, uX10_meta_71, uX10_meta_72, uX10_meta_75, uX10_meta_78, uX10_meta_79, uX10_meta_80, uX10_meta_80o, uX10_meta_80f, uX10_meta_81, uX10_meta_82, uX10_meta_85, uX10_meta_88, uX10_meta_89, uX10_meta_90, uX10_meta_90o, uX10_meta_90f, uX10_meta_91, uX10_meta_94, uX10_meta_95, uX10_meta_96, uX10_meta_97, uX10_meta_98, uX10_meta_99, uX10_meta_100, uX10_meta_101, uX10_meta_101o, uX10_meta_101f, uX10_meta_102, uX10_meta_103, uX10_meta_105, uX10_meta_108, uX10_meta_110, uX10_meta_111, uX10_meta_113, uX10_meta_116, uX10_meta_118, uX10_meta_121, uX10_meta_121o, uX10_meta_121f, uX10_meta_122, uX10_meta_125, uX10_meta_127, uX10_meta_128, uX10_meta_131, uX10_meta_134, uX10_meta_134o, uX10_meta_134f, uX10_meta_135, uX10_meta_137, uX10_meta_140, uX10_meta_142, uX10_meta_143, uX10_meta_144, uX10_meta_147, uX10_meta_149, uX10_meta_150, uX10_meta_150o, uX10_meta_150f, uX10_meta_151, uX10_meta_151o, uX10_meta_151f, uX10_meta_152, uX10_meta_155, uX10_meta_158, uX10_meta_158o, uX10_meta_158f, uX10_meta_159, uX10_meta_160, uX10_meta_163, uX10_meta_163o, uX10_meta_163f, uX10_meta_164, uX10_meta_165, uX10_meta_168, uX10_meta_168o, uX10_meta_168f, uX10_meta_169, uX10_meta_169o, uX10_meta_169f, uX10_meta_170, uX10_meta_173, uX10_meta_176, uX10_meta_177, uX10_meta_181, uX10_meta_181o, uX10_meta_181f, uX10_meta_182, uX10_meta_185, uX10_meta_188, uX10_meta_188o, uX10_meta_188f, uX10_meta_189, uX10_meta_192, uX10_meta_194, uX10_meta_194o, uX10_meta_194f, uX10_meta_195, uX10_meta_198, uX10_meta_200, uX10_meta_201, uX10_meta_202, uX10_meta_202o, uX10_meta_202f, uX10_meta_203, uX10_meta_206, uX10_meta_208, uX10_meta_208o, uX10_meta_208f, uX10_meta_209, uX10_meta_212, uX10_meta_214, uX10_meta_215, uX10_meta_216, uX10_meta_219, uX10_meta_222, uX10_meta_223, uX10_meta_227, uX10_meta_229, uX10_meta_230, uX10_meta_231, uX10_meta_234, uX10_meta_234o, uX10_meta_234f, uX10_meta_235, uX10_meta_238, uX10_meta_240, uX10_meta_240o, uX10_meta_240f, uX10_meta_241, uX10_meta_244, uX10_meta_244o, uX10_meta_244f, uX10_meta_245, uX10_meta_247, uX10_meta_250, uX10_meta_252, uX10_meta_253, uX10_meta_254, uX10_meta_255, uX10_meta_258, uX10_meta_261, uX10_meta_261o, uX10_meta_261f, uX10_meta_262, uX10_meta_263, uX10_meta_263o, uX10_meta_263f, uX10_meta_264, uX10_meta_265, uX10_meta_268, uX10_meta_271, uX10_meta_272, mo_C H, mo_R_tape H, mo_C_tape H, mo_L_tape H, pq_C_sI, pq_C_sJ, pq_C_sR, pq_C_sA, pq_L_sI, pq_L_sJ, pq_L_sR, pq_L_sA, pq_I_sI, pq_I_sJ, pq_I_sR, pq_I_sA, pq_J_sI, pq_J_sJ, pq_J_sR, pq_J_sA, pq_R_sI, pq_R_sJ, pq_R_sR, pq_R_sA, pq_N_sI, pq_N_sJ, pq_N_sR, pq_N_sA, pq_S_sI, pq_S_sJ, pq_S_sR, pq_S_sA, pz_rf_s, pz_cut_i, pz_cut_r, pz_cut_n, pz_cut_f, pz_cut_u, pz_cut_o, true_and, and_true, true_or, or_true, Option.toList_some, Option.toList_none, List.cons_append, List.nil_append, Nat.add_left_cancel_iff, Nat.left_eq_add, Nat.add_eq_left, Nat.reduceEqDiff, if_true, if_false, ite_true, ite_false, false_and, and_false, false_or, or_false, reduceIte, reduceCtorEq, and_self, mh_C, mh_L, mh_R, mh_J, mh_I0, mh_I, mh_Ir, mh_sI0, mh_sI, mh_sA, gu_11, gu_22, gu_r, gu_21s, gu_21c, gu_22s, gu_11s, gu_11c, gu_22c, Nat.reduceLeDiff, Nat.reduceLT, ne_eq, not_false_eq_true, not_true_eq_false, Nat.reduceEqDiff, Nat.lt_irrefl, eq_self, z_4, z_5, z_7, z_8, z_10, z_16, z_20, z_64]
            generalize hG3 : pz_u1 (pz_u1 G 11 (fun j => if j < fs.length then s j else G 11 j)) 12 (fun j => if j < fs.length then r j else G 12 j) = G3
            have k1 : G3 1 = g 1 := by rw [← hG3]; exact g1
            have k18 : G3 0 18 = nI l := by rw [← hG3]; exact g18
            have k19 : G3 0 19 = nI c := by rw [← hG3]; exact g19
            have k20 : G3 0 20 = nI (nPc l c) := by rw [← hG3]; exact g20
            have k21 : G3 0 21 = nI fs.length := by rw [← hG3]; exact g21
            have kF : FR [3, 4, 5, 6, 11, 12, 13, 14, 16, 17] [5, 18, 19, 20, 21, 28, 29] g G3 := by
              rw [← hG3]
              exact FR_trans gF (FR_trans (FR_1 (by decide) (by decide)) (FR_1 (by decide) (by decide)))
            have kS : FS (G3 11) (G3 12) fs := by
              intro j hj
              rw [← hG3]
              have := hF j hj
              refine ⟨?_, ?_⟩
              · show (if j < fs.length then s j else G 11 j) = _
                rw [if_pos hj]
                exact this.1
              · show (if j < fs.length then r j else G 12 j) = _
                rw [if_pos hj]
                exact this.2
            have T3 : TX (G3 1) n x := by rw [k1]; exact T
            rw [show mh h mo G3 = mh h mo (pz_u1 G3 13 (G3 13)) by rw [gu_1e]]
            rw [me_hashes H T3 h1 a h3, k1]
            generalize hG4 : pz_u1 G3 13 (fun j => if j < 20 * nPc l c then g 1 (stE x q + 1 + j) else G3 13 j) = G4
            have m1 : G4 1 = g 1 := by rw [← hG4]; exact k1
            have T4 : TX (G4 1) n x := by rw [m1]; exact T
            have hb : ∀ j, j < 20 * nPc l c → G4 13 j = b8 (x (stE x q + 1 + j)) := by
              intro j hj
              rw [← hG4]
              show (if j < 20 * nPc l c then _ else _) = _
              rw [if_pos hj]
              exact ((T.2 _).1 (by unfold stEnd at s2; omega)).1
            have mF : FR [3, 4, 5, 6, 11, 12, 13, 14, 16, 17] [5, 18, 19, 20, 21, 28, 29] g G4 := by
              rw [← hG4]
              exact FR_trans kF (FR_1 (by decide) (by decide))
            have mS : FS (G4 11) (G4 12) fs := by rw [← hG4]; exact kS
            have m18 : G4 0 18 = nI l := by rw [← hG4]; exact k18
            have m19 : G4 0 19 = nI c := by rw [← hG4]; exact k19
            have m20 : G4 0 20 = nI (nPc l c) := by rw [← hG4]; exact k20
            have m21 : G4 0 21 = nI fs.length := by rw [← hG4]; exact k21
            simp only [enX10_meta, uX10_meta_0, uX10_meta_0o, uX10_meta_0f, uX10_meta_1, uX10_meta_4, uX10_meta_5, uX10_meta_6, uX10_meta_8, uX10_meta_11, uX10_meta_11o, uX10_meta_11f, uX10_meta_12, uX10_meta_13, uX10_meta_14, uX10_meta_17, uX10_meta_20, uX10_meta_21, uX10_meta_22, uX10_meta_23, uX10_meta_26, uX10_meta_26o, uX10_meta_26f, uX10_meta_27, uX10_meta_30, uX10_meta_31, uX10_meta_32, uX10_meta_34, uX10_meta_37, uX10_meta_38, uX10_meta_39, uX10_meta_39o, uX10_meta_39f, uX10_meta_40, uX10_meta_40o, uX10_meta_40f, uX10_meta_41, uX10_meta_42, uX10_meta_43, uX10_meta_46, uX10_meta_49, uX10_meta_52, uX10_meta_53, uX10_meta_54, uX10_meta_54o, uX10_meta_54f, uX10_meta_55, uX10_meta_55o, uX10_meta_55f, uX10_meta_56, uX10_meta_57, uX10_meta_58, uX10_meta_61, uX10_meta_64, uX10_meta_65, uX10_meta_66, uX10_meta_68, uX10_meta_71, uX10_meta_72, uX10_meta_75, uX10_meta_78, uX10_meta_79, uX10_meta_80, uX10_meta_80o, uX10_meta_80f, uX10_meta_81, uX10_meta_82, uX10_meta_85, uX10_meta_88, uX10_meta_89, uX10_meta_90, uX10_meta_90o, uX10_meta_90f, uX10_meta_91, uX10_meta_94, uX10_meta_95, uX10_meta_96, uX10_meta_97, uX10_meta_98, uX10_meta_99, uX10_meta_100, uX10_meta_101, uX10_meta_101o, uX10_meta_101f, uX10_meta_102, uX10_meta_103, uX10_meta_105, uX10_meta_108, uX10_meta_110, uX10_meta_111, uX10_meta_113, uX10_meta_116, uX10_meta_118, uX10_meta_121, uX10_meta_121o, uX10_meta_121f, uX10_meta_122, uX10_meta_125, uX10_meta_127, uX10_meta_128, uX10_meta_131, uX10_meta_134, uX10_meta_134o, uX10_meta_134f, uX10_meta_135, uX10_meta_137, uX10_meta_140, uX10_meta_142, uX10_meta_143, uX10_meta_144, uX10_meta_147, uX10_meta_149, uX10_meta_150, uX10_meta_150o, uX10_meta_150f, uX10_meta_151, uX10_meta_151o, uX10_meta_151f, uX10_meta_152, uX10_meta_155, uX10_meta_158, uX10_meta_158o, uX10_meta_158f, uX10_meta_159, uX10_meta_160, uX10_meta_163, uX10_meta_163o, uX10_meta_163f, uX10_meta_164, uX10_meta_165, uX10_meta_168, uX10_meta_168o, uX10_meta_168f, uX10_meta_169, uX10_meta_169o, uX10_meta_169f, uX10_meta_170, uX10_meta_173, uX10_meta_176, uX10_meta_177, uX10_meta_181, uX10_meta_181o, uX10_meta_181f, uX10_meta_182, uX10_meta_185, uX10_meta_188, uX10_meta_188o, uX10_meta_188f, uX10_meta_189, uX10_meta_192, uX10_meta_194, uX10_meta_194o, uX10_meta_194f, uX10_meta_195, uX10_meta_198, uX10_meta_200, uX10_meta_201, uX10_meta_202, uX10_meta_202o, uX10_meta_202f, uX10_meta_203, uX10_meta_206, uX10_meta_208, uX10_meta_208o, uX10_meta_208f, uX10_meta_209, uX10_meta_212, uX10_meta_214, uX10_meta_215, uX10_meta_216, uX10_meta_219, uX10_meta_222, uX10_meta_223, uX10_meta_227, uX10_meta_229, uX10_meta_230, uX10_meta_231, uX10_meta_234, uX10_meta_234o, uX10_meta_234f, uX10_meta_235, uX10_meta_238, uX10_meta_240, uX10_meta_240o, uX10_meta_240f, uX10_meta_241, uX10_meta_244, uX10_meta_244o, uX10_meta_244f, uX10_meta_245, uX10_meta_247, uX10_meta_250, uX10_meta_252, uX10_meta_253, uX10_meta_254, uX10_meta_255, uX10_meta_258, uX10_meta_261, uX10_meta_261o, uX10_meta_261f, uX10_meta_262, uX10_meta_263, uX10_meta_263o, uX10_meta_263f, uX10_meta_264, uX10_meta_265, uX10_meta_268, uX10_meta_271, uX10_meta_272, mo_C H, mo_R_tape H, mo_C_tape H, mo_L_tape H, pq_C_sI, pq_C_sJ, pq_C_sR, pq_C_sA, pq_L_sI, pq_L_sJ, pq_L_sR, pq_L_sA, pq_I_sI, pq_I_sJ, pq_I_sR, pq_I_sA, pq_J_sI, pq_J_sJ, pq_J_sR, pq_J_sA, pq_R_sI, pq_R_sJ, pq_R_sR, pq_R_sA, pq_N_sI, pq_N_sJ, pq_N_sR, pq_N_sA, pq_S_sI, pq_S_sJ, pq_S_sR, pq_S_sA, pz_rf_s, pz_cut_i, pz_cut_r, pz_cut_n, pz_cut_f, pz_cut_u, pz_cut_o, true_and, and_true, true_or, or_true, Option.toList_some, Option.toList_none, List.cons_append, List.nil_append, Nat.add_left_cancel_iff, Nat.left_eq_add, Nat.add_eq_left, Nat.reduceEqDiff, if_true, if_false, ite_true, ite_false, false_and, and_false, false_or, or_false, reduceIte, reduceCtorEq, and_self, mh_C, mh_L, mh_R, mh_J, mh_I0, mh_I, mh_Ir, mh_sI0, mh_sI, mh_sA, gu_11, gu_22, gu_r, gu_21s, gu_21c, gu_22s, gu_11s, gu_11c, gu_22c, Nat.reduceLeDiff, Nat.reduceLT, ne_eq, not_false_eq_true, not_true_eq_false, Nat.reduceEqDiff, Nat.lt_irrefl, eq_self, z_4, z_5, z_7, z_8, z_10, z_16, z_20, z_64]
            refine g_behind H T4 hV ?_
            simp only [enX10_meta, uX10_meta_0, uX10_meta_0o, uX10_meta_0f, uX10_meta_1, uX10_meta_4, uX10_meta_5, uX10_meta_6, uX10_meta_8, uX10_meta_11, uX10_meta_11o, uX10_meta_11f, uX10_meta_12, uX10_meta_13, uX10_meta_14, uX10_meta_17, uX10_meta_20, uX10_meta_21, uX10_meta_22, uX10_meta_23, uX10_meta_26, uX10_meta_26o, uX10_meta_26f, uX10_meta_27, uX10_meta_30, uX10_meta_31, uX10_meta_32, uX10_meta_34, uX10_meta_37, uX10_meta_38, uX10_meta_39, uX10_meta_39o, uX10_meta_39f, uX10_meta_40, uX10_meta_40o, uX10_meta_40f, uX10_meta_41, uX10_meta_42, uX10_meta_43, uX10_meta_46, uX10_meta_49, uX10_meta_52, uX10_meta_53, uX10_meta_54, uX10_meta_54o, uX10_meta_54f, uX10_meta_55, uX10_meta_55o, uX10_meta_55f, uX10_meta_56, uX10_meta_57, uX10_meta_58, uX10_meta_61, uX10_meta_64, uX10_meta_65, uX10_meta_66, uX10_meta_68, uX10_meta_71, uX10_meta_72, uX10_meta_75, uX10_meta_78, uX10_meta_79, uX10_meta_80, uX10_meta_80o, uX10_meta_80f, uX10_meta_81, uX10_meta_82, uX10_meta_85, uX10_meta_88, uX10_meta_89, uX10_meta_90, uX10_meta_90o, uX10_meta_90f, uX10_meta_91, uX10_meta_94, uX10_meta_95, uX10_meta_96, uX10_meta_97, uX10_meta_98, uX10_meta_99, uX10_meta_100, uX10_meta_101, uX10_meta_101o, uX10_meta_101f, uX10_meta_102, uX10_meta_103, uX10_meta_105, uX10_meta_108, uX10_meta_110, uX10_meta_111, uX10_meta_113, uX10_meta_116, uX10_meta_118, uX10_meta_121, uX10_meta_121o, uX10_meta_121f, uX10_meta_122, uX10_meta_125, uX10_meta_127, uX10_meta_128, uX10_meta_131, uX10_meta_134, uX10_meta_134o, uX10_meta_134f, uX10_meta_135, uX10_meta_137, uX10_meta_140, uX10_meta_142, uX10_meta_143, uX10_meta_144, uX10_meta_147, uX10_meta_149, uX10_meta_150, uX10_meta_150o, uX10_meta_150f, uX10_meta_151, uX10_meta_151o, uX10_meta_151f, uX10_meta_152, uX10_meta_155, uX10_meta_158, uX10_meta_158o, uX10_meta_158f, uX10_meta_159, uX10_meta_160, uX10_meta_163, uX10_meta_163o, uX10_meta_163f, uX10_meta_164, uX10_meta_165, uX10_meta_168, uX10_meta_168o, uX10_meta_168f, uX10_meta_169, uX10_meta_169o, uX10_meta_169f, uX10_meta_170, uX10_meta_173, uX10_meta_176, uX10_meta_177, uX10_meta_181, uX10_meta_181o, uX10_meta_181f, uX10_meta_182, uX10_meta_185, uX10_meta_188, uX10_meta_188o, uX10_meta_188f, uX10_meta_189, uX10_meta_192, uX10_meta_194, uX10_meta_194o, uX10_meta_194f, uX10_meta_195, uX10_meta_198, uX10_meta_200, uX10_meta_201, uX10_meta_202, uX10_meta_202o, uX10_meta_202f, uX10_meta_203, uX10_meta_206, uX10_meta_208, uX10_meta_208o, uX10_meta_208f, uX10_meta_209, uX10_meta_212, uX10_meta_214, uX10_meta_215, uX10_meta_216, uX10_meta_219, uX10_meta_222, uX10_meta_223, uX10_meta_227, uX10_meta_229, uX10_meta_230, uX10_meta_231, uX10_meta_234, uX10_meta_234o, uX10_meta_234f, uX10_meta_235, uX10_meta_238, uX10_meta_240, uX10_meta_240o, uX10_meta_240f, uX10_meta_241, uX10_meta_244, uX10_meta_244o, uX10_meta_244f, uX10_meta_245, uX10_meta_247, uX10_meta_250, uX10_meta_252, uX10_meta_253, uX10_meta_254, uX10_meta_255, uX10_meta_258, uX10_meta_261, uX10_meta_261o, uX10_meta_261f, uX10_meta_262, uX10_meta_263, uX10_meta_263o, uX10_meta_263f, uX10_meta_264, uX10_meta_265, uX10_meta_268, uX10_meta_271, uX10_meta_272, mo_C H, mo_R_tape H, mo_C_tape H, mo_L_tape H, pq_C_sI, pq_C_sJ, pq_C_sR, pq_C_sA, pq_L_sI, pq_L_sJ, pq_L_sR, pq_L_sA, pq_I_sI, pq_I_sJ, pq_I_sR, pq_I_sA, pq_J_sI, pq_J_sJ, pq_J_sR, pq_J_sA, pq_R_sI, pq_R_sJ, pq_R_sR, pq_R_sA, pq_N_sI, pq_N_sJ, pq_N_sR, pq_N_sA, pq_S_sI, pq_S_sJ, pq_S_sR, pq_S_sA, pz_rf_s, pz_cut_i, pz_cut_r, pz_cut_n, pz_cut_f, pz_cut_u, pz_cut_o, true_and, and_true, true_or, or_true, Option.toList_some, Option.toList_none, List.cons_append, List.nil_append, Nat.add_left_cancel_iff, Nat.left_eq_add, Nat.add_eq_left, Nat.reduceEqDiff, if_true, if_false, ite_true, ite_false, false_and, and_false, false_or, or_false, reduceIte, reduceCtorEq, and_self, mh_C, mh_L, mh_R, mh_J, mh_I0, mh_I, mh_Ir, mh_sI0, mh_sI, mh_sA, gu_11, gu_22, gu_r, gu_21s, gu_21c, gu_22s, gu_11s, gu_11c, gu_22c, Nat.reduceLeDiff, Nat.reduceLT, ne_eq, not_false_eq_true, not_true_eq_false, Nat.reduceEqDiff, Nat.lt_irrefl, eq_self, z_4, z_5, z_7, z_8, z_10, z_16, z_20, z_64]
            have hen := VL_e T hV
            refine g_names H (by omega) (by omega) (fun j hj => by rw [m1, ((T.2 j).1 (by omega)).1]; exact b8_fit _) (fun v' r' w' s' dg' nm hnm => ?_)
            simp only [enX10_meta, uX10_meta_0, uX10_meta_0o, uX10_meta_0f, uX10_meta_1, uX10_meta_4, uX10_meta_5, uX10_meta_6, uX10_meta_8, uX10_meta_11, uX10_meta_11o, uX10_meta_11f, uX10_meta_12, uX10_meta_13, uX10_meta_14, uX10_meta_17, uX10_meta_20, uX10_meta_21, uX10_meta_22, uX10_meta_23, uX10_meta_26, uX10_meta_26o, uX10_meta_26f, uX10_meta_27, uX10_meta_30, uX10_meta_31, uX10_meta_32, uX10_meta_34, uX10_meta_37, uX10_meta_38, uX10_meta_39, uX10_meta_39o, uX10_meta_39f, uX10_meta_40, uX10_meta_40o, uX10_meta_40f, uX10_meta_41, uX10_meta_42, uX10_meta_43, uX10_meta_46, uX10_meta_49, uX10_meta_52, uX10_meta_53, uX10_meta_54, uX10_meta_54o, uX10_meta_54f, uX10_meta_55, uX10_meta_55o, uX10_meta_55f, uX10_meta_56, uX10_meta_57, uX10_meta_58, uX10_meta_61, uX10_meta_64, uX10_meta_65, uX10_meta_66, uX10_meta_68, uX10_meta_71, uX10_meta_72, uX10_meta_75, uX10_meta_78, uX10_meta_79, uX10_meta_80, uX10_meta_80o, uX10_meta_80f, uX10_meta_81, uX10_meta_82, uX10_meta_85, uX10_meta_88, uX10_meta_89, uX10_meta_90, uX10_meta_90o, uX10_meta_90f, uX10_meta_91, uX10_meta_94, uX10_meta_95, uX10_meta_96, uX10_meta_97, uX10_meta_98, uX10_meta_99, uX10_meta_100, uX10_meta_101, uX10_meta_101o, uX10_meta_101f, uX10_meta_102, uX10_meta_103, uX10_meta_105, uX10_meta_108, uX10_meta_110, uX10_meta_111, uX10_meta_113, uX10_meta_116, uX10_meta_118, uX10_meta_121, uX10_meta_121o, uX10_meta_121f, uX10_meta_122, uX10_meta_125, uX10_meta_127, uX10_meta_128, uX10_meta_131, uX10_meta_134, uX10_meta_134o, uX10_meta_134f, uX10_meta_135, uX10_meta_137, uX10_meta_140, uX10_meta_142, uX10_meta_143, uX10_meta_144, uX10_meta_147, uX10_meta_149, uX10_meta_150, uX10_meta_150o, uX10_meta_150f, uX10_meta_151, uX10_meta_151o, uX10_meta_151f, uX10_meta_152, uX10_meta_155, uX10_meta_158, uX10_meta_158o, uX10_meta_158f, uX10_meta_159, uX10_meta_160, uX10_meta_163, uX10_meta_163o, uX10_meta_163f, uX10_meta_164, uX10_meta_165, uX10_meta_168, uX10_meta_168o, uX10_meta_168f, uX10_meta_169, uX10_meta_169o, uX10_meta_169f, uX10_meta_170, uX10_meta_173, uX10_meta_176, uX10_meta_177, uX10_meta_181, uX10_meta_181o, uX10_meta_181f, uX10_meta_182, uX10_meta_185, uX10_meta_188, uX10_meta_188o, uX10_meta_188f, uX10_meta_189, uX10_meta_192, uX10_meta_194, uX10_meta_194o, uX10_meta_194f, uX10_meta_195, uX10_meta_198, uX10_meta_200, uX10_meta_201, uX10_meta_202, uX10_meta_202o, uX10_meta_202f, uX10_meta_203, uX10_meta_206, uX10_meta_208, uX10_meta_208o, uX10_meta_208f, uX10_meta_209, uX10_meta_212, uX10_meta_214, uX10_meta_215, uX10_meta_216, uX10_meta_219, uX10_meta_222, uX10_meta_223, uX10_meta_227, uX10_meta_229, uX10_meta_230, uX10_meta_231, uX10_meta_234, uX10_meta_234o, uX10_meta_234f, uX10_meta_235, uX10_meta_238, uX10_meta_240, uX10_meta_240o, uX10_meta_240f, uX10_meta_241, uX10_meta_244, uX10_meta_244o, uX10_meta_244f, uX10_meta_245, uX10_meta_247, uX10_meta_250, uX10_meta_252, uX10_meta_253, uX10_meta_254, uX10_meta_255, uX10_meta_258, uX10_meta_261, uX10_meta_261o, uX10_meta_261f, uX10_meta_262, uX10_meta_263, uX10_meta_263o, uX10_meta_263f, uX10_meta_264, uX10_meta_265, uX10_meta_268, uX10_meta_271, uX10_meta_272, mo_C H, mo_R_tape H, mo_C_tape H, mo_L_tape H, pq_C_sI, pq_C_sJ, pq_C_sR, pq_C_sA, pq_L_sI, pq_L_sJ, pq_L_sR, pq_L_sA, pq_I_sI, pq_I_sJ, pq_I_sR, pq_I_sA, pq_J_sI, pq_J_sJ, pq_J_sR, pq_J_sA, pq_R_sI, pq_R_sJ, pq_R_sR, pq_R_sA, pq_N_sI, pq_N_sJ, pq_N_sR, pq_N_sA, pq_S_sI, pq_S_sJ, pq_S_sR, pq_S_sA, pz_rf_s, pz_cut_i, pz_cut_r, pz_cut_n, pz_cut_f, pz_cut_u, pz_cut_o, true_and, and_true, true_or, or_true, Option.toList_some, Option.toList_none, List.cons_append, List.nil_append, Nat.add_left_cancel_iff, Nat.left_eq_add, Nat.add_eq_left, Nat.reduceEqDiff, if_true, if_false, ite_true, ite_false, false_and, and_false, false_or, or_false, reduceIte, reduceCtorEq, and_self, mh_C, mh_L, mh_R, mh_J, mh_I0, mh_I, mh_Ir, mh_sI0, mh_sI, mh_sA, gu_11, gu_22, gu_r, gu_21s, gu_21c, gu_22s, gu_11s, gu_11c, gu_22c, Nat.reduceLeDiff, Nat.reduceLT, ne_eq, not_false_eq_true, not_true_eq_false, Nat.reduceEqDiff, Nat.lt_irrefl, eq_self, z_4, z_5, z_7, z_8, z_10, z_16, z_20, z_64]
            refine K1 q _ e1 h1 a h3 ?_ m18 m19 m20 m21 mS hb ?_
            · refine FR_trans mF ?_
              unfold GS
              exact FR_trans (FR_2 (by decide)) (FR_trans (FR_1 (by decide) (by decide)) (FR_trans (FR_1 (by decide) (by decide)) (FR_trans (FR_1 (by decide) (by decide)) (FR_trans (FR_1 (by decide) (by decide)) (FR_1 (by decide) (by decide))))))
            · intro j hj
              have := hnm j hj
              rw [m1] at this
              exact this
          · rw [if_neg (fun z => h3 ((nI_eq (by omega) (by omega)).mp z))]
            exact no (fun z => h3 z.2.2)
        · unfold dg at h2
          omega
        · unfold dg at h2
          omega
      · rw [if_neg h2, if_pos rfl]
        exact no (fun z => h2 z.2.1)
  · rw [if_pos (show (64 : Int32) < nI (nPc l c) from nI_lt (a := 64) (by omega) (by omega))]
    exact K0 _ _ _ _ (fun q hq z => h1 z.1)
end
