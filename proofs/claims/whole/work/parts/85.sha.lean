/-! ===== the class: SHA-1 ===== -/
theorem nx_or (a b : Nat) : nI a ||| nI b = nI (a ||| b) := by
  apply Int32.toBitVec_inj.1
  show BitVec.ofNat 32 a ||| BitVec.ofNat 32 b = BitVec.ofNat 32 (a ||| b)
  apply BitVec.eq_of_getLsbD_eq
  intro i hi
  simp [BitVec.getLsbD_or, BitVec.getLsbD_ofNat, Nat.testBit_or, hi]
theorem n_or {k a b : Nat} (ha : a < 2 ^ k) : nI (b * 2 ^ k) ||| nI a = nI (b * 2 ^ k + a) := by
  rw [nx_or, ← Nat.shiftLeft_eq, Nat.shiftLeft_add_eq_or_of_lt ha]
/-- a word out of four bytes -/
def wdN (p q r s : Nat) : Nat := 16777216 * p + (65536 * q + (256 * r + s))
theorem sh_w_N {b : Nat → Int32} {o p q r s : Nat} (hp : p < 256) (hq : q < 256) (hr : r < 256) (hs : s < 256) (e0 : b o &&& 255 = nI p) (e1 : b (o + 1) &&& 255 = nI q) (e2 : b (o + 2) &&& 255 = nI r) (e3 : b (o + 3) &&& 255 = nI s) : sh_w b o = nI (wdN p q r s) := by
  unfold sh_w wdN
  rw [e0, e1, e2, e3, pk_shlN _ 24 (by decide) (by omega), pk_shlN _ 16 (by decide) (by omega), pk_shlN _ 8 (by decide) (by omega)]
  rw [n_or (k := 24) (by omega), show p * 2 ^ 24 + q * 2 ^ 16 = (p * 256 + q) * 2 ^ 16 by omega, n_or (k := 16) (by omega), show (p * 256 + q) * 2 ^ 16 + r * 2 ^ 8 = ((p * 256 + q) * 256 + r) * 2 ^ 8 by omega, n_or (k := 8) (by omega)]
  congr 1
  omega
/-- the bytes of a text that is summed, as the class reads them -/
def pby (m : List Int8) (i : Nat) : Nat := if i < m.length then ub (m.getD i 0) else if i = m.length then 128 else 0
theorem pby_lt {m : List Int8} {i : Nat} : pby m i < 256 := by
  unfold pby
  have := ub_lt (m.getD i 0)
  split
  · exact this
  · split <;> omega
def pw (m : List Int8) (o : Nat) : Int32 := nI (wdN (pby m o) (pby m (o + 1)) (pby m (o + 2)) (pby m (o + 3)))
def bof (m : List Int8) (i : Nat) : Int32 := (m.getD i 0).toInt32
theorem bb_0 {n q : Nat} (hn : n ≤ 6000) (hq : q < 4) : sh_bb n q = 0 := by
  unfold sh_bb
  have e1 : (nI n).toInt64 = lN n := nI_l (by omega)
  have e2 : (8 : Int64) = lN 8 := rfl
  have e3 : (8 : Int32) * nI (7 - q) = nI (8 * (7 - q)) := pk_mul 8 _
  rw [e1, e2, lN_mul, e3, pf_shr (d := 8 * (7 - q)) (by
    have : q = 0 ∨ q = 1 ∨ q = 2 ∨ q = 3 := by omega
    rcases this with rfl | rfl | rfl | rfl <;> decide) (by omega)]
  have : 8 * n / 2 ^ (8 * (7 - q)) = 0 := by
    apply Nat.div_eq_of_lt
    have : q = 0 ∨ q = 1 ∨ q = 2 ∨ q = 3 := by omega
    rcases this with rfl | rfl | rfl | rfl <;> simp <;> omega
  rw [this]
  decide
theorem bb_4 {n q : Nat} (hn : n ≤ 6000) (hq : q < 4) : sh_bb n (4 + q) &&& 255 = nI (8 * n / 2 ^ (8 * (3 - q)) % 256) := by
  unfold sh_bb
  have e1 : (nI n).toInt64 = lN n := nI_l (by omega)
  have e2 : (8 : Int64) = lN 8 := rfl
  have e3 : (8 : Int32) * nI (7 - (4 + q)) = nI (8 * (3 - q)) := by
    rw [show 7 - (4 + q) = 3 - q by omega]
    exact pk_mul 8 _
  rw [e1, e2, lN_mul, e3, pf_shr (d := 8 * (3 - q)) (by
    have : q = 0 ∨ q = 1 ∨ q = 2 ∨ q = 3 := by omega
    rcases this with rfl | rfl | rfl | rfl <;> decide) (by omega), lN_i, bp_b]
  have hle : 8 * n / 2 ^ (8 * (3 - q)) ≤ 8 * n := Nat.div_le_self _ _
  exact pk_andN (by omega) 8 (by decide)
/-- the reference's padded words are the class's -/
theorem p2_w {m : List Int8} {o : Nat} (hm : m.length ≤ 6000) (ho : o + 4 ≤ sh_P m.length - 4) : sh_w (sh_p2 (bof m) m.length 8) o = pw m o := by
  obtain ⟨q1, q2, q3, q4⟩ := sh_P_le hm
  have one : ∀ i, i < sh_P m.length - 4 → sh_p2 (bof m) m.length 8 i &&& 255 = nI (pby m i) := by
    intro i hi
    unfold sh_p2 pby
    by_cases z : sh_P m.length - 8 ≤ i ∧ i < sh_P m.length - 8 + 8
    · rw [if_pos z, bb_0 hm (by omega), if_neg (by omega), if_neg (by omega)]
      decide
    · rw [if_neg z]
      unfold sh_p1
      by_cases z1 : i < m.length
      · rw [if_pos z1, if_pos z1]
        exact ub_and _
      · rw [if_neg z1, if_neg z1]
        by_cases z2 : i = m.length
        · rw [if_pos z2, if_pos z2]
          decide
        · rw [if_neg z2, if_neg z2, if_pos (by omega)]
          decide
  exact sh_w_N pby_lt pby_lt pby_lt pby_lt (one o (by omega)) (one (o + 1) (by omega)) (one (o + 2) (by omega)) (one (o + 3) (by omega))
theorem p2_l {m : List Int8} (hm : m.length ≤ 6000) : sh_w (sh_p2 (bof m) m.length 8) (sh_P m.length - 4) = nI (8 * m.length) := by
  obtain ⟨q1, q2, q3, q4⟩ := sh_P_le hm
  have one : ∀ q, q < 4 → sh_p2 (bof m) m.length 8 (sh_P m.length - 4 + q) &&& 255 = nI (8 * m.length / 2 ^ (8 * (3 - q)) % 256) := by
    intro q hq
    unfold sh_p2
    rw [if_pos (by omega), show sh_P m.length - 4 + q - (sh_P m.length - 8) = 4 + q by omega]
    exact bb_4 hm hq
  have o0 := one 0 (by decide)
  rw [Nat.add_zero] at o0
  rw [sh_w_N (Nat.mod_lt _ (by decide)) (Nat.mod_lt _ (by decide)) (Nat.mod_lt _ (by decide)) (Nat.mod_lt _ (by decide)) o0 (one 1 (by decide)) (one 2 (by decide)) (one 3 (by decide))]
  unfold wdN
  congr 1
  simp
  omega
def SH (h : PzH) : Prop := pz_C h 7 = 7 ∧ pz_R h 7 0 = some 8 ∧ pz_C h 8 = 100 ∧ pz_L h 8 = 80 ∧ pz_R h 7 1 = some 9 ∧ pz_C h 9 = 100 ∧ pz_L h 9 = 5
theorem SH_fr {cs : List Nat} {h h' : PzH} (s : SH h) (f : HF cs h h') : SH h' := by
  obtain ⟨a1, a2, a3, _⟩ := f
  unfold SH
  rw [a1, a2, a3]
  exact s
section
variable {d : Nat} {h : PzH} {Q : Option Value → PzH → Prop}
theorem c_turn {v n : Int32} : pz_M (d + 1) mX7_turn [.int v, .int n] h Q ↔ Q (some (.int (sh_rot v n))) h := by
  simp only [enX7_turn, uX7_turn_0, uX7_turn_1, uX7_turn_2, uX7_turn_3, uX7_turn_4, uX7_turn_6, uX7_turn_7, uX7_turn_8, uX7_turn_9, uX7_turn_10, sh_rot]
theorem c_blend {t : Nat} (ht : t < 80) {b c e : Int32} : pz_M (d + 1) mX7_blend [.int (nI t), .int b, .int c, .int e] h Q ↔ Q (some (.int (sh_f t b c e + sh_k t))) h := by
  have b31 : t < 2 ^ 31 := by omega
  simp only [enX7_blend, uX7_blend_0, uX7_blend_1, uX7_blend_3, uX7_blend_6, uX7_blend_7, uX7_blend_8, uX7_blend_9, uX7_blend_10, uX7_blend_11, uX7_blend_12, uX7_blend_13, uX7_blend_14, uX7_blend_15, uX7_blend_17, uX7_blend_18, uX7_blend_19, uX7_blend_20, uX7_blend_22, uX7_blend_25, uX7_blend_26, uX7_blend_27, uX7_blend_28, uX7_blend_29, uX7_blend_30, uX7_blend_32, uX7_blend_33, uX7_blend_34, uX7_blend_35, uX7_blend_37, uX7_blend_40, uX7_blend_41, uX7_blend_42, uX7_blend_43, uX7_blend_44, uX7_blend_45, uX7_blend_46, uX7_blend_47, uX7_blend_48, uX7_blend_49, uX7_blend_50, uX7_blend_51, uX7_blend_53, uX7_blend_54, uX7_blend_55, uX7_blend_56, uX7_blend_57, uX7_blend_58, uX7_blend_59, uX7_blend_60, uX7_blend_62, uX7_blend_63, nI_c20, nI_c40, nI_c60, nI_leI (show 20 < 2 ^ 31 by decide) b31, nI_leI (show 40 < 2 ^ 31 by decide) b31, nI_leI (show 60 < 2 ^ 31 by decide) b31]
  by_cases g1 : t < 20
  · simp only [if_neg (show ¬ 20 ≤ t by omega), sh_f, sh_k, if_pos g1]
  · by_cases g2 : t < 40
    · simp only [if_pos (show 20 ≤ t by omega), if_neg (show ¬ 40 ≤ t by omega), if_pos g2, sh_f, sh_k, if_neg g1, g2, true_or, if_true]
    · by_cases g3 : t < 60
      · simp only [if_pos (show 20 ≤ t by omega), if_pos (show 40 ≤ t by omega), if_neg g2, if_neg (show ¬ 60 ≤ t by omega), sh_f, sh_k, if_neg g1, g2, false_or, if_neg (show ¬ 59 < t by omega), if_pos g3, if_false]
      · simp only [if_pos (show 20 ≤ t by omega), if_pos (show 40 ≤ t by omega), if_neg g2, if_pos (show 60 ≤ t by omega), sh_f, sh_k, if_neg g1, g2, false_or, if_pos (show 59 < t by omega), if_neg g3, if_false]
theorem mix_1 (S : SH h) {v2 v3 v4 v5 v6 v7 : Value} {w : Nat → Int32} : wp (d + 1) mX7_mix 3 [.ref 7, .int 16, v2, v3, v4, v5, v6, v7] [] (pz_sA h 8 w) Q ↔ wp (d + 1) mX7_mix 63 [.ref 7, .int 80, v2, v3, v4, v5, v6, v7] [] (pz_sA h 8 (sh_sched w 64)) Q := by
  obtain ⟨s1, s2, s3, s4, s5, s6, s7⟩ := S
  have key := wp_for (d := d + 1) (m := mX7_mix) (pc := 3) (Q := Q) (fun k => pz_sA h 8 (sh_sched w k)) (fun k => [.ref 7, .int (nI (16 + k)), v2, v3, v4, v5, v6, v7]) 64 (fun k hk => by
    rw [uX7_mix_3]
    simp only [enX7_mix, uX7_mix_0, uX7_mix_2, uX7_mix_4, uX7_mix_6, uX7_mix_9, uX7_mix_9o, uX7_mix_9f, uX7_mix_10, uX7_mix_13, uX7_mix_14, uX7_mix_14o, uX7_mix_14f, uX7_mix_15, uX7_mix_18, uX7_mix_19, uX7_mix_20, uX7_mix_21, uX7_mix_22, uX7_mix_22o, uX7_mix_22f, uX7_mix_23, uX7_mix_26, uX7_mix_27, uX7_mix_29, uX7_mix_30, uX7_mix_31, uX7_mix_32, uX7_mix_32o, uX7_mix_32f, uX7_mix_33, uX7_mix_36, uX7_mix_37, uX7_mix_39, uX7_mix_40, uX7_mix_41, uX7_mix_42, uX7_mix_42o, uX7_mix_42f, uX7_mix_43, uX7_mix_46, uX7_mix_47, uX7_mix_49, uX7_mix_50, uX7_mix_51, uX7_mix_52, uX7_mix_53, uX7_mix_56, uX7_mix_57, uX7_mix_60, uX7_mix_64, uX7_mix_67, uX7_mix_68, uX7_mix_69, uX7_mix_70, uX7_mix_70o, uX7_mix_70f, uX7_mix_71, uX7_mix_74, uX7_mix_75, uX7_mix_76, uX7_mix_77, uX7_mix_77o, uX7_mix_77f, uX7_mix_78, uX7_mix_81, uX7_mix_82, uX7_mix_83, uX7_mix_84, uX7_mix_84o, uX7_mix_84f, uX7_mix_85, uX7_mix_88, uX7_mix_89, uX7_mix_90, uX7_mix_92, uX7_mix_92o, uX7_mix_92f, uX7_mix_93, uX7_mix_96, uX7_mix_97, uX7_mix_98, uX7_mix_100, uX7_mix_101, uX7_mix_103, uX7_mix_105, uX7_mix_107, uX7_mix_110, uX7_mix_111, uX7_mix_112, uX7_mix_115, uX7_mix_117, uX7_mix_118, uX7_mix_119, uX7_mix_121, uX7_mix_124, uX7_mix_125, uX7_mix_127, uX7_mix_128, uX7_mix_128o, uX7_mix_128f, uX7_mix_129, uX7_mix_132, uX7_mix_134, uX7_mix_135, uX7_mix_136, uX7_mix_138, uX7_mix_140, uX7_mix_142, uX7_mix_143, uX7_mix_145, uX7_mix_146, uX7_mix_148, uX7_mix_151, uX7_mix_152, uX7_mix_153, uX7_mix_154, uX7_mix_156, uX7_mix_157, uX7_mix_160, uX7_mix_163, uX7_mix_163o, uX7_mix_163f, uX7_mix_164, uX7_mix_167, uX7_mix_168, uX7_mix_169, uX7_mix_170, uX7_mix_171, uX7_mix_172, uX7_mix_173, uX7_mix_173o, uX7_mix_173f, uX7_mix_174, uX7_mix_177, uX7_mix_178, uX7_mix_179, uX7_mix_180, uX7_mix_181, uX7_mix_182, uX7_mix_183, uX7_mix_183o, uX7_mix_183f, uX7_mix_184, uX7_mix_187, uX7_mix_188, uX7_mix_189, uX7_mix_190, uX7_mix_191, uX7_mix_192, uX7_mix_193, uX7_mix_193o, uX7_mix_193f, uX7_mix_194, uX7_mix_197, uX7_mix_198, uX7_mix_199, uX7_mix_200, uX7_mix_202, uX7_mix_203, uX7_mix_204, uX7_mix_204o, uX7_mix_204f, uX7_mix_205, uX7_mix_208, uX7_mix_209, uX7_mix_210, uX7_mix_211, uX7_mix_213, uX7_mix_214, uX7_mix_215, s1, s2, s3, s4, pq_C_sI, pq_C_sJ, pq_C_sR, pq_C_sA, pq_L_sI, pq_L_sJ, pq_L_sR, pq_L_sA, pq_I_sI, pq_I_sJ, pq_I_sR, pq_I_sA, pq_J_sI, pq_J_sJ, pq_J_sR, pq_J_sA, pq_R_sI, pq_R_sJ, pq_R_sR, pq_R_sA, pq_N_sI, pq_N_sJ, pq_N_sR, pq_N_sA, pq_S_sI, pq_S_sJ, pq_S_sR, pq_S_sA, pz_rf_s, pz_cut_i, pz_cut_r, pz_cut_n, pz_cut_f, pz_cut_u, pz_cut_o, true_and, and_true, true_or, or_true, Option.toList_some, Option.toList_none, List.cons_append, List.nil_append, Nat.add_left_cancel_iff, Nat.left_eq_add, Nat.add_eq_left, Nat.reduceEqDiff, if_true, if_false, ite_true, ite_false, false_and, and_false, false_or, or_false, reduceIte, reduceCtorEq, and_self, c_turn, nI_c3, nI_c8, nI_c14, nI_c16, nI_c80]
    rw [if_neg (nI_ge (show 16 + k < 80 by omega) (by decide)), pk_sub (show 3 ≤ 16 + k by omega), pk_sub (show 8 ≤ 16 + k by omega), pk_sub (show 14 ≤ 16 + k by omega), pk_sub (show 16 ≤ 16 + k by omega)]
    simp (disch := omega) only [nI_clamp, pz_in_nI, true_and, nI_1, pq_sI_sA]
    rw [show 16 + k - 3 = 13 + k by omega, show 16 + k - 8 = 8 + k by omega, show 16 + k - 14 = 2 + k by omega, show 16 + k - 16 = k by omega]
    exact Iff.rfl)
  refine Iff.trans (show _ ↔ _ from key) ?_
  rw [uX7_mix_3]
  simp only [enX7_mix, uX7_mix_0, uX7_mix_2, uX7_mix_4, uX7_mix_6, uX7_mix_9, uX7_mix_9o, uX7_mix_9f, uX7_mix_10, uX7_mix_13, uX7_mix_14, uX7_mix_14o, uX7_mix_14f, uX7_mix_15, uX7_mix_18, uX7_mix_19, uX7_mix_20, uX7_mix_21, uX7_mix_22, uX7_mix_22o, uX7_mix_22f, uX7_mix_23, uX7_mix_26, uX7_mix_27, uX7_mix_29, uX7_mix_30, uX7_mix_31, uX7_mix_32, uX7_mix_32o, uX7_mix_32f, uX7_mix_33, uX7_mix_36, uX7_mix_37, uX7_mix_39, uX7_mix_40, uX7_mix_41, uX7_mix_42, uX7_mix_42o, uX7_mix_42f, uX7_mix_43, uX7_mix_46, uX7_mix_47, uX7_mix_49, uX7_mix_50, uX7_mix_51, uX7_mix_52, uX7_mix_53, uX7_mix_56, uX7_mix_57, uX7_mix_60, uX7_mix_64, uX7_mix_67, uX7_mix_68, uX7_mix_69, uX7_mix_70, uX7_mix_70o, uX7_mix_70f, uX7_mix_71, uX7_mix_74, uX7_mix_75, uX7_mix_76, uX7_mix_77, uX7_mix_77o, uX7_mix_77f, uX7_mix_78, uX7_mix_81, uX7_mix_82, uX7_mix_83, uX7_mix_84, uX7_mix_84o, uX7_mix_84f, uX7_mix_85, uX7_mix_88, uX7_mix_89, uX7_mix_90, uX7_mix_92, uX7_mix_92o, uX7_mix_92f, uX7_mix_93, uX7_mix_96, uX7_mix_97, uX7_mix_98, uX7_mix_100, uX7_mix_101, uX7_mix_103, uX7_mix_105, uX7_mix_107, uX7_mix_110, uX7_mix_111, uX7_mix_112, uX7_mix_115, uX7_mix_117, uX7_mix_118, uX7_mix_119, uX7_mix_121, uX7_mix_124, uX7_mix_125, uX7_mix_127, uX7_mix_128, uX7_mix_128o, uX7_mix_128f, uX7_mix_129, uX7_mix_132, uX7_mix_134, uX7_mix_135, uX7_mix_136, uX7_mix_138, uX7_mix_140, uX7_mix_142, uX7_mix_143, uX7_mix_145, uX7_mix_146, uX7_mix_148, uX7_mix_151, uX7_mix_152, uX7_mix_153, uX7_mix_154, uX7_mix_156, uX7_mix_157, uX7_mix_160, uX7_mix_163, uX7_mix_163o, uX7_mix_163f, uX7_mix_164, uX7_mix_167, uX7_mix_168, uX7_mix_169, uX7_mix_170, uX7_mix_171, uX7_mix_172, uX7_mix_173, uX7_mix_173o, uX7_mix_173f, uX7_mix_174, uX7_mix_177, uX7_mix_178, uX7_mix_179, uX7_mix_180, uX7_mix_181, uX7_mix_182, uX7_mix_183, uX7_mix_183o, uX7_mix_183f, uX7_mix_184, uX7_mix_187, uX7_mix_188, uX7_mix_189, uX7_mix_190, uX7_mix_191, uX7_mix_192, uX7_mix_193, uX7_mix_193o, uX7_mix_193f, uX7_mix_194, uX7_mix_197, uX7_mix_198, uX7_mix_199, uX7_mix_200, uX7_mix_202, uX7_mix_203, uX7_mix_204, uX7_mix_204o, uX7_mix_204f, uX7_mix_205, uX7_mix_208, uX7_mix_209, uX7_mix_210, uX7_mix_211, uX7_mix_213, uX7_mix_214, uX7_mix_215]
  rw [if_pos (show (80 : Int32) ≤ nI (16 + 64) by decide)]
  exact Iff.rfl
theorem mix_2 (S : SH h) {s : Nat → Int32} {v7 : Value} : ∃ w7 : Value, wp (d + 1) mX7_mix 103 [.ref 7, .int (s 0), .int (s 1), .int (s 2), .int (s 3), .int (s 4), .int 0, v7] [] h Q ↔ wp (d + 1) mX7_mix 163 [.ref 7, .int (sh_rd (pz_I h 8) s 80).1, .int (sh_rd (pz_I h 8) s 80).2.1, .int (sh_rd (pz_I h 8) s 80).2.2.1, .int (sh_rd (pz_I h 8) s 80).2.2.2.1, .int (sh_rd (pz_I h 8) s 80).2.2.2.2, .int 80, w7] [] h Q := by
  obtain ⟨s1, s2, s3, s4, s5, s6, s7⟩ := S
  obtain ⟨l1, h1, ⟨w7, rfl, rfl⟩, e⟩ := wp_loop (d := d + 1) (m := mX7_mix) (pc := 103) (Q := Q) 80 (fun i ls h' => ∃ w7 : Value, ls = [.ref 7, .int (sh_rd (pz_I h 8) s i).1, .int (sh_rd (pz_I h 8) s i).2.1, .int (sh_rd (pz_I h 8) s i).2.2.1, .int (sh_rd (pz_I h 8) s i).2.2.2.1, .int (sh_rd (pz_I h 8) s i).2.2.2.2, .int (nI i), w7] ∧ h' = h) (by
    rintro i ls h' hi ⟨w7, rfl, rfl⟩
    have hr : sh_rd (pz_I h' 8) s (i + 1) = (sh_rot (sh_rd (pz_I h' 8) s i).1 5 + sh_f i (sh_rd (pz_I h' 8) s i).2.1 (sh_rd (pz_I h' 8) s i).2.2.1 (sh_rd (pz_I h' 8) s i).2.2.2.1 + (sh_rd (pz_I h' 8) s i).2.2.2.2 + sh_k i + pz_I h' 8 i, (sh_rd (pz_I h' 8) s i).1, sh_rot (sh_rd (pz_I h' 8) s i).2.1 30, (sh_rd (pz_I h' 8) s i).2.2.1, (sh_rd (pz_I h' 8) s i).2.2.2.1) := rfl
    rw [hr]
    generalize sh_rd (pz_I h' 8) s i = z
    obtain ⟨a, b, c, dd, ee⟩ := z
    dsimp only
    refine ⟨_, _, ⟨.int (sh_rot a 5 + (sh_f i b c dd + sh_k i) + ee + pz_I h' 8 i), rfl, rfl⟩, ?_⟩
    rw [uX7_mix_103]
    simp only [enX7_mix, uX7_mix_0, uX7_mix_2, uX7_mix_3, uX7_mix_4, uX7_mix_6, uX7_mix_9, uX7_mix_9o, uX7_mix_9f, uX7_mix_10, uX7_mix_13, uX7_mix_14, uX7_mix_14o, uX7_mix_14f, uX7_mix_15, uX7_mix_18, uX7_mix_19, uX7_mix_20, uX7_mix_21, uX7_mix_22, uX7_mix_22o, uX7_mix_22f, uX7_mix_23, uX7_mix_26, uX7_mix_27, uX7_mix_29, uX7_mix_30, uX7_mix_31, uX7_mix_32, uX7_mix_32o, uX7_mix_32f, uX7_mix_33, uX7_mix_36, uX7_mix_37, uX7_mix_39, uX7_mix_40, uX7_mix_41, uX7_mix_42, uX7_mix_42o, uX7_mix_42f, uX7_mix_43, uX7_mix_46, uX7_mix_47, uX7_mix_49, uX7_mix_50, uX7_mix_51, uX7_mix_52, uX7_mix_53, uX7_mix_56, uX7_mix_57, uX7_mix_60, uX7_mix_63, uX7_mix_63o, uX7_mix_63f, uX7_mix_64, uX7_mix_67, uX7_mix_68, uX7_mix_69, uX7_mix_70, uX7_mix_70o, uX7_mix_70f, uX7_mix_71, uX7_mix_74, uX7_mix_75, uX7_mix_76, uX7_mix_77, uX7_mix_77o, uX7_mix_77f, uX7_mix_78, uX7_mix_81, uX7_mix_82, uX7_mix_83, uX7_mix_84, uX7_mix_84o, uX7_mix_84f, uX7_mix_85, uX7_mix_88, uX7_mix_89, uX7_mix_90, uX7_mix_92, uX7_mix_92o, uX7_mix_92f, uX7_mix_93, uX7_mix_96, uX7_mix_97, uX7_mix_98, uX7_mix_100, uX7_mix_101, uX7_mix_105, uX7_mix_107, uX7_mix_110, uX7_mix_111, uX7_mix_112, uX7_mix_115, uX7_mix_117, uX7_mix_118, uX7_mix_119, uX7_mix_121, uX7_mix_124, uX7_mix_125, uX7_mix_127, uX7_mix_128, uX7_mix_128o, uX7_mix_128f, uX7_mix_129, uX7_mix_132, uX7_mix_134, uX7_mix_135, uX7_mix_136, uX7_mix_138, uX7_mix_140, uX7_mix_142, uX7_mix_143, uX7_mix_145, uX7_mix_146, uX7_mix_148, uX7_mix_151, uX7_mix_152, uX7_mix_153, uX7_mix_154, uX7_mix_156, uX7_mix_157, uX7_mix_160, uX7_mix_164, uX7_mix_167, uX7_mix_168, uX7_mix_169, uX7_mix_170, uX7_mix_171, uX7_mix_172, uX7_mix_173, uX7_mix_173o, uX7_mix_173f, uX7_mix_174, uX7_mix_177, uX7_mix_178, uX7_mix_179, uX7_mix_180, uX7_mix_181, uX7_mix_182, uX7_mix_183, uX7_mix_183o, uX7_mix_183f, uX7_mix_184, uX7_mix_187, uX7_mix_188, uX7_mix_189, uX7_mix_190, uX7_mix_191, uX7_mix_192, uX7_mix_193, uX7_mix_193o, uX7_mix_193f, uX7_mix_194, uX7_mix_197, uX7_mix_198, uX7_mix_199, uX7_mix_200, uX7_mix_202, uX7_mix_203, uX7_mix_204, uX7_mix_204o, uX7_mix_204f, uX7_mix_205, uX7_mix_208, uX7_mix_209, uX7_mix_210, uX7_mix_211, uX7_mix_213, uX7_mix_214, uX7_mix_215, s1, s2, s3, s4, pq_C_sI, pq_C_sJ, pq_C_sR, pq_C_sA, pq_L_sI, pq_L_sJ, pq_L_sR, pq_L_sA, pq_I_sI, pq_I_sJ, pq_I_sR, pq_I_sA, pq_J_sI, pq_J_sJ, pq_J_sR, pq_J_sA, pq_R_sI, pq_R_sJ, pq_R_sR, pq_R_sA, pq_N_sI, pq_N_sJ, pq_N_sR, pq_N_sA, pq_S_sI, pq_S_sJ, pq_S_sR, pq_S_sA, pz_rf_s, pz_cut_i, pz_cut_r, pz_cut_n, pz_cut_f, pz_cut_u, pz_cut_o, true_and, and_true, true_or, or_true, Option.toList_some, Option.toList_none, List.cons_append, List.nil_append, Nat.add_left_cancel_iff, Nat.left_eq_add, Nat.add_eq_left, Nat.reduceEqDiff, if_true, if_false, ite_true, ite_false, false_and, and_false, false_or, or_false, reduceIte, reduceCtorEq, and_self, c_turn, c_blend hi]
    rw [if_neg (show ¬ (80 : Int32) ≤ nI i from nI_ge hi (by decide))]
    simp (disch := omega) only [nI_clamp, pz_in_nI, true_and, nI_1]
    have e : sh_rot a 5 + (sh_f i b c dd + sh_k i) + ee + pz_I h' 8 i = sh_rot a 5 + sh_f i b c dd + ee + sh_k i + pz_I h' 8 i := by
      congr 1
      rw [Int32.add_assoc (sh_rot a 5), Int32.add_assoc (sh_rot a 5), Int32.add_assoc (sh_rot a 5), Int32.add_assoc (sh_f i b c dd), Int32.add_assoc (sh_f i b c dd), Int32.add_comm (sh_k i)]
    rw [e]) _ _ ⟨v7, rfl, rfl⟩
  refine ⟨w7, Iff.trans (show _ ↔ _ from e) ?_⟩
  rw [uX7_mix_103]
  simp only [enX7_mix, uX7_mix_0, uX7_mix_2, uX7_mix_3, uX7_mix_4, uX7_mix_6, uX7_mix_9, uX7_mix_9o, uX7_mix_9f, uX7_mix_10, uX7_mix_13, uX7_mix_14, uX7_mix_14o, uX7_mix_14f, uX7_mix_15, uX7_mix_18, uX7_mix_19, uX7_mix_20, uX7_mix_21, uX7_mix_22, uX7_mix_22o, uX7_mix_22f, uX7_mix_23, uX7_mix_26, uX7_mix_27, uX7_mix_29, uX7_mix_30, uX7_mix_31, uX7_mix_32, uX7_mix_32o, uX7_mix_32f, uX7_mix_33, uX7_mix_36, uX7_mix_37, uX7_mix_39, uX7_mix_40, uX7_mix_41, uX7_mix_42, uX7_mix_42o, uX7_mix_42f, uX7_mix_43, uX7_mix_46, uX7_mix_47, uX7_mix_49, uX7_mix_50, uX7_mix_51, uX7_mix_52, uX7_mix_53, uX7_mix_56, uX7_mix_57, uX7_mix_60, uX7_mix_63, uX7_mix_63o, uX7_mix_63f, uX7_mix_64, uX7_mix_67, uX7_mix_68, uX7_mix_69, uX7_mix_70, uX7_mix_70o, uX7_mix_70f, uX7_mix_71, uX7_mix_74, uX7_mix_75, uX7_mix_76, uX7_mix_77, uX7_mix_77o, uX7_mix_77f, uX7_mix_78, uX7_mix_81, uX7_mix_82, uX7_mix_83, uX7_mix_84, uX7_mix_84o, uX7_mix_84f, uX7_mix_85, uX7_mix_88, uX7_mix_89, uX7_mix_90, uX7_mix_92, uX7_mix_92o, uX7_mix_92f, uX7_mix_93, uX7_mix_96, uX7_mix_97, uX7_mix_98, uX7_mix_100, uX7_mix_101, uX7_mix_105, uX7_mix_107, uX7_mix_110, uX7_mix_111, uX7_mix_112, uX7_mix_115, uX7_mix_117, uX7_mix_118, uX7_mix_119, uX7_mix_121, uX7_mix_124, uX7_mix_125, uX7_mix_127, uX7_mix_128, uX7_mix_128o, uX7_mix_128f, uX7_mix_129, uX7_mix_132, uX7_mix_134, uX7_mix_135, uX7_mix_136, uX7_mix_138, uX7_mix_140, uX7_mix_142, uX7_mix_143, uX7_mix_145, uX7_mix_146, uX7_mix_148, uX7_mix_151, uX7_mix_152, uX7_mix_153, uX7_mix_154, uX7_mix_156, uX7_mix_157, uX7_mix_160, uX7_mix_164, uX7_mix_167, uX7_mix_168, uX7_mix_169, uX7_mix_170, uX7_mix_171, uX7_mix_172, uX7_mix_173, uX7_mix_173o, uX7_mix_173f, uX7_mix_174, uX7_mix_177, uX7_mix_178, uX7_mix_179, uX7_mix_180, uX7_mix_181, uX7_mix_182, uX7_mix_183, uX7_mix_183o, uX7_mix_183f, uX7_mix_184, uX7_mix_187, uX7_mix_188, uX7_mix_189, uX7_mix_190, uX7_mix_191, uX7_mix_192, uX7_mix_193, uX7_mix_193o, uX7_mix_193f, uX7_mix_194, uX7_mix_197, uX7_mix_198, uX7_mix_199, uX7_mix_200, uX7_mix_202, uX7_mix_203, uX7_mix_204, uX7_mix_204o, uX7_mix_204f, uX7_mix_205, uX7_mix_208, uX7_mix_209, uX7_mix_210, uX7_mix_211, uX7_mix_213, uX7_mix_214, uX7_mix_215]
  rw [if_pos (show (80 : Int32) ≤ nI 80 by decide)]
  exact Iff.rfl
end
