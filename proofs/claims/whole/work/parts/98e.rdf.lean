/-! ===== the class: readLength, readFiles, readPieces ===== -/
theorem fileO_eq {V : List Int8} {q : Nat} : fileO (tx V) V.length q = (match natO (tx V) (fiO V 3 (some q)), plO V (fiO V 5 (some q)) with
  | some s, some m => if s ≤ 4096 then some (s, m) else none
  | _, _ => none) := by
  have ef : ∀ k, fiO V k (some q) = if tx V q = 100 then inK (tx V) V.length q k else none := fun _ => rfl
  unfold fileO
  rw [ef, ef]
  by_cases h1 : tx V q = 100
  · rw [if_pos h1, if_pos h1, if_pos h1]
    cases natO (tx V) (inK (tx V) V.length q 3) with
    | none => rfl
    | some s =>
      cases inK (tx V) V.length q 5 with
      | none => rfl
      | some b =>
        have ep : plO V (some b) = if tx V b = 108 then plF 0 (pcnt (tx V) V.length (2 * V.length + 1) (b + 1)) else none := rfl
        dsimp only
        rw [ep]
        by_cases h2 : tx V b = 108
        · rw [if_pos h2]
          cases pcnt (tx V) V.length (2 * V.length + 1) (b + 1) with
          | none =>
            show (if s ≤ 4096 ∧ tx V b = 108 then none else none) = none
            rw [ite_self]
          | some m =>
            have e3 : plF 0 (some m) = if 1 ≤ m ∧ m ≤ 8 then some m else none := by
              show (if 1 ≤ 0 + m ∧ 0 + m ≤ 8 then some (0 + m) else none) = _
              rw [Nat.zero_add]
            rw [e3]
            by_cases h3 : 1 ≤ m ∧ m ≤ 8
            · rw [if_pos h3]
              dsimp only
              by_cases h4 : s ≤ 4096
              · rw [if_pos ⟨h4, h2⟩, if_pos h3, if_pos h4]
              · rw [if_neg (fun z => h4 z.1), if_neg h4]
            · rw [if_neg h3]
              dsimp only
              by_cases h4 : s ≤ 4096
              · rw [if_pos ⟨h4, h2⟩, if_neg h3]
              · rw [if_neg (fun z => h4 z.1)]
        · rw [if_neg h2, if_neg (fun z => h2 z.2)]
  · rw [if_neg h1, if_neg h1, if_neg h1]
    rfl
/-- the draft holds these files -/
def DF (h : PzH) (dr : Nat) (fs : List (Nat × Nat)) : Prop := pz_I h dr 0 = nI (fsum fs) ∧ pz_I h dr 3 = nI fs.length ∧ ∀ j, j < fs.length → pz_I h (dr + 1) j = nI (fs.getD j (0, 0)).1 ∧ pz_I h (dr + 2) j = nI (fsum (fs.take j)) ∧ pz_I h (dr + 3) j = nI (fs.getD j (0, 0)).2
def drC (dr : Nat) : List Nat := [dr, dr + 1, dr + 2, dr + 3]
section
variable {d : Nat} {h h' : PzH} {Q : Option Value → PzH → Prop} {r a cap : Nat} {V : List Int8}
theorem BT_dr {dr : Nat} (B : BT h r a cap V) (hd : dr = 15 ∨ dr = 28) (hr : r < 10 ∧ a < 10) (f : HF (drC dr) h h') : BT h' r a cap V := by
  obtain ⟨⟨b1, b2, b3, b4, b5⟩, W, n1, n2, n3, n4⟩ := B
  refine ⟨?_, ROW_fr W f (by unfold drC; simp; omega) (by unfold drC; simp; omega), n1, n2, n3, n4⟩
  rw [f.1, f.2.1, f.2.2.1]
  exact ⟨b1, b2, b3, b4, b5⟩
theorem VE_dr {dr v e : Nat} (hd : dr = 15 ∨ dr = 28) (f : HF (drC dr) h h') (H : VE h V v e) : VE h' V v e := VE_fr H (fun i _ => by rw [f.2.2.2.2.2.2.2.1 14 (by unfold drC; simp; omega)])
theorem DE_dr {dr v e : Nat} {md : Option (Bool × Option Nat)} (hd : dr = 15 ∨ dr = 28) (f : HF (drC dr) h h') (H : DE h V md v e) : DE h' V md v e := by
  obtain ⟨f', dp, h1, h2, h3⟩ := H
  refine ⟨f', dp, h1, h2, EN_c _ _ _ _ _ h2 (fun i a b => by rw [f.2.2.2.2.2.2.2.1 14 (by unfold drC; simp; omega)]) h3⟩
theorem getD_snoc {fs : List (Nat × Nat)} {z : Nat × Nat} : (fs ++ [z]).getD fs.length (0, 0) = z := by
  have := getD_app2 (l := fs) (m := [z]) (i := 0) (z := (0, 0))
  simpa using this
theorem rf_l {dr : Nat} (hr : r < 10 ∧ a < 10) {v1 : Int32} : ∀ (m q F e : Nat) (fs : List (Nat × Nat)) (h : PzH) (v4 v5 : Value) (Q : Option Value → PzH → Prop) (c1 : Int32), V.length - q ≤ m → BT h r a cap V → LD h dr → DE h V (some (false, none)) q e → fs.length ≤ 16 → fsum fs ≤ 4096 * fs.length → 2 * (V.length - q) + 2 ≤ F → DF h dr fs → pz_I h dr 1 = c1 → pz_cut v4 = v4 →
    (∀ h' fs', flO (tx V) V.length F q fs = some fs' → fs'.length ≤ 16 → HF (drC dr) h h' → DF h' dr fs' → pz_I h' dr 1 = c1 → Q (some (.int (if 1 ≤ fsum fs' ∧ fsum fs' ≤ 4096 then 1 else 0))) h') →
    (∀ h', flO (tx V) V.length F q fs = none → HF (drC dr) h h' → Q (some (.int 0)) h') →
    wp (d + 6) mX4_readFiles 37 [.ref 10, .int v1, .int (nI q), .int (nI fs.length), v4, v5] [] h Q := by
  intro m
  induction m with
  | zero =>
    intro q F e fs h v4 v5 Q c1 hm B L HD
    have := DE_lt HD
    omega
  | succ m ih =>
    intro q F e fs h v4 v5 Q c1 hm B L HD h16 hsum hF DFh hc1 c4 K1 K0
    have B' := B
    have L' := L
    obtain ⟨⟨b1, b2, b3, b4, b5⟩, W, n1, n2, n3, n4⟩ := B
    obtain ⟨⟨l1, l2, l3, l4⟩, ⟨t1, ⟨t2, t3, t4⟩, ⟨t5, t6, t7⟩, ⟨t8, t9, t10⟩, _⟩, hd⟩ := L
    obtain ⟨f1, f2, f3⟩ := DFh
    have w6 := W.2.2.2.2.2.1
    have w8 := W.2.2.2.2.2.2.2.1
    have ql := DE_lt HD
    obtain ⟨F, rfl⟩ : ∃ F', F = F' + 1 := ⟨F - 1, by omega⟩
    have ik : ∀ {Q : Option Value → PzH → Prop}, pz_M (d + 6) mX1_isKind [.ref 11, .int (nI q), .int 101] h Q ↔ Q (some (.int (if decide (tx V q = 101) = true then 1 else 0))) h := fun {Q} => c_isKind (r' := some q) (k := 101) B' (fun i z => by have := Option.some.inj z; omega) (by decide)
    rw [flO_s] at K1 K0
    rw [uX4_readFiles_37]
    by_cases h1 : tx V q = 101
    · rw [if_pos h1] at K1 K0
      have done := K1 h fs rfl h16 HF_refl ⟨f1, f2, f3⟩ hc1
      have e1 : (1 ≤ nI (fsum fs) ∧ nI (fsum fs) ≤ 4096) ↔ (1 ≤ fsum fs ∧ fsum fs ≤ 4096) := by
        have a1 := nI_leI (a := 1) (b := fsum fs) (by decide) (by omega)
        have a2 := nI_leI (a := fsum fs) (b := 4096) (by omega) (by decide)
        exact ⟨fun z => ⟨a1.mp z.1, a2.mp z.2⟩, fun z => ⟨a1.mpr z.1, a2.mpr z.2⟩⟩
      have ik1 : ∀ {Q : Option Value → PzH → Prop}, pz_M (d + 6) mX1_isKind [.ref 11, .int (nI q), .int 101] h Q ↔ Q (some (.int 1)) h := fun {Q} => by rw [ik, decide_eq_true h1, if_pos rfl]
      simp only [enX4_readFiles, uX4_readFiles_0, uX4_readFiles_0o, uX4_readFiles_0f, uX4_readFiles_1, uX4_readFiles_4, uX4_readFiles_5, uX4_readFiles_7, uX4_readFiles_10, uX4_readFiles_13, uX4_readFiles_14, uX4_readFiles_15, uX4_readFiles_15o, uX4_readFiles_15f, uX4_readFiles_16, uX4_readFiles_19, uX4_readFiles_20, uX4_readFiles_23, uX4_readFiles_23o, uX4_readFiles_23f, uX4_readFiles_24, uX4_readFiles_27, uX4_readFiles_28, uX4_readFiles_31, uX4_readFiles_32, uX4_readFiles_33, uX4_readFiles_34, uX4_readFiles_35, uX4_readFiles_36, uX4_readFiles_38, uX4_readFiles_40, uX4_readFiles_43, uX4_readFiles_43o, uX4_readFiles_43f, uX4_readFiles_44, uX4_readFiles_47, uX4_readFiles_48, uX4_readFiles_50, uX4_readFiles_53, uX4_readFiles_56, uX4_readFiles_56o, uX4_readFiles_56f, uX4_readFiles_57, uX4_readFiles_60, uX4_readFiles_60o, uX4_readFiles_60f, uX4_readFiles_61, uX4_readFiles_64, uX4_readFiles_65, uX4_readFiles_67, uX4_readFiles_70, uX4_readFiles_73, uX4_readFiles_75, uX4_readFiles_75o, uX4_readFiles_75f, uX4_readFiles_76, uX4_readFiles_76o, uX4_readFiles_76f, uX4_readFiles_77, uX4_readFiles_80, uX4_readFiles_81, uX4_readFiles_83, uX4_readFiles_86, uX4_readFiles_89, uX4_readFiles_91, uX4_readFiles_93, uX4_readFiles_94, uX4_readFiles_97, uX4_readFiles_100, uX4_readFiles_103, uX4_readFiles_105, uX4_readFiles_106, uX4_readFiles_109, uX4_readFiles_110, uX4_readFiles_111, uX4_readFiles_111o, uX4_readFiles_111f, uX4_readFiles_112, uX4_readFiles_115, uX4_readFiles_118, uX4_readFiles_119, uX4_readFiles_121, uX4_readFiles_122, uX4_readFiles_122o, uX4_readFiles_122f, uX4_readFiles_123, uX4_readFiles_126, uX4_readFiles_129, uX4_readFiles_130, uX4_readFiles_130o, uX4_readFiles_130f, uX4_readFiles_131, uX4_readFiles_134, uX4_readFiles_137, uX4_readFiles_138, uX4_readFiles_138o, uX4_readFiles_138f, uX4_readFiles_139, uX4_readFiles_142, uX4_readFiles_145, uX4_readFiles_146, uX4_readFiles_148, uX4_readFiles_149, uX4_readFiles_149o, uX4_readFiles_149f, uX4_readFiles_150, uX4_readFiles_153, uX4_readFiles_154, uX4_readFiles_157, uX4_readFiles_159, uX4_readFiles_160, uX4_readFiles_163, uX4_readFiles_163o, uX4_readFiles_163f, uX4_readFiles_164, uX4_readFiles_167, uX4_readFiles_168, uX4_readFiles_169, uX4_readFiles_170, uX4_readFiles_173, uX4_readFiles_173o, uX4_readFiles_173f, uX4_readFiles_174, uX4_readFiles_177, uX4_readFiles_178, uX4_readFiles_181, uX4_readFiles_182, uX4_readFiles_185, uX4_readFiles_188, uX4_readFiles_188o, uX4_readFiles_188f, uX4_readFiles_189, uX4_readFiles_192, uX4_readFiles_193, uX4_readFiles_195, uX4_readFiles_198, uX4_readFiles_201, uX4_readFiles_201o, uX4_readFiles_201f, uX4_readFiles_202, uX4_readFiles_205, uX4_readFiles_208, uX4_readFiles_209, uX4_readFiles_212, uX4_readFiles_215, uX4_readFiles_218, uX4_readFiles_219, uX4_readFiles_222, uX4_readFiles_223, pq_C_sI, pq_C_sJ, pq_C_sR, pq_C_sA, pq_L_sI, pq_L_sJ, pq_L_sR, pq_L_sA, pq_I_sI, pq_I_sJ, pq_I_sR, pq_I_sA, pq_J_sI, pq_J_sJ, pq_J_sR, pq_J_sA, pq_R_sI, pq_R_sJ, pq_R_sR, pq_R_sA, pq_N_sI, pq_N_sJ, pq_N_sR, pq_N_sA, pq_S_sI, pq_S_sJ, pq_S_sR, pq_S_sA, pz_rf_s, pz_cut_i, pz_cut_r, pz_cut_n, pz_cut_f, pz_cut_u, pz_cut_o, true_and, and_true, true_or, or_true, Option.toList_some, Option.toList_none, List.cons_append, List.nil_append, Nat.add_left_cancel_iff, Nat.left_eq_add, Nat.add_eq_left, Nat.reduceEqDiff, if_true, if_false, ite_true, ite_false, false_and, and_false, false_or, or_false, reduceIte, reduceCtorEq, and_self, z_4, z_5, z_7, z_8, z_10, z_16, z_20, z_64, not_false_eq_true, l1, l3, l4, b1, ik1, show ¬ (1 : Int32) = 0 by decide, t1, f1, c_isWithin]
      by_cases z : 1 ≤ fsum fs ∧ fsum fs ≤ 4096
      · rw [if_pos z] at done
        rw [if_pos (e1.mpr z)]
        simp only [show ¬ (1 : Int32) = 0 by decide, if_false, ite_self]
        exact done
      · rw [if_neg z] at done
        rw [if_neg (fun y => z (e1.mp y))]
        simp only [if_true, ite_self]
        exact done
    · rw [if_neg h1] at K1 K0
      have ik0 : ∀ {Q : Option Value → PzH → Prop}, pz_M (d + 6) mX1_isKind [.ref 11, .int (nI q), .int 101] h Q ↔ Q (some (.int 0)) h := fun {Q} => by rw [ik, decide_eq_false h1, if_neg (show ¬ (false = true) by decide)]
      by_cases c16 : fs.length = 16
      · rw [if_pos c16] at K1 K0
        simp only [enX4_readFiles, uX4_readFiles_0, uX4_readFiles_0o, uX4_readFiles_0f, uX4_readFiles_1, uX4_readFiles_4, uX4_readFiles_5, uX4_readFiles_7, uX4_readFiles_10, uX4_readFiles_13, uX4_readFiles_14, uX4_readFiles_15, uX4_readFiles_15o, uX4_readFiles_15f, uX4_readFiles_16, uX4_readFiles_19, uX4_readFiles_20, uX4_readFiles_23, uX4_readFiles_23o, uX4_readFiles_23f, uX4_readFiles_24, uX4_readFiles_27, uX4_readFiles_28, uX4_readFiles_31, uX4_readFiles_32, uX4_readFiles_33, uX4_readFiles_34, uX4_readFiles_35, uX4_readFiles_36, uX4_readFiles_38, uX4_readFiles_40, uX4_readFiles_43, uX4_readFiles_43o, uX4_readFiles_43f, uX4_readFiles_44, uX4_readFiles_47, uX4_readFiles_48, uX4_readFiles_50, uX4_readFiles_53, uX4_readFiles_56, uX4_readFiles_56o, uX4_readFiles_56f, uX4_readFiles_57, uX4_readFiles_60, uX4_readFiles_60o, uX4_readFiles_60f, uX4_readFiles_61, uX4_readFiles_64, uX4_readFiles_65, uX4_readFiles_67, uX4_readFiles_70, uX4_readFiles_73, uX4_readFiles_75, uX4_readFiles_75o, uX4_readFiles_75f, uX4_readFiles_76, uX4_readFiles_76o, uX4_readFiles_76f, uX4_readFiles_77, uX4_readFiles_80, uX4_readFiles_81, uX4_readFiles_83, uX4_readFiles_86, uX4_readFiles_89, uX4_readFiles_91, uX4_readFiles_93, uX4_readFiles_94, uX4_readFiles_97, uX4_readFiles_100, uX4_readFiles_103, uX4_readFiles_105, uX4_readFiles_106, uX4_readFiles_109, uX4_readFiles_110, uX4_readFiles_111, uX4_readFiles_111o, uX4_readFiles_111f, uX4_readFiles_112, uX4_readFiles_115, uX4_readFiles_118, uX4_readFiles_119, uX4_readFiles_121, uX4_readFiles_122, uX4_readFiles_122o, uX4_readFiles_122f, uX4_readFiles_123, uX4_readFiles_126, uX4_readFiles_129, uX4_readFiles_130, uX4_readFiles_130o, uX4_readFiles_130f, uX4_readFiles_131, uX4_readFiles_134, uX4_readFiles_137, uX4_readFiles_138, uX4_readFiles_138o, uX4_readFiles_138f, uX4_readFiles_139, uX4_readFiles_142, uX4_readFiles_145, uX4_readFiles_146, uX4_readFiles_148, uX4_readFiles_149, uX4_readFiles_149o, uX4_readFiles_149f, uX4_readFiles_150, uX4_readFiles_153, uX4_readFiles_154, uX4_readFiles_157, uX4_readFiles_159, uX4_readFiles_160, uX4_readFiles_163, uX4_readFiles_163o, uX4_readFiles_163f, uX4_readFiles_164, uX4_readFiles_167, uX4_readFiles_168, uX4_readFiles_169, uX4_readFiles_170, uX4_readFiles_173, uX4_readFiles_173o, uX4_readFiles_173f, uX4_readFiles_174, uX4_readFiles_177, uX4_readFiles_178, uX4_readFiles_181, uX4_readFiles_182, uX4_readFiles_185, uX4_readFiles_188, uX4_readFiles_188o, uX4_readFiles_188f, uX4_readFiles_189, uX4_readFiles_192, uX4_readFiles_193, uX4_readFiles_195, uX4_readFiles_198, uX4_readFiles_201, uX4_readFiles_201o, uX4_readFiles_201f, uX4_readFiles_202, uX4_readFiles_205, uX4_readFiles_208, uX4_readFiles_209, uX4_readFiles_212, uX4_readFiles_215, uX4_readFiles_218, uX4_readFiles_219, uX4_readFiles_222, uX4_readFiles_223, pq_C_sI, pq_C_sJ, pq_C_sR, pq_C_sA, pq_L_sI, pq_L_sJ, pq_L_sR, pq_L_sA, pq_I_sI, pq_I_sJ, pq_I_sR, pq_I_sA, pq_J_sI, pq_J_sJ, pq_J_sR, pq_J_sA, pq_R_sI, pq_R_sJ, pq_R_sR, pq_R_sA, pq_N_sI, pq_N_sJ, pq_N_sR, pq_N_sA, pq_S_sI, pq_S_sJ, pq_S_sR, pq_S_sA, pz_rf_s, pz_cut_i, pz_cut_r, pz_cut_n, pz_cut_f, pz_cut_u, pz_cut_o, true_and, and_true, true_or, or_true, Option.toList_some, Option.toList_none, List.cons_append, List.nil_append, Nat.add_left_cancel_iff, Nat.left_eq_add, Nat.add_eq_left, Nat.reduceEqDiff, if_true, if_false, ite_true, ite_false, false_and, and_false, false_or, or_false, reduceIte, reduceCtorEq, and_self, z_4, z_5, z_7, z_8, z_10, z_16, z_20, z_64, not_false_eq_true, l1, l3, b1, ik0]
        rw [if_pos (show (16 : Int32) ≤ nI fs.length by rw [c16]; decide)]
        exact K0 h rfl HF_refl
      · rw [if_neg c16] at K1 K0
        obtain ⟨u, HV, HD2⟩ := DE_item HD h1
        have vl := VE_lt HV
        have hq : ∀ i, some q = some i → ∃ u, VE h V i u := fun i z => by have e := Option.some.inj z; subst e; exact ⟨u, HV⟩
        have fn : ∀ {Q : Option Value → PzH → Prop} (k : Nat) (y : UInt32), k < 7 → y.toNat = 5 + k → (pz_M (d + 6) mX1_find [.ref 11, .int (nI q), .float y] h Q ↔ Q (some (.int (kyOf (fiO V k (some q))))) h) := fun {Q} k y hk hy => c_find (r' := some q) B' hk hy hq
        have eo : ∀ {Q : Option Value → PzH → Prop} {h2 : PzH}, HF (drC dr) h h2 → (pz_M (d + 6) mX1_endOf [.ref 11, .int (nI q)] h2 Q ↔ Q (some (.int (nI u))) h2) := fun {Q h2} f => by
          have := c_endOf (d := d + 5) (Q := Q) (BT_dr B' hd hr f) (p := q) (by omega)
          rw [VE_E (VE_dr hd f HV)] at this
          exact this
        rw [fileO_eq] at K1 K0
        simp only [enX4_readFiles, uX4_readFiles_0, uX4_readFiles_0o, uX4_readFiles_0f, uX4_readFiles_1, uX4_readFiles_4, uX4_readFiles_5, uX4_readFiles_7, uX4_readFiles_10, uX4_readFiles_13, uX4_readFiles_14, uX4_readFiles_15, uX4_readFiles_15o, uX4_readFiles_15f, uX4_readFiles_16, uX4_readFiles_19, uX4_readFiles_20, uX4_readFiles_23, uX4_readFiles_23o, uX4_readFiles_23f, uX4_readFiles_24, uX4_readFiles_27, uX4_readFiles_28, uX4_readFiles_31, uX4_readFiles_32, uX4_readFiles_33, uX4_readFiles_34, uX4_readFiles_35, uX4_readFiles_36, uX4_readFiles_38, uX4_readFiles_40, uX4_readFiles_43, uX4_readFiles_43o, uX4_readFiles_43f, uX4_readFiles_44, uX4_readFiles_47, uX4_readFiles_48, uX4_readFiles_50, uX4_readFiles_53, uX4_readFiles_56, uX4_readFiles_56o, uX4_readFiles_56f, uX4_readFiles_57, uX4_readFiles_60, uX4_readFiles_60o, uX4_readFiles_60f, uX4_readFiles_61, uX4_readFiles_64, uX4_readFiles_65, uX4_readFiles_67, uX4_readFiles_70, uX4_readFiles_73, uX4_readFiles_75, uX4_readFiles_75o, uX4_readFiles_75f, uX4_readFiles_76, uX4_readFiles_76o, uX4_readFiles_76f, uX4_readFiles_77, uX4_readFiles_80, uX4_readFiles_81, uX4_readFiles_83, uX4_readFiles_86, uX4_readFiles_89, uX4_readFiles_91, uX4_readFiles_93, uX4_readFiles_94, uX4_readFiles_97, uX4_readFiles_100, uX4_readFiles_103, uX4_readFiles_105, uX4_readFiles_106, uX4_readFiles_109, uX4_readFiles_110, uX4_readFiles_111, uX4_readFiles_111o, uX4_readFiles_111f, uX4_readFiles_112, uX4_readFiles_115, uX4_readFiles_118, uX4_readFiles_119, uX4_readFiles_121, uX4_readFiles_122, uX4_readFiles_122o, uX4_readFiles_122f, uX4_readFiles_123, uX4_readFiles_126, uX4_readFiles_129, uX4_readFiles_130, uX4_readFiles_130o, uX4_readFiles_130f, uX4_readFiles_131, uX4_readFiles_134, uX4_readFiles_137, uX4_readFiles_138, uX4_readFiles_138o, uX4_readFiles_138f, uX4_readFiles_139, uX4_readFiles_142, uX4_readFiles_145, uX4_readFiles_146, uX4_readFiles_148, uX4_readFiles_149, uX4_readFiles_149o, uX4_readFiles_149f, uX4_readFiles_150, uX4_readFiles_153, uX4_readFiles_154, uX4_readFiles_157, uX4_readFiles_159, uX4_readFiles_160, uX4_readFiles_163, uX4_readFiles_163o, uX4_readFiles_163f, uX4_readFiles_164, uX4_readFiles_167, uX4_readFiles_168, uX4_readFiles_169, uX4_readFiles_170, uX4_readFiles_173, uX4_readFiles_173o, uX4_readFiles_173f, uX4_readFiles_174, uX4_readFiles_177, uX4_readFiles_178, uX4_readFiles_181, uX4_readFiles_182, uX4_readFiles_185, uX4_readFiles_188, uX4_readFiles_188o, uX4_readFiles_188f, uX4_readFiles_189, uX4_readFiles_192, uX4_readFiles_193, uX4_readFiles_195, uX4_readFiles_198, uX4_readFiles_201, uX4_readFiles_201o, uX4_readFiles_201f, uX4_readFiles_202, uX4_readFiles_205, uX4_readFiles_208, uX4_readFiles_209, uX4_readFiles_212, uX4_readFiles_215, uX4_readFiles_218, uX4_readFiles_219, uX4_readFiles_222, uX4_readFiles_223, pq_C_sI, pq_C_sJ, pq_C_sR, pq_C_sA, pq_L_sI, pq_L_sJ, pq_L_sR, pq_L_sA, pq_I_sI, pq_I_sJ, pq_I_sR, pq_I_sA, pq_J_sI, pq_J_sJ, pq_J_sR, pq_J_sA, pq_R_sI, pq_R_sJ, pq_R_sR, pq_R_sA, pq_N_sI, pq_N_sJ, pq_N_sR, pq_N_sA, pq_S_sI, pq_S_sJ, pq_S_sR, pq_S_sA, pz_rf_s, pz_cut_i, pz_cut_r, pz_cut_n, pz_cut_f, pz_cut_u, pz_cut_o, true_and, and_true, true_or, or_true, Option.toList_some, Option.toList_none, List.cons_append, List.nil_append, Nat.add_left_cancel_iff, Nat.left_eq_add, Nat.add_eq_left, Nat.reduceEqDiff, if_true, if_false, ite_true, ite_false, false_and, and_false, false_or, or_false, reduceIte, reduceCtorEq, and_self, z_4, z_5, z_7, z_8, z_10, z_16, z_20, z_64, not_false_eq_true, l1, l3, b1, ik0, fn 3 8 (by decide) (by decide)]
        rw [if_neg (show ¬ (16 : Int32) ≤ nI fs.length from nI_ge (b := 16) (by omega) (by decide))]
        refine c_numberAt B' (fun i z => by obtain ⟨u, hu⟩ := fiO_VE hq z; exact ⟨u, VE_VL hu⟩) (fun v hv => ?_)
        have pl : ∀ {Q : Option Value → PzH → Prop}, pz_M (d + 6) mX4_pathLength [.ref 10, .int (kyOf (fiO V 5 (some q)))] h Q ↔ Q (some (.int (kyOf (plO V (fiO V 5 (some q)))))) h := fun {Q} => c_pathLength B' L' (fun i z => fiO_VE hq z)
        simp only [enX4_readFiles, uX4_readFiles_0, uX4_readFiles_0o, uX4_readFiles_0f, uX4_readFiles_1, uX4_readFiles_4, uX4_readFiles_5, uX4_readFiles_7, uX4_readFiles_10, uX4_readFiles_13, uX4_readFiles_14, uX4_readFiles_15, uX4_readFiles_15o, uX4_readFiles_15f, uX4_readFiles_16, uX4_readFiles_19, uX4_readFiles_20, uX4_readFiles_23, uX4_readFiles_23o, uX4_readFiles_23f, uX4_readFiles_24, uX4_readFiles_27, uX4_readFiles_28, uX4_readFiles_31, uX4_readFiles_32, uX4_readFiles_33, uX4_readFiles_34, uX4_readFiles_35, uX4_readFiles_36, uX4_readFiles_38, uX4_readFiles_40, uX4_readFiles_43, uX4_readFiles_43o, uX4_readFiles_43f, uX4_readFiles_44, uX4_readFiles_47, uX4_readFiles_48, uX4_readFiles_50, uX4_readFiles_53, uX4_readFiles_56, uX4_readFiles_56o, uX4_readFiles_56f, uX4_readFiles_57, uX4_readFiles_60, uX4_readFiles_60o, uX4_readFiles_60f, uX4_readFiles_61, uX4_readFiles_64, uX4_readFiles_65, uX4_readFiles_67, uX4_readFiles_70, uX4_readFiles_73, uX4_readFiles_75, uX4_readFiles_75o, uX4_readFiles_75f, uX4_readFiles_76, uX4_readFiles_76o, uX4_readFiles_76f, uX4_readFiles_77, uX4_readFiles_80, uX4_readFiles_81, uX4_readFiles_83, uX4_readFiles_86, uX4_readFiles_89, uX4_readFiles_91, uX4_readFiles_93, uX4_readFiles_94, uX4_readFiles_97, uX4_readFiles_100, uX4_readFiles_103, uX4_readFiles_105, uX4_readFiles_106, uX4_readFiles_109, uX4_readFiles_110, uX4_readFiles_111, uX4_readFiles_111o, uX4_readFiles_111f, uX4_readFiles_112, uX4_readFiles_115, uX4_readFiles_118, uX4_readFiles_119, uX4_readFiles_121, uX4_readFiles_122, uX4_readFiles_122o, uX4_readFiles_122f, uX4_readFiles_123, uX4_readFiles_126, uX4_readFiles_129, uX4_readFiles_130, uX4_readFiles_130o, uX4_readFiles_130f, uX4_readFiles_131, uX4_readFiles_134, uX4_readFiles_137, uX4_readFiles_138, uX4_readFiles_138o, uX4_readFiles_138f, uX4_readFiles_139, uX4_readFiles_142, uX4_readFiles_145, uX4_readFiles_146, uX4_readFiles_148, uX4_readFiles_149, uX4_readFiles_149o, uX4_readFiles_149f, uX4_readFiles_150, uX4_readFiles_153, uX4_readFiles_154, uX4_readFiles_157, uX4_readFiles_159, uX4_readFiles_160, uX4_readFiles_163, uX4_readFiles_163o, uX4_readFiles_163f, uX4_readFiles_164, uX4_readFiles_167, uX4_readFiles_168, uX4_readFiles_169, uX4_readFiles_170, uX4_readFiles_173, uX4_readFiles_173o, uX4_readFiles_173f, uX4_readFiles_174, uX4_readFiles_177, uX4_readFiles_178, uX4_readFiles_181, uX4_readFiles_182, uX4_readFiles_185, uX4_readFiles_188, uX4_readFiles_188o, uX4_readFiles_188f, uX4_readFiles_189, uX4_readFiles_192, uX4_readFiles_193, uX4_readFiles_195, uX4_readFiles_198, uX4_readFiles_201, uX4_readFiles_201o, uX4_readFiles_201f, uX4_readFiles_202, uX4_readFiles_205, uX4_readFiles_208, uX4_readFiles_209, uX4_readFiles_212, uX4_readFiles_215, uX4_readFiles_218, uX4_readFiles_219, uX4_readFiles_222, uX4_readFiles_223, pq_C_sI, pq_C_sJ, pq_C_sR, pq_C_sA, pq_L_sI, pq_L_sJ, pq_L_sR, pq_L_sA, pq_I_sI, pq_I_sJ, pq_I_sR, pq_I_sA, pq_J_sI, pq_J_sJ, pq_J_sR, pq_J_sA, pq_R_sI, pq_R_sJ, pq_R_sR, pq_R_sA, pq_N_sI, pq_N_sJ, pq_N_sR, pq_N_sA, pq_S_sI, pq_S_sJ, pq_S_sR, pq_S_sA, pz_rf_s, pz_cut_i, pz_cut_r, pz_cut_n, pz_cut_f, pz_cut_u, pz_cut_o, true_and, and_true, true_or, or_true, Option.toList_some, Option.toList_none, List.cons_append, List.nil_append, Nat.add_left_cancel_iff, Nat.left_eq_add, Nat.add_eq_left, Nat.reduceEqDiff, if_true, if_false, ite_true, ite_false, false_and, and_false, false_or, or_false, reduceIte, reduceCtorEq, and_self, z_4, z_5, z_7, z_8, z_10, z_16, z_20, z_64, not_false_eq_true, l1, l3, b1, fn 5 10 (by decide) (by decide), pl, c4, c_isWithin]
        rcases hv with ⟨s, hs, sl, rfl⟩ | ⟨hs, hv⟩
        · rw [hs] at K1 K0
          have e1 : (0 ≤ nI s ∧ nI s ≤ 4096) ↔ s ≤ 4096 := by
            have a2 := nI_leI (a := s) (b := 4096) (by omega) (by decide)
            exact ⟨fun z => a2.mp z.2, fun z => ⟨nI_le (a := 0) (by omega) (by omega), a2.mpr z⟩⟩
          by_cases s4 : s ≤ 4096
          · rw [if_pos (e1.mpr s4), if_neg (show ¬ (1 : Int32) = 0 by decide)]
            cases ep : plO V (fiO V 5 (some q)) with
            | none =>
              rw [ep] at K1 K0
              rw [show kyOf none = -1 from rfl, if_neg (fun z => z rfl)]
              exact K0 h rfl HF_refl
            | some mm =>
              have m8 : mm ≤ 8 := by
                cases ea : fiO V 5 (some q) with
                | none => rw [ea] at ep; exact absurd ep (by simp [plO])
                | some b =>
                  rw [ea] at ep
                  have e4 : plO V (some b) = if tx V b = 108 then plF 0 (pcnt (tx V) V.length (2 * V.length + 1) (b + 1)) else none := rfl
                  rw [e4] at ep
                  by_cases z : tx V b = 108
                  · rw [if_pos z] at ep
                    cases ec : pcnt (tx V) V.length (2 * V.length + 1) (b + 1) with
                    | none => rw [ec] at ep; exact absurd ep (by simp [plF])
                    | some j =>
                      rw [ec] at ep
                      have e5 : plF 0 (some j) = if 1 ≤ 0 + j ∧ 0 + j ≤ 8 then some (0 + j) else none := rfl
                      rw [e5] at ep
                      split at ep
                      · have := Option.some.inj ep; omega
                      · exact absurd ep (by simp)
                  · rw [if_neg z] at ep; exact absurd ep (by simp)
              rw [ep] at K1 K0
              dsimp only at K1 K0
              rw [if_pos s4] at K1 K0
              dsimp only at K1 K0
              rw [if_pos (show ¬ kyOf (some mm) = -1 from nm1 (by omega)), show kyOf (some mm) = nI mm from rfl]
              have hin : pz_in (nI fs.length) 16 = true := pz_in_nI (by omega) (by decide)
              have hcl := nI_clamp (show fs.length < 2 ^ 31 by omega)
              have a1 : ¬ dr = dr + 1 := by omega
              have a2 : ¬ dr = dr + 2 := by omega
              have a3 : ¬ dr = dr + 3 := by omega
              simp only [enX4_readFiles, uX4_readFiles_0, uX4_readFiles_0o, uX4_readFiles_0f, uX4_readFiles_1, uX4_readFiles_4, uX4_readFiles_5, uX4_readFiles_7, uX4_readFiles_10, uX4_readFiles_13, uX4_readFiles_14, uX4_readFiles_15, uX4_readFiles_15o, uX4_readFiles_15f, uX4_readFiles_16, uX4_readFiles_19, uX4_readFiles_20, uX4_readFiles_23, uX4_readFiles_23o, uX4_readFiles_23f, uX4_readFiles_24, uX4_readFiles_27, uX4_readFiles_28, uX4_readFiles_31, uX4_readFiles_32, uX4_readFiles_33, uX4_readFiles_34, uX4_readFiles_35, uX4_readFiles_36, uX4_readFiles_38, uX4_readFiles_40, uX4_readFiles_43, uX4_readFiles_43o, uX4_readFiles_43f, uX4_readFiles_44, uX4_readFiles_47, uX4_readFiles_48, uX4_readFiles_50, uX4_readFiles_53, uX4_readFiles_56, uX4_readFiles_56o, uX4_readFiles_56f, uX4_readFiles_57, uX4_readFiles_60, uX4_readFiles_60o, uX4_readFiles_60f, uX4_readFiles_61, uX4_readFiles_64, uX4_readFiles_65, uX4_readFiles_67, uX4_readFiles_70, uX4_readFiles_73, uX4_readFiles_75, uX4_readFiles_75o, uX4_readFiles_75f, uX4_readFiles_76, uX4_readFiles_76o, uX4_readFiles_76f, uX4_readFiles_77, uX4_readFiles_80, uX4_readFiles_81, uX4_readFiles_83, uX4_readFiles_86, uX4_readFiles_89, uX4_readFiles_91, uX4_readFiles_93, uX4_readFiles_94, uX4_readFiles_97, uX4_readFiles_100, uX4_readFiles_103, uX4_readFiles_105, uX4_readFiles_106, uX4_readFiles_109, uX4_readFiles_110, uX4_readFiles_111, uX4_readFiles_111o, uX4_readFiles_111f, uX4_readFiles_112, uX4_readFiles_115, uX4_readFiles_118, uX4_readFiles_119, uX4_readFiles_121, uX4_readFiles_122, uX4_readFiles_122o, uX4_readFiles_122f, uX4_readFiles_123, uX4_readFiles_126, uX4_readFiles_129, uX4_readFiles_130, uX4_readFiles_130o, uX4_readFiles_130f, uX4_readFiles_131, uX4_readFiles_134, uX4_readFiles_137, uX4_readFiles_138, uX4_readFiles_138o, uX4_readFiles_138f, uX4_readFiles_139, uX4_readFiles_142, uX4_readFiles_145, uX4_readFiles_146, uX4_readFiles_148, uX4_readFiles_149, uX4_readFiles_149o, uX4_readFiles_149f, uX4_readFiles_150, uX4_readFiles_153, uX4_readFiles_154, uX4_readFiles_157, uX4_readFiles_159, uX4_readFiles_160, uX4_readFiles_163, uX4_readFiles_163o, uX4_readFiles_163f, uX4_readFiles_164, uX4_readFiles_167, uX4_readFiles_168, uX4_readFiles_169, uX4_readFiles_170, uX4_readFiles_173, uX4_readFiles_173o, uX4_readFiles_173f, uX4_readFiles_174, uX4_readFiles_177, uX4_readFiles_178, uX4_readFiles_181, uX4_readFiles_182, uX4_readFiles_185, uX4_readFiles_188, uX4_readFiles_188o, uX4_readFiles_188f, uX4_readFiles_189, uX4_readFiles_192, uX4_readFiles_193, uX4_readFiles_195, uX4_readFiles_198, uX4_readFiles_201, uX4_readFiles_201o, uX4_readFiles_201f, uX4_readFiles_202, uX4_readFiles_205, uX4_readFiles_208, uX4_readFiles_209, uX4_readFiles_212, uX4_readFiles_215, uX4_readFiles_218, uX4_readFiles_219, uX4_readFiles_222, uX4_readFiles_223, pq_C_sI, pq_C_sJ, pq_C_sR, pq_C_sA, pq_L_sI, pq_L_sJ, pq_L_sR, pq_L_sA, pq_I_sI, pq_I_sJ, pq_I_sR, pq_I_sA, pq_J_sI, pq_J_sJ, pq_J_sR, pq_J_sA, pq_R_sI, pq_R_sJ, pq_R_sR, pq_R_sA, pq_N_sI, pq_N_sJ, pq_N_sR, pq_N_sA, pq_S_sI, pq_S_sJ, pq_S_sR, pq_S_sA, pz_rf_s, pz_cut_i, pz_cut_r, pz_cut_n, pz_cut_f, pz_cut_u, pz_cut_o, true_and, and_true, true_or, or_true, Option.toList_some, Option.toList_none, List.cons_append, List.nil_append, Nat.add_left_cancel_iff, Nat.left_eq_add, Nat.add_eq_left, Nat.reduceEqDiff, if_true, if_false, ite_true, ite_false, false_and, and_false, false_or, or_false, reduceIte, reduceCtorEq, and_self, z_4, z_5, z_7, z_8, z_10, z_16, z_20, z_64, not_false_eq_true, l1, l3, l4, b1, t1, t2, t3, t4, t5, t6, t7, t8, t9, t10, hin, hcl, a1, a2, a3, f1, nI_add, nI_1]
              have F2 : HF (drC dr) h (pz_sI (pz_sI (pz_sI (pz_sI (pz_sI h (dr + 1) fs.length (nI s)) (dr + 2) fs.length (nI (fsum fs))) (dr + 3) fs.length (nI mm)) dr 0 (nI (fsum fs + s))) dr 3 (nI (fs.length + 1))) := HF_trans (HF_trans (HF_trans (HF_trans (HF_sI (by simp [drC])) (HF_sI (by simp [drC]))) (HF_sI (by simp [drC]))) (HF_sI (by simp [drC]))) (HF_sI (by simp [drC]))
              have D2 : DF (pz_sI (pz_sI (pz_sI (pz_sI (pz_sI h (dr + 1) fs.length (nI s)) (dr + 2) fs.length (nI (fsum fs))) (dr + 3) fs.length (nI mm)) dr 0 (nI (fsum fs + s))) dr 3 (nI (fs.length + 1))) dr (fs ++ [(s, mm)]) := by
                refine ⟨?_, ?_, fun j hj => ?_⟩
                · rw [fsum_snoc]
                  simp [pq_I_sI]
                · simp [pq_I_sI]
                · rw [List.length_append] at hj
                  have hj' : j < fs.length + 1 := by simpa using hj
                  by_cases ej : j = fs.length
                  · subst ej
                    rw [getD_snoc, List.take_append_of_le_length (Nat.le_refl _), List.take_length]
                    refine ⟨?_, ?_, ?_⟩ <;> simp [pq_I_sI]
                  · obtain ⟨g1, g2, g3⟩ := f3 j (by omega)
                    rw [getD_app1 (by omega), List.take_append_of_le_length (by omega)]
                    refine ⟨?_, ?_, ?_⟩
                    · rw [← g1]; simp [pq_I_sI, ej]
                    · rw [← g2]; simp [pq_I_sI, ej]
                    · rw [← g3]; simp [pq_I_sI, ej]
              have kc : pz_I (pz_sI (pz_sI (pz_sI (pz_sI (pz_sI h (dr + 1) fs.length (nI s)) (dr + 2) fs.length (nI (fsum fs))) (dr + 3) fs.length (nI mm)) dr 0 (nI (fsum fs + s))) dr 3 (nI (fs.length + 1))) dr 1 = c1 := by rw [← hc1]; simp [pq_I_sI]
              have lc : pz_C (pz_sI (pz_sI (pz_sI (pz_sI (pz_sI h (dr + 1) fs.length (nI s)) (dr + 2) fs.length (nI (fsum fs))) (dr + 3) fs.length (nI mm)) dr 0 (nI (fsum fs + s))) dr 3 (nI (fs.length + 1))) 11 = 1 := b1
              generalize pz_sI (pz_sI (pz_sI (pz_sI (pz_sI h (dr + 1) fs.length (nI s)) (dr + 2) fs.length (nI (fsum fs))) (dr + 3) fs.length (nI mm)) dr 0 (nI (fsum fs + s))) dr 3 (nI (fs.length + 1)) = h2 at F2 D2 lc kc
              rw [eo F2]
              simp only [enX4_readFiles, uX4_readFiles_0, uX4_readFiles_0o, uX4_readFiles_0f, uX4_readFiles_1, uX4_readFiles_4, uX4_readFiles_5, uX4_readFiles_7, uX4_readFiles_10, uX4_readFiles_13, uX4_readFiles_14, uX4_readFiles_15, uX4_readFiles_15o, uX4_readFiles_15f, uX4_readFiles_16, uX4_readFiles_19, uX4_readFiles_20, uX4_readFiles_23, uX4_readFiles_23o, uX4_readFiles_23f, uX4_readFiles_24, uX4_readFiles_27, uX4_readFiles_28, uX4_readFiles_31, uX4_readFiles_32, uX4_readFiles_33, uX4_readFiles_34, uX4_readFiles_35, uX4_readFiles_36, uX4_readFiles_38, uX4_readFiles_40, uX4_readFiles_43, uX4_readFiles_43o, uX4_readFiles_43f, uX4_readFiles_44, uX4_readFiles_47, uX4_readFiles_48, uX4_readFiles_50, uX4_readFiles_53, uX4_readFiles_56, uX4_readFiles_56o, uX4_readFiles_56f, uX4_readFiles_57, uX4_readFiles_60, uX4_readFiles_60o, uX4_readFiles_60f, uX4_readFiles_61, uX4_readFiles_64, uX4_readFiles_65, uX4_readFiles_67, uX4_readFiles_70, uX4_readFiles_73, uX4_readFiles_75, uX4_readFiles_75o, uX4_readFiles_75f, uX4_readFiles_76, uX4_readFiles_76o, uX4_readFiles_76f, uX4_readFiles_77, uX4_readFiles_80, uX4_readFiles_81, uX4_readFiles_83, uX4_readFiles_86, uX4_readFiles_89, uX4_readFiles_91, uX4_readFiles_93, uX4_readFiles_94, uX4_readFiles_97, uX4_readFiles_100, uX4_readFiles_103, uX4_readFiles_105, uX4_readFiles_106, uX4_readFiles_109, uX4_readFiles_110, uX4_readFiles_111, uX4_readFiles_111o, uX4_readFiles_111f, uX4_readFiles_112, uX4_readFiles_115, uX4_readFiles_118, uX4_readFiles_119, uX4_readFiles_121, uX4_readFiles_122, uX4_readFiles_122o, uX4_readFiles_122f, uX4_readFiles_123, uX4_readFiles_126, uX4_readFiles_129, uX4_readFiles_130, uX4_readFiles_130o, uX4_readFiles_130f, uX4_readFiles_131, uX4_readFiles_134, uX4_readFiles_137, uX4_readFiles_138, uX4_readFiles_138o, uX4_readFiles_138f, uX4_readFiles_139, uX4_readFiles_142, uX4_readFiles_145, uX4_readFiles_146, uX4_readFiles_148, uX4_readFiles_149, uX4_readFiles_149o, uX4_readFiles_149f, uX4_readFiles_150, uX4_readFiles_153, uX4_readFiles_154, uX4_readFiles_157, uX4_readFiles_159, uX4_readFiles_160, uX4_readFiles_163, uX4_readFiles_163o, uX4_readFiles_163f, uX4_readFiles_164, uX4_readFiles_167, uX4_readFiles_168, uX4_readFiles_169, uX4_readFiles_170, uX4_readFiles_173, uX4_readFiles_173o, uX4_readFiles_173f, uX4_readFiles_174, uX4_readFiles_177, uX4_readFiles_178, uX4_readFiles_181, uX4_readFiles_182, uX4_readFiles_185, uX4_readFiles_188, uX4_readFiles_188o, uX4_readFiles_188f, uX4_readFiles_189, uX4_readFiles_192, uX4_readFiles_193, uX4_readFiles_195, uX4_readFiles_198, uX4_readFiles_201, uX4_readFiles_201o, uX4_readFiles_201f, uX4_readFiles_202, uX4_readFiles_205, uX4_readFiles_208, uX4_readFiles_209, uX4_readFiles_212, uX4_readFiles_215, uX4_readFiles_218, uX4_readFiles_219, uX4_readFiles_222, uX4_readFiles_223, pq_C_sI, pq_C_sJ, pq_C_sR, pq_C_sA, pq_L_sI, pq_L_sJ, pq_L_sR, pq_L_sA, pq_I_sI, pq_I_sJ, pq_I_sR, pq_I_sA, pq_J_sI, pq_J_sJ, pq_J_sR, pq_J_sA, pq_R_sI, pq_R_sJ, pq_R_sR, pq_R_sA, pq_N_sI, pq_N_sJ, pq_N_sR, pq_N_sA, pq_S_sI, pq_S_sJ, pq_S_sR, pq_S_sA, pz_rf_s, pz_cut_i, pz_cut_r, pz_cut_n, pz_cut_f, pz_cut_u, pz_cut_o, true_and, and_true, true_or, or_true, Option.toList_some, Option.toList_none, List.cons_append, List.nil_append, Nat.add_left_cancel_iff, Nat.left_eq_add, Nat.add_eq_left, Nat.reduceEqDiff, if_true, if_false, ite_true, ite_false, false_and, and_false, false_or, or_false, reduceIte, reduceCtorEq, and_self, z_4, z_5, z_7, z_8, z_10, z_16, z_20, z_64, not_false_eq_true, nI_1]
              rw [VL_bhd (VE_VL HV)] at K1 K0
              have le1 : (fs ++ [(s, mm)]).length = fs.length + 1 := by simp
              have := ih u F e (fs ++ [(s, mm)]) h2 (.int (nI s)) (.int (nI mm)) Q c1 (by omega) (BT_dr B' hd hr F2) (LD_fr L' F2) (DE_dr hd F2 HD2) (by omega) (by rw [fsum_snoc, le1]; omega) (by omega) D2 kc rfl (fun h' fs' z y F3 D3 k3 => K1 h' fs' z y (HF_trans F2 F3) D3 k3) (fun h' z F3 => K0 h' z (HF_trans F2 F3))
              rw [le1] at this
              exact this
          · rw [if_neg (fun z => s4 (e1.mp z)), if_pos rfl]
            refine K0 h ?_ HF_refl
            cases plO V (fiO V 5 (some q)) with
            | none => rfl
            | some mm => dsimp only; rw [if_neg s4]
        · rw [if_neg (show ¬ (0 ≤ v ∧ v ≤ 4096) from fun z => absurd z.1 (i32_nle.mpr hv)), if_pos rfl]
          refine K0 h ?_ HF_refl
          rw [hs]
end
