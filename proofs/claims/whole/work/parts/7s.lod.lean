/-! ===== the reference: load ===== -/
theorem ub_8 (b : Int8) : (nI (ub b)).toInt8 = b := by
  rw [← ub_and, Int32.toInt8_and, i88]
  have : (255 : Int32).toInt8 = -1 := by decide
  rw [this]
  simp
def tx (l : List Int8) (i : Nat) : Nat := if i < l.length then ub (l.getD i 0) else 256
theorem tx_lt {l : List Int8} {i : Nat} (h : i < l.length) : tx l i = ub (l.getD i 0) := if_pos h
theorem b8_ub (b : Int8) : b8 (ub b) = b.toInt32 := by
  unfold b8
  rw [ub_8]
theorem TX_of {f : Nat → Int32} {l : List Int8} (h : SEG f 0 l) (hl : l.length ≤ 6000) : TX f l.length (tx l) := by
  refine ⟨hl, fun p => ⟨fun hp => ?_, fun hp => ?_⟩⟩
  · unfold tx
    rw [if_pos hp, b8_ub]
    have := h p hp
    rw [Nat.zero_add] at this
    exact ⟨this, ub_lt _⟩
  · unfold tx
    rw [if_neg (by omega)]
theorem metaR_cd {x : Nat → Nat} {n cd : Nat} (h : metaR x n = .error cd) : 2 ≤ cd ∧ cd ≤ 6 := by
  unfold metaR at h
  have inj : ∀ k, (Except.error k : Except Nat (Nat × Nat × List (Nat × Nat) × Nat × Nat)) = .error cd → k = cd := fun k z => by injection z
  split at h
  · have := inj _ h; omega
  · split at h
    · split at h
      · split at h
        · have := inj _ h; omega
        · split at h
          · split at h
            · have := inj _ h; omega
            · split at h
              · have := inj _ h; omega
              · split at h
                · exact absurd h (by simp)
                · have := inj _ h; omega
          · have := inj _ h; omega
      · have := inj _ h; omega
    · have := inj _ h; omega
/-- what a text that holds METAINFO makes of the state -/
def ldA (A : St) (V0 : List Int8) (l c : Nat) (fs : List (Nat × Nat)) (q i : Nat) : St :=
  (pz_u2 (pz_u2 (pz_u2 (pz_u2 (sB A) 0 18 (nI l)) 0 19 (nI c)) 0 20 (nI (nPc l c))) 0 21 (nI fs.length), sW A,
   upf (upf (sV A) 2 (shaL (ofF (fun t => V0.getD (i + t) 0) (bhd (tx V0) V0.length i - i)))) 3 (ofF (fun j => V0.getD (stE (tx V0) q + 1 + j) 0) (20 * nPc l c)), sD A, sL A, fs)
def lodA (A : St) : Int32 × St :=
  if ivOk (tx (sV A 0)) (sV A 0).length = true then
    (match metaR (tx (sV A 0)) (sV A 0).length with
     | .error cd => (nI cd, (pz_u2 (sB A) 0 27 (-1), (stV A 0 []).2))
     | .ok (l, c, fs, q, i) => (0, anA (ldA (pz_u2 (pz_u2 (sB A) 0 27 (-1)) 0 17 0, (stV A 0 []).2) (sV A 0) l c fs q i) 4))
  else (1, (pz_u2 (sB A) 0 27 (nI (ivW (tx (sV A 0)) (sV A 0).length)), (stV A 0 []).2))
section
variable {d : Nat} {h : PzH} {Q : Option Value → PzH → Prop} {mo : Nat} {g : Tb} {A : St}
theorem RM_0 {j : Nat} {v : Int32} {l : List Int8} (h : RM g A l) (hj : j ∈ [17, 18, 19, 20, 21, 27]) : RM (pz_u2 g 0 j v) (pz_u2 (sB A) 0 j v, A.2) l := by
  have hc : j = 17 ∨ j = 18 ∨ j = 19 ∨ j = 20 ∨ j = 21 ∨ j = 27 := by simpa using hj
  obtain ⟨⟨⟨h1, h2, h3, h4, h5, h6, h7, h8, h9, h10, h11⟩, h12⟩, h13, h14⟩ := h
  rcases hc with rfl | rfl | rfl | rfl | rfl | rfl
  all_goals exact ⟨⟨⟨h1, h2, FLE_u2 h3, h4, h5, h6, h7, h8, h9, h10, h11⟩, h12⟩, h13, h14⟩
theorem g_load (H : MO h mo) (R : RM g A []) (hl : (sV A 0).length ≤ 6000) (K : ∀ g', RM g' (lodA A).2 [] → Q (some (.int (lodA A).1)) (mh h mo g')) : pz_M (d + 9) mX10_load [.ref mo] (mh h mo g) Q := by
  have t2 : g 0 2 = nI (sV A 0).length := R.1.1.1.1
  have R0 := RM_used R
  simp only [enX10_load, uX10_load_0, uX10_load_0o, uX10_load_0f, uX10_load_1, uX10_load_1o, uX10_load_1f, uX10_load_2, uX10_load_5, uX10_load_8, uX10_load_8o, uX10_load_8f, uX10_load_9, uX10_load_10, uX10_load_13, uX10_load_13o, uX10_load_13f, uX10_load_14, uX10_load_17, uX10_load_20, uX10_load_20o, uX10_load_20f, uX10_load_21, uX10_load_21o, uX10_load_21f, uX10_load_22, uX10_load_25, uX10_load_28, uX10_load_29, uX10_load_30, uX10_load_30o, uX10_load_30f, uX10_load_31, uX10_load_34, uX10_load_35, uX10_load_36, uX10_load_39, uX10_load_40, uX10_load_41, uX10_load_41o, uX10_load_41f, uX10_load_42, uX10_load_43, uX10_load_46, uX10_load_46o, uX10_load_46f, uX10_load_47, uX10_load_50, uX10_load_51, mo_C H, mo_R_hello H, mo_C_hello H, mo_L_hello H, pq_C_sI, pq_C_sJ, pq_C_sR, pq_C_sA, pq_L_sI, pq_L_sJ, pq_L_sR, pq_L_sA, pq_I_sI, pq_I_sJ, pq_I_sR, pq_I_sA, pq_J_sI, pq_J_sJ, pq_J_sR, pq_J_sA, pq_R_sI, pq_R_sJ, pq_R_sR, pq_R_sA, pq_N_sI, pq_N_sJ, pq_N_sR, pq_N_sA, pq_S_sI, pq_S_sJ, pq_S_sR, pq_S_sA, pz_rf_s, pz_cut_i, pz_cut_r, pz_cut_n, pz_cut_f, pz_cut_u, pz_cut_o, true_and, and_true, true_or, or_true, Option.toList_some, Option.toList_none, List.cons_append, List.nil_append, Nat.add_left_cancel_iff, Nat.left_eq_add, Nat.add_eq_left, Nat.reduceEqDiff, if_true, if_false, ite_true, ite_false, false_and, and_false, false_or, or_false, reduceIte, reduceCtorEq, and_self, mh_C, mh_L, mh_R, mh_J, mh_I0, mh_I, mh_Ir, mh_sI0, mh_sI, mh_sA, gu_11, gu_22, gu_r, gu_21s, gu_21c, gu_22s, gu_11s, gu_11c, gu_22c, Nat.reduceLeDiff, Nat.reduceLT, ne_eq, not_false_eq_true, not_true_eq_false, Nat.reduceEqDiff, Nat.lt_irrefl, eq_self, z_4, z_5, z_7, z_8, z_10, z_16, z_20, z_64, g_used H, t2]
  have T0 := TX_of R.1.1.1.2 hl
  have R1 : RM (pz_u2 (pz_u2 g 0 2 0) 0 9 (nI (sV A 0).length)) (stV A 0 []) [] := RM_fr (rs := []) (ss := [9]) R0 (FR_2 (by decide)) (by decide) (by decide)
  have R2 := RM_0 (j := 27) (v := -1) R1 (by decide)
  generalize hG : pz_u2 (pz_u2 (pz_u2 g 0 2 0) 0 9 (nI (sV A 0).length)) 0 27 (-1) = G at R2
  have G1 : G 1 = g 1 := by rw [← hG]; rfl
  have T : TX (G 1) (sV A 0).length (tx (sV A 0)) := by rw [G1]; exact T0
  unfold lodA at K
  refine g_isValue H T (by rw [← hG]; rfl) (fun dp o k => ?_)
  have F3 : FR [7, 8] [10, 13] G (GI G (nI (ivW (tx (sV A 0)) (sV A 0).length)) dp o k) := by
    unfold GI
    exact FR_trans (FR_trans (FR_trans (FR_2 (by decide)) (FR_2 (by decide))) (FR_1 (by decide) (by decide))) (FR_1 (by decide) (by decide))
  have R3 := RM_fr R2 F3 (by decide) (by decide)
  have e10 : GI G (nI (ivW (tx (sV A 0)) (sV A 0).length)) dp o k 0 10 = nI (ivW (tx (sV A 0)) (sV A 0).length) := rfl
  generalize hG3 : GI G (nI (ivW (tx (sV A 0)) (sV A 0).length)) dp o k = G3 at R3 e10 F3
  have G31 : G3 1 = G 1 := F3.1 1 (by decide) (by decide)
  have T3 : TX (G3 1) (sV A 0).length (tx (sV A 0)) := by rw [G31]; exact T
  by_cases q : ivOk (tx (sV A 0)) (sV A 0).length = true
  · rw [if_pos q] at K
    simp only [enX10_load, uX10_load_0, uX10_load_0o, uX10_load_0f, uX10_load_1, uX10_load_1o, uX10_load_1f, uX10_load_2, uX10_load_5, uX10_load_8, uX10_load_8o, uX10_load_8f, uX10_load_9, uX10_load_10, uX10_load_13, uX10_load_13o, uX10_load_13f, uX10_load_14, uX10_load_17, uX10_load_20, uX10_load_20o, uX10_load_20f, uX10_load_21, uX10_load_21o, uX10_load_21f, uX10_load_22, uX10_load_25, uX10_load_28, uX10_load_29, uX10_load_30, uX10_load_30o, uX10_load_30f, uX10_load_31, uX10_load_34, uX10_load_35, uX10_load_36, uX10_load_39, uX10_load_40, uX10_load_41, uX10_load_41o, uX10_load_41f, uX10_load_42, uX10_load_43, uX10_load_46, uX10_load_46o, uX10_load_46f, uX10_load_47, uX10_load_50, uX10_load_51, mo_C H, mo_R_hello H, mo_C_hello H, mo_L_hello H, pq_C_sI, pq_C_sJ, pq_C_sR, pq_C_sA, pq_L_sI, pq_L_sJ, pq_L_sR, pq_L_sA, pq_I_sI, pq_I_sJ, pq_I_sR, pq_I_sA, pq_J_sI, pq_J_sJ, pq_J_sR, pq_J_sA, pq_R_sI, pq_R_sJ, pq_R_sR, pq_R_sA, pq_N_sI, pq_N_sJ, pq_N_sR, pq_N_sA, pq_S_sI, pq_S_sJ, pq_S_sR, pq_S_sA, pz_rf_s, pz_cut_i, pz_cut_r, pz_cut_n, pz_cut_f, pz_cut_u, pz_cut_o, true_and, and_true, true_or, or_true, Option.toList_some, Option.toList_none, List.cons_append, List.nil_append, Nat.add_left_cancel_iff, Nat.left_eq_add, Nat.add_eq_left, Nat.reduceEqDiff, if_true, if_false, ite_true, ite_false, false_and, and_false, false_or, or_false, reduceIte, reduceCtorEq, and_self, mh_C, mh_L, mh_R, mh_J, mh_I0, mh_I, mh_Ir, mh_sI0, mh_sI, mh_sA, gu_11, gu_22, gu_r, gu_21s, gu_21c, gu_22s, gu_11s, gu_11c, gu_22c, Nat.reduceLeDiff, Nat.reduceLT, ne_eq, not_false_eq_true, not_true_eq_false, Nat.reduceEqDiff, Nat.lt_irrefl, eq_self, z_4, z_5, z_7, z_8, z_10, z_16, z_20, z_64, if_pos q, show ¬ (1 : Int32) = 0 by decide]
    have hV : VL (tx (sV A 0)) (sV A 0).length none 0 (sV A 0).length := by
      unfold ivOk at q
      split at q
      · exact absurd q (by simp)
      · rename_i e he
        have := of_decide_eq_true q
        subst this
        exact ⟨_, 0, Nat.le_refl _, he⟩
    have C3 : CST G3 := R3.1.1.2.2.2.2.2.2.2.2.2.1
    refine g_meta H T3 C3 hV (fun cd l' f' s' r' hcd => ?_) (fun l c fs q i e g' hm hVi hc hl' hfs hp hq hqn F' e18 e19 e20 e21 eF e13 e14 => ?_)
    · rw [hcd] at K
      have hcd2 := metaR_cd hcd
      simp only [enX10_load, uX10_load_0, uX10_load_0o, uX10_load_0f, uX10_load_1, uX10_load_1o, uX10_load_1f, uX10_load_2, uX10_load_5, uX10_load_8, uX10_load_8o, uX10_load_8f, uX10_load_9, uX10_load_10, uX10_load_13, uX10_load_13o, uX10_load_13f, uX10_load_14, uX10_load_17, uX10_load_20, uX10_load_20o, uX10_load_20f, uX10_load_21, uX10_load_21o, uX10_load_21f, uX10_load_22, uX10_load_25, uX10_load_28, uX10_load_29, uX10_load_30, uX10_load_30o, uX10_load_30f, uX10_load_31, uX10_load_34, uX10_load_35, uX10_load_36, uX10_load_39, uX10_load_40, uX10_load_41, uX10_load_41o, uX10_load_41f, uX10_load_42, uX10_load_43, uX10_load_46, uX10_load_46o, uX10_load_46f, uX10_load_47, uX10_load_50, uX10_load_51, mo_C H, mo_R_hello H, mo_C_hello H, mo_L_hello H, pq_C_sI, pq_C_sJ, pq_C_sR, pq_C_sA, pq_L_sI, pq_L_sJ, pq_L_sR, pq_L_sA, pq_I_sI, pq_I_sJ, pq_I_sR, pq_I_sA, pq_J_sI, pq_J_sJ, pq_J_sR, pq_J_sA, pq_R_sI, pq_R_sJ, pq_R_sR, pq_R_sA, pq_N_sI, pq_N_sJ, pq_N_sR, pq_N_sA, pq_S_sI, pq_S_sJ, pq_S_sR, pq_S_sA, pz_rf_s, pz_cut_i, pz_cut_r, pz_cut_n, pz_cut_f, pz_cut_u, pz_cut_o, true_and, and_true, true_or, or_true, Option.toList_some, Option.toList_none, List.cons_append, List.nil_append, Nat.add_left_cancel_iff, Nat.left_eq_add, Nat.add_eq_left, Nat.reduceEqDiff, if_true, if_false, ite_true, ite_false, false_and, and_false, false_or, or_false, reduceIte, reduceCtorEq, and_self, mh_C, mh_L, mh_R, mh_J, mh_I0, mh_I, mh_Ir, mh_sI0, mh_sI, mh_sA, gu_11, gu_22, gu_r, gu_21s, gu_21c, gu_22s, gu_11s, gu_11c, gu_22c, Nat.reduceLeDiff, Nat.reduceLT, ne_eq, not_false_eq_true, not_true_eq_false, Nat.reduceEqDiff, Nat.lt_irrefl, eq_self, z_4, z_5, z_7, z_8, z_10, z_16, z_20, z_64]
      rw [if_neg (nI_nle (by omega) (by omega))]
      refine K _ (RM_fr (rs := [16, 17]) (ss := [28, 29]) R3 ?_ (by decide) (by decide))
      unfold GF
      exact FR_trans (FR_trans (FR_trans (FR_2 (by decide)) (FR_2 (by decide))) (FR_1 (by decide) (by decide))) (FR_1 (by decide) (by decide))
    · rw [hm] at K
      dsimp only at K
      simp only [enX10_load, uX10_load_0, uX10_load_0o, uX10_load_0f, uX10_load_1, uX10_load_1o, uX10_load_1f, uX10_load_2, uX10_load_5, uX10_load_8, uX10_load_8o, uX10_load_8f, uX10_load_9, uX10_load_10, uX10_load_13, uX10_load_13o, uX10_load_13f, uX10_load_14, uX10_load_17, uX10_load_20, uX10_load_20o, uX10_load_20f, uX10_load_21, uX10_load_21o, uX10_load_21f, uX10_load_22, uX10_load_25, uX10_load_28, uX10_load_29, uX10_load_30, uX10_load_30o, uX10_load_30f, uX10_load_31, uX10_load_34, uX10_load_35, uX10_load_36, uX10_load_39, uX10_load_40, uX10_load_41, uX10_load_41o, uX10_load_41f, uX10_load_42, uX10_load_43, uX10_load_46, uX10_load_46o, uX10_load_46f, uX10_load_47, uX10_load_50, uX10_load_51, mo_C H, mo_R_hello H, mo_C_hello H, mo_L_hello H, pq_C_sI, pq_C_sJ, pq_C_sR, pq_C_sA, pq_L_sI, pq_L_sJ, pq_L_sR, pq_L_sA, pq_I_sI, pq_I_sJ, pq_I_sR, pq_I_sA, pq_J_sI, pq_J_sJ, pq_J_sR, pq_J_sA, pq_R_sI, pq_R_sJ, pq_R_sR, pq_R_sA, pq_N_sI, pq_N_sJ, pq_N_sR, pq_N_sA, pq_S_sI, pq_S_sJ, pq_S_sR, pq_S_sA, pz_rf_s, pz_cut_i, pz_cut_r, pz_cut_n, pz_cut_f, pz_cut_u, pz_cut_o, true_and, and_true, true_or, or_true, Option.toList_some, Option.toList_none, List.cons_append, List.nil_append, Nat.add_left_cancel_iff, Nat.left_eq_add, Nat.add_eq_left, Nat.reduceEqDiff, if_true, if_false, ite_true, ite_false, false_and, and_false, false_or, or_false, reduceIte, reduceCtorEq, and_self, mh_C, mh_L, mh_R, mh_J, mh_I0, mh_I, mh_Ir, mh_sI0, mh_sI, mh_sA, gu_11, gu_22, gu_r, gu_21s, gu_21c, gu_22s, gu_11s, gu_11c, gu_22c, Nat.reduceLeDiff, Nat.reduceLT, ne_eq, not_false_eq_true, not_true_eq_false, Nat.reduceEqDiff, Nat.lt_irrefl, eq_self, z_4, z_5, z_7, z_8, z_10, z_16, z_20, z_64, show ¬ (0 : Int32) < 0 by decide, show (0 : Int32) ≤ 0 by decide, g_anew H]
      have hb := VL_bhd hVi
      obtain ⟨i1, i2⟩ := VL_e T3 hVi
      obtain ⟨s1, s2, s3⟩ := stF_SK hq
      have gV : ∀ k, k < (sV A 0).length → G3 1 k = ((sV A 0).getD k 0).toInt32 := fun k hk => by
        rw [G31, G1]
        have := R.1.1.1.2 k hk
        rwa [Nat.zero_add] at this
      -- the rows that METAINFO writes
      have V2 : SEG (g' 14) 0 (shaL (ofF (fun t => (sV A 0).getD (i + t) 0) (bhd (tx (sV A 0)) (sV A 0).length i - i))) := by
        rw [hb]
        refine SEG_of (fun j hj => ?_)
        rw [Nat.zero_add, e14 j hj, SHA_8, ofF_len]
        refine SHA_c (fun t ht => ?_) hj
        rw [ofF_get ht]
        exact gV (i + t) (by omega)
      have V3 : SEG (g' 13) 0 (ofF (fun j => (sV A 0).getD (stE (tx (sV A 0)) q + 1 + j) 0) (20 * nPc l c)) := by
        refine SEG_of (fun j hj => ?_)
        unfold stEnd at s2
        rw [Nat.zero_add, e13 j hj]
        rw [tx_lt (by omega), b8_ub]
      have r : ∀ a, a ∉ [3, 4, 5, 6, 11, 12, 13, 14, 16, 17] → a ≠ 0 → g' a = G3 a := fun a ha h0 => F'.1 a h0 ha
      have s : ∀ j, j ∉ [5, 18, 19, 20, 21, 28, 29] → g' 0 j = G3 0 j := fun j hj => F'.2 j hj
      obtain ⟨⟨⟨h1, h2, h3, h4, h5, h6, h7, h8, h9, ⟨h10, h10'⟩, h11, h11'⟩, h12⟩, h13, h14⟩ := R3
      have fin : RG0 (pz_u2 g' 0 17 0) (ldA (pz_u2 (pz_u2 (sB A) 0 27 (-1)) 0 17 0, (stV A 0 []).2) (sV A 0) l c fs q i) := by
        refine ⟨?_, ?_, ?_, V2, V3, ?_, ?_, ?_, eF, ⟨?_, ?_⟩, ?_, ?_⟩
        · show BYT (g' 0 2) (g' 1) []
          rw [s 2 (by decide), r 1 (by decide) (by decide)]; exact h1
        · show BYT (g' 0 3) (g' 2) (sV A 1)
          rw [s 3 (by decide), r 2 (by decide) (by decide)]; exact h2
        · intro a j hfl
          have h3' := h3 a j hfl
          unfold ldA
          show pz_u2 g' 0 17 0 a j = pz_u2 (pz_u2 (pz_u2 (pz_u2 (pz_u2 (pz_u2 (sB A) 0 27 (-1)) 0 17 0) 0 18 (nI l)) 0 19 (nI c)) 0 20 (nI (nPc l c))) 0 21 (nI fs.length) a j
          rcases hfl with hfl | ⟨rfl, hj⟩
          · have ha0 : a ≠ 0 := by rintro rfl; revert hfl; decide
            have ha1 : a ∉ [3, 4, 5, 6, 11, 12, 13, 14, 16, 17] := by
              intro z
              revert hfl
              have hz : a = 3 ∨ a = 4 ∨ a = 5 ∨ a = 6 ∨ a = 11 ∨ a = 12 ∨ a = 13 ∨ a = 14 ∨ a = 16 ∨ a = 17 := by simpa using z
              rcases hz with rfl | rfl | rfl | rfl | rfl | rfl | rfl | rfl | rfl | rfl <;> decide
            rw [gu_r ha0, gu_r ha0, gu_r ha0, gu_r ha0, gu_r ha0, gu_r ha0, gu_r ha0, r a ha1 ha0, h3']
            show pz_u2 (sB A) 0 27 (-1) a j = _
            rw [gu_r ha0]
          · have hj' : j = 16 ∨ j = 17 ∨ j = 18 ∨ j = 19 ∨ j = 20 ∨ j = 21 ∨ j = 27 := by simpa [FLs] using hj
            rcases hj' with rfl | rfl | rfl | rfl | rfl | rfl | rfl
            · show g' 0 16 = sB A 0 16
              rw [s 16 (by decide), h3']; rfl
            · rfl
            · show g' 0 18 = nI l
              exact e18
            · show g' 0 19 = nI c
              exact e19
            · show g' 0 20 = nI (nPc l c)
              exact e20
            · show g' 0 21 = nI fs.length
              exact e21
            · show g' 0 27 = -1
              rw [s 27 (by decide), h3']; rfl
        · show SEG (g' 15) 0 (sV A 4)
          rw [r 15 (by decide) (by decide)]; exact h6
        · show DSK (g' 19) (sD A)
          rw [r 19 (by decide) (by decide)]; exact h7
        · show WRS (g' 33) (g' 34) (sW A)
          rw [r 33 (by decide) (by decide), r 34 (by decide) (by decide)]; exact h8
        · show ∀ i, i < 41 → g' 9 i = _
          rw [r 9 (by decide) (by decide)]; exact h10
        · show ∀ i, i < 8 → g' 10 i = _
          rw [r 10 (by decide) (by decide)]; exact h10'
        · show ∀ i, i < 20 → g' 36 i = _
          rw [r 36 (by decide) (by decide)]; exact h11
        · show ∀ i, i < 8 → g' 37 i = _
          rw [r 37 (by decide) (by decide)]; exact h11'
      have g50 : pz_u2 g' 0 17 0 0 50 = 0 := by
        show g' 0 50 = 0
        rw [s 50 (by decide)]; exact h13
      generalize hZ : ldA (pz_u2 (pz_u2 (sB A) 0 27 (-1)) 0 17 0, (stV A 0 []).2) (sV A 0) l c fs q i = Z at fin K
      have RA := RG_an fin
      have an50 : ∀ n, anG (pz_u2 g' 0 17 0) n 0 50 = 0 := by
        intro n
        induction n with
        | zero => exact g50
        | succ n ih =>
          show paG (pz_u2 (anG (pz_u2 g' 0 17 0) n) 18 n 0) n 5 0 50 = 0
          rw [paG_r (by decide)]
          exact ih
      have an4 := an50 4
      generalize anA Z 4 = Y at RA K
      generalize anG (pz_u2 g' 0 17 0) 4 = G4 at RA an4
      exact K G4 ⟨RA, an4, SEG_nil⟩
  · rw [if_neg q] at K
    simp only [enX10_load, uX10_load_0, uX10_load_0o, uX10_load_0f, uX10_load_1, uX10_load_1o, uX10_load_1f, uX10_load_2, uX10_load_5, uX10_load_8, uX10_load_8o, uX10_load_8f, uX10_load_9, uX10_load_10, uX10_load_13, uX10_load_13o, uX10_load_13f, uX10_load_14, uX10_load_17, uX10_load_20, uX10_load_20o, uX10_load_20f, uX10_load_21, uX10_load_21o, uX10_load_21f, uX10_load_22, uX10_load_25, uX10_load_28, uX10_load_29, uX10_load_30, uX10_load_30o, uX10_load_30f, uX10_load_31, uX10_load_34, uX10_load_35, uX10_load_36, uX10_load_39, uX10_load_40, uX10_load_41, uX10_load_41o, uX10_load_41f, uX10_load_42, uX10_load_43, uX10_load_46, uX10_load_46o, uX10_load_46f, uX10_load_47, uX10_load_50, uX10_load_51, mo_C H, mo_R_hello H, mo_C_hello H, mo_L_hello H, pq_C_sI, pq_C_sJ, pq_C_sR, pq_C_sA, pq_L_sI, pq_L_sJ, pq_L_sR, pq_L_sA, pq_I_sI, pq_I_sJ, pq_I_sR, pq_I_sA, pq_J_sI, pq_J_sJ, pq_J_sR, pq_J_sA, pq_R_sI, pq_R_sJ, pq_R_sR, pq_R_sA, pq_N_sI, pq_N_sJ, pq_N_sR, pq_N_sA, pq_S_sI, pq_S_sJ, pq_S_sR, pq_S_sA, pz_rf_s, pz_cut_i, pz_cut_r, pz_cut_n, pz_cut_f, pz_cut_u, pz_cut_o, true_and, and_true, true_or, or_true, Option.toList_some, Option.toList_none, List.cons_append, List.nil_append, Nat.add_left_cancel_iff, Nat.left_eq_add, Nat.add_eq_left, Nat.reduceEqDiff, if_true, if_false, ite_true, ite_false, false_and, and_false, false_or, or_false, reduceIte, reduceCtorEq, and_self, mh_C, mh_L, mh_R, mh_J, mh_I0, mh_I, mh_Ir, mh_sI0, mh_sI, mh_sA, gu_11, gu_22, gu_r, gu_21s, gu_21c, gu_22s, gu_11s, gu_11c, gu_22c, Nat.reduceLeDiff, Nat.reduceLT, ne_eq, not_false_eq_true, not_true_eq_false, Nat.reduceEqDiff, Nat.lt_irrefl, eq_self, z_4, z_5, z_7, z_8, z_10, z_16, z_20, z_64, if_neg q, e10]
    refine K _ ?_
    have R4 := RM_0 (j := 27) (v := nI (ivW (tx (sV A 0)) (sV A 0).length)) R3 (by decide)
    refine cast (congrArg (fun z => RM _ z []) ?_) R4
    show ((pz_u2 (pz_u2 (sB A) 0 27 (-1)) 0 27 _, _) : St) = _
    rw [gu_22s]
end
