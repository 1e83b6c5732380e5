/-! ===== the class: part ===== -/
section
variable {cs : List Nat} {h h' : PzH} {A A' : St}
theorem TR_fr {t : Nat} (T : TR h A t) (f : HF cs h h') (hc : ∀ x, t ≤ x → x ≤ t + 7 → x ∉ cs) (e0 : ∀ j, sB A' 0 j = sB A 0 j) (eV : sV A' = sV A) (eF : sF A' = sF A) : TR h' A' t := by
  obtain ⟨t0, t1, t2, t3, tf, w1, w2⟩ := T
  have f8 := f.2.2.2.2.2.2.2.1
  unfold TR
  rw [f8 t (hc t (by omega) (by omega)), f8 (t + 1) (hc _ (by omega) (by omega)), f8 (t + 2) (hc _ (by omega) (by omega)), f8 (t + 3) (hc _ (by omega) (by omega)), e0, e0, e0, e0, eV, eF]
  exact ⟨t0, t1, t2, t3, tf, ROW_fr w1 f (hc _ (by omega) (by omega)) (hc _ (by omega) (by omega)), ROW_fr w2 f (hc _ (by omega) (by omega)) (hc _ (by omega) (by omega))⟩
theorem TRS_fr (T : TRS h A) (f : HF cs h h') (hc : ∀ x, 15 ≤ x → x ≤ 35 → x ∉ cs) (e0 : ∀ j, sB A' 0 j = sB A 0 j) (eV : sV A' = sV A) (eF : sF A' = sF A) : TRS h' A' := by
  obtain ⟨t, ht, r1, r2, T, ⟨l1, w1⟩, ⟨l2, w2⟩⟩ := T
  have fR := f.2.2.1
  refine ⟨t, ht, by rw [fR]; exact r1, by rw [fR]; exact r2, TR_fr T f (fun x h1 h2 => hc x (by omega) (by omega)) e0 eV eF, ⟨l1, ROW_fr w1 f (hc _ (by omega) (by omega)) (hc _ (by omega) (by omega))⟩, ⟨l2, ROW_fr w2 f (hc _ (by omega) (by omega)) (hc _ (by omega) (by omega))⟩⟩
theorem CR_fr {k : Nat} (C : CR h A k) (f : HF cs h h') (hc : ∀ x, 36 + 4 * k ≤ x → x ≤ 39 + 4 * k → x ∉ cs) (e : ∀ r, r ∈ [18, 20, 21, 22] → sB A' r = sB A r) (eD : sD A' = sD A) : CR h' A' k := by
  obtain ⟨c0, ⟨l, w⟩, c1⟩ := C
  have f8 := f.2.2.2.2.2.2.2.1
  have f9 := f.2.2.2.2.2.2.2.2
  unfold CR
  rw [f8 (36 + 4 * k) (hc _ (by omega) (by omega)), f8 (39 + 4 * k) (hc _ (by omega) (by omega)), f9 (36 + 4 * k) (hc _ (by omega) (by omega)), e 18 (by decide), e 20 (by decide), e 21 (by decide), e 22 (by decide), eD]
  refine ⟨c0, ⟨l, ROW_fr w f (hc _ (by omega) (by omega)) (hc _ (by omega) (by omega))⟩, fun z => ?_⟩
  obtain ⟨d1, d2⟩ := c1 z
  exact ⟨ROW_fr d1 f (hc _ (by omega) (by omega)) (hc _ (by omega) (by omega)), d2⟩
theorem BYS_fr (B : BYS h A) (f : HF cs h h') (hc : ∀ x, x ≤ 6 → x ∉ cs) (e0 : ∀ j, sB A' 0 j = sB A 0 j) (eV : sV A' = sV A) : BYS h' A' := by
  obtain ⟨b1, b2, b3, b4⟩ := B
  have f8 := f.2.2.2.2.2.2.2.1
  unfold BYS
  rw [f8 0 (hc _ (by omega)), e0, e0, eV]
  exact ⟨ROW_fr b1 f (hc _ (by omega)) (hc _ (by omega)), ROW_fr b2 f (hc _ (by omega)) (hc _ (by omega)), ROW_fr b3 f (hc _ (by omega)) (hc _ (by omega)), b4⟩
theorem JNK_fr (J : JNK h) (f : HF cs h h') (hc : ∀ x, (x = 26 ∨ x = 27 ∨ 133 ≤ x) → x ∉ cs) : JNK h' := by
  obtain ⟨⟨l1, w1⟩, ⟨l2, w2⟩, ⟨l3, w3⟩⟩ := J
  exact ⟨⟨l1, ROW_fr w1 f (hc _ (by omega)) (hc _ (by omega))⟩, ⟨l2, ROW_fr w2 f (hc _ (by omega)) (hc _ (by omega))⟩, ⟨l3, ROW_fr w3 f (hc _ (by omega)) (hc _ (by omega))⟩⟩
theorem lk_ne {a b x y : Nat} (ha : a < 5) (hb : b < 5) (hab : a ≠ b) (hx : x < 5) (hy : y < 5) (hxy : x ≠ y) (hn : ¬ (x = a ∧ y = b)) : ∀ z, z ∈ lkC (5 * x + y) → z ∉ lkC (5 * a + b) := by
  intro z h1 h2
  rw [lkC_m] at h1 h2
  have l1 := lkA_in (k := 5 * x + y) (by omega) (by omega)
  have l2 := lkA_in (k := 5 * a + b) (by omega) (by omega)
  have : lkA (5 * x + y) = lkA (5 * a + b) := by omega
  have := lkA_inj (by omega) (by omega) (by omega) (by omega) this
  exact hn (k_inj hy hb this)
theorem cl_26 {a b r j : Nat} {w : Int32} (hr : r ∈ [26, 27]) (h1 : j ≠ 5 * a + b) (h2 : j ≠ 5 * b + a) : sB (clA A a b w) r j = sB A r j := by
  have hc : r = 26 ∨ r = 27 := by simpa using hr
  show clG (sB A) a b w r j = _
  unfold clG fo fo7
  rcases hc with rfl | rfl <;> simp [gu_11, gu_22, h1, h2]
/-- two links of the heap are closed: the state that is told -/
theorem RC_cl {a b : Nat} {w : Int32} (R : RC h A) (ha : a < 5) (hb : b < 5) (hab : a ≠ b) (f : HF (lkC (5 * a + b) ++ lkC (5 * b + a)) h h') (Z1 : LZ h' a b w) (Z2 : LZ h' b a w) : RC h' (clA A a b w) := by
  obtain ⟨C, T, B, CL, LL, J⟩ := R
  have l1 := lkA_in (k := 5 * a + b) (by omega) (by omega)
  have l2 := lkA_in (k := 5 * b + a) (by omega) (by omega)
  have out : ∀ x, (x < 52 ∨ 131 < x) → x ∉ lkC (5 * a + b) ++ lkC (5 * b + a) := by
    intro x hx z
    rw [List.mem_append, lkC_m, lkC_m] at z
    omega
  refine ⟨CO_fr C f, TRS_fr T f (fun x h1 h2 => out x (by omega)) (fun j => rfl) rfl rfl, BYS_fr B f (fun x hx => out x (by omega)) (fun j => rfl) rfl, fun k hk => CR_fr (CL k hk) f (fun x h1 h2 => out x (by omega)) (fun r hr => cl_r hr) rfl, fun x y hx hy hxy => ?_, JNK_fr J f (fun x hx => out x (by omega))⟩
  by_cases e1 : x = a ∧ y = b
  · obtain ⟨rfl, rfl⟩ := e1
    exact LZ_LR Z1 (Or.inl ⟨rfl, rfl⟩)
  · by_cases e2 : x = b ∧ y = a
    · obtain ⟨rfl, rfl⟩ := e2
      exact LZ_LR Z2 (Or.inr ⟨rfl, rfl⟩)
    · have n1 : 5 * x + y ≠ 5 * a + b := fun z => e1 (k_inj hy hb z)
      have n2 : 5 * x + y ≠ 5 * b + a := fun z => e2 (k_inj hy ha z)
      have n3 : 5 * y + x ≠ 5 * a + b := fun z => by have := k_inj hx hb z; exact e2 ⟨this.2, this.1⟩
      have n4 : 5 * y + x ≠ 5 * b + a := fun z => by have := k_inj hx ha z; exact e1 ⟨this.2, this.1⟩
      refine LR_A (LR_fr (LL x y hx hy hxy) f (fun z hz => ?_)) (fun r hr => ?_) (fun q hq => ?_) ?_ ?_
      · rw [List.mem_append, not_or]
        exact ⟨lk_ne ha hb hab hx hy hxy e1 z hz, lk_ne hb ha hab.symm hx hy hxy e2 z hz⟩
      · have hc : r ∈ [23, 24, 25, 28, 29] ∨ r ∈ [26, 27] ∨ r = 31 := by
          simp only [List.mem_cons, List.not_mem_nil, or_false] at hr ⊢
          omega
        rcases hc with hc | hc | rfl
        · rw [cl_v hc, if_neg n2, if_neg n1]
        · exact cl_26 hc n1 n2
        · rw [cl_31, if_neg n2, if_neg n1]
      · rw [cl_30, fil_out (by omega), fil_out (by omega)]
      · show upf (upf (sL A) _ _) _ _ _ = _
        rw [upf_n n2, upf_n n1]
      · show upf (upf (sW A) _ _) _ _ _ = _
        rw [upf_n n4, upf_n n3]
end
section
variable {d : Nat} {h : PzH} {Q : Option Value → PzH → Prop} {A : St}
theorem c_part (R : RC h A) {a b : Nat} {w : Int32} (ha : a < 5) (hb : b < 5) (hab : a ≠ b) (K : ∀ h', HF (lkC (5 * a + b) ++ lkC (5 * b + a)) h h' → RC h' (clA A a b w) → Q none h') : pz_M (d + 3) mX5_part [.ref 23, .int (nI a), .int (nI b), .int w] h Q := by
  have C := R.1
  have n1 := C.2.2.2.2.2.1.1
  simp only [enX5_part, uX5_part_0, uX5_part_0o, uX5_part_0f, uX5_part_1, uX5_part_2, uX5_part_3, uX5_part_6, uX5_part_6o, uX5_part_8, uX5_part_8o, uX5_part_8f, uX5_part_9, uX5_part_10, uX5_part_11, uX5_part_14, uX5_part_14o, uX5_part_16, uX5_part_16o, uX5_part_16f, uX5_part_18, uX5_part_18a, uX5_part_21, uX5_part_21o, uX5_part_21f, uX5_part_23, uX5_part_23a, uX5_part_26, uX5_part_26o, uX5_part_26f, uX5_part_28, uX5_part_29, uX5_part_32, uX5_part_32o, uX5_part_32f, uX5_part_34, uX5_part_35, uX5_part_38, pq_C_sI, pq_C_sJ, pq_C_sR, pq_C_sA, pq_L_sI, pq_L_sJ, pq_L_sR, pq_L_sA, pq_I_sI, pq_I_sJ, pq_I_sR, pq_I_sA, pq_J_sI, pq_J_sJ, pq_J_sR, pq_J_sA, pq_R_sI, pq_R_sJ, pq_R_sR, pq_R_sA, pq_N_sI, pq_N_sJ, pq_N_sR, pq_N_sA, pq_S_sI, pq_S_sJ, pq_S_sR, pq_S_sA, pz_rf_s, pz_cut_i, pz_cut_r, pz_cut_n, pz_cut_f, pz_cut_u, pz_cut_o, true_and, and_true, true_or, or_true, Option.toList_some, Option.toList_none, List.cons_append, List.nil_append, Nat.add_left_cancel_iff, Nat.left_eq_add, Nat.add_eq_left, Nat.reduceEqDiff, if_true, if_false, ite_true, ite_false, false_and, and_false, false_or, or_false, reduceIte, reduceCtorEq, and_self, z_4, z_5, z_7, z_8, z_10, z_16, z_20, z_64, not_false_eq_true, n1, c_linkOf C, lkO_of ha hb hab, lkO_of hb ha hab.symm]
  have k1 := (C.2.2.2.2.2.2.2.1 (5 * a + b) (by omega) (by omega)).2.1
  simp only [k1, true_and]
  refine c_finish C ha hb hab (R.2.2.2.2.1 a b ha hb hab) (fun h1 F1 Z1 => ?_)
  have C1 := CO_fr C F1
  have L2 := LR_fr (R.2.2.2.2.1 b a hb ha hab.symm) F1 (lk_ne ha hb hab hb ha hab.symm (fun z => hab z.2))
  have k2 := (C1.2.2.2.2.2.2.2.1 (5 * b + a) (by omega) (by omega)).2.1
  simp only [enX5_part, uX5_part_0, uX5_part_0o, uX5_part_0f, uX5_part_1, uX5_part_2, uX5_part_3, uX5_part_6, uX5_part_6o, uX5_part_8, uX5_part_8o, uX5_part_8f, uX5_part_9, uX5_part_10, uX5_part_11, uX5_part_14, uX5_part_14o, uX5_part_16, uX5_part_16o, uX5_part_16f, uX5_part_18, uX5_part_18a, uX5_part_21, uX5_part_21o, uX5_part_21f, uX5_part_23, uX5_part_23a, uX5_part_26, uX5_part_26o, uX5_part_26f, uX5_part_28, uX5_part_29, uX5_part_32, uX5_part_32o, uX5_part_32f, uX5_part_34, uX5_part_35, uX5_part_38, pq_C_sI, pq_C_sJ, pq_C_sR, pq_C_sA, pq_L_sI, pq_L_sJ, pq_L_sR, pq_L_sA, pq_I_sI, pq_I_sJ, pq_I_sR, pq_I_sA, pq_J_sI, pq_J_sJ, pq_J_sR, pq_J_sA, pq_R_sI, pq_R_sJ, pq_R_sR, pq_R_sA, pq_N_sI, pq_N_sJ, pq_N_sR, pq_N_sA, pq_S_sI, pq_S_sJ, pq_S_sR, pq_S_sA, pz_rf_s, pz_cut_i, pz_cut_r, pz_cut_n, pz_cut_f, pz_cut_u, pz_cut_o, true_and, and_true, true_or, or_true, Option.toList_some, Option.toList_none, List.cons_append, List.nil_append, Nat.add_left_cancel_iff, Nat.left_eq_add, Nat.add_eq_left, Nat.reduceEqDiff, if_true, if_false, ite_true, ite_false, false_and, and_false, false_or, or_false, reduceIte, reduceCtorEq, and_self, z_4, z_5, z_7, z_8, z_10, z_16, z_20, z_64, not_false_eq_true, k2]
  refine c_finish C1 hb ha hab.symm L2 (fun h2 F2 Z2 => ?_)
  simp only [enX5_part, uX5_part_0, uX5_part_0o, uX5_part_0f, uX5_part_1, uX5_part_2, uX5_part_3, uX5_part_6, uX5_part_6o, uX5_part_8, uX5_part_8o, uX5_part_8f, uX5_part_9, uX5_part_10, uX5_part_11, uX5_part_14, uX5_part_14o, uX5_part_16, uX5_part_16o, uX5_part_16f, uX5_part_18, uX5_part_18a, uX5_part_21, uX5_part_21o, uX5_part_21f, uX5_part_23, uX5_part_23a, uX5_part_26, uX5_part_26o, uX5_part_26f, uX5_part_28, uX5_part_29, uX5_part_32, uX5_part_32o, uX5_part_32f, uX5_part_34, uX5_part_35, uX5_part_38, pq_C_sI, pq_C_sJ, pq_C_sR, pq_C_sA, pq_L_sI, pq_L_sJ, pq_L_sR, pq_L_sA, pq_I_sI, pq_I_sJ, pq_I_sR, pq_I_sA, pq_J_sI, pq_J_sJ, pq_J_sR, pq_J_sA, pq_R_sI, pq_R_sJ, pq_R_sR, pq_R_sA, pq_N_sI, pq_N_sJ, pq_N_sR, pq_N_sA, pq_S_sI, pq_S_sJ, pq_S_sR, pq_S_sA, pz_rf_s, pz_cut_i, pz_cut_r, pz_cut_n, pz_cut_f, pz_cut_u, pz_cut_o, true_and, and_true, true_or, or_true, Option.toList_some, Option.toList_none, List.cons_append, List.nil_append, Nat.add_left_cancel_iff, Nat.left_eq_add, Nat.add_eq_left, Nat.reduceEqDiff, if_true, if_false, ite_true, ite_false, false_and, and_false, false_or, or_false, reduceIte, reduceCtorEq, and_self, z_4, z_5, z_7, z_8, z_10, z_16, z_20, z_64, not_false_eq_true]
  have F12 : HF (lkC (5 * a + b) ++ lkC (5 * b + a)) h h2 := HF_trans (HF_up F1 (fun x hx => List.mem_append_left _ hx)) (HF_up F2 (fun x hx => List.mem_append_right _ hx))
  have Z1' : LZ h2 a b w := by
    have m : ∀ i, i ≤ 3 → lkA (5 * a + b) + i ∉ lkC (5 * b + a) := fun i hi => lk_ne hb ha hab.symm ha hb hab (fun z => hab z.1) _ (lkC_m.mpr (by omega))
    have f8 := F2.2.2.2.2.2.2.2.1 _ (m 0 (by omega))
    have f9 := F2.2.2.2.2.2.2.2.2 _ (m 0 (by omega))
    rw [Nat.add_zero] at f8 f9
    obtain ⟨z0, z1, z3, z4, z5, z6, z7, z8, z9, z10, z12, z13, zw⟩ := Z1
    unfold LZ
    rw [f8, f9]
    exact ⟨z0, z1, z3, z4, z5, z6, z7, z8, z9, z10, z12, z13, ROW_fr zw F2 (m 1 (by omega)) (m 2 (by omega))⟩
  exact K h2 F12 (RC_cl R ha hb hab F12 Z1' Z2)
theorem c_part0 (C : CO h) {a : Nat} {w : Int32} (ha : a < 5) : pz_M (d + 3) mX5_part [.ref 23, .int (nI a), .int (nI a), .int w] h Q ↔ Q none h := by
  have n1 := C.2.2.2.2.2.1.1
  simp only [enX5_part, uX5_part_0, uX5_part_0o, uX5_part_0f, uX5_part_1, uX5_part_2, uX5_part_3, uX5_part_6, uX5_part_6o, uX5_part_8, uX5_part_8o, uX5_part_8f, uX5_part_9, uX5_part_10, uX5_part_11, uX5_part_14, uX5_part_14o, uX5_part_16, uX5_part_16o, uX5_part_16f, uX5_part_18, uX5_part_18a, uX5_part_21, uX5_part_21o, uX5_part_21f, uX5_part_23, uX5_part_23a, uX5_part_26, uX5_part_26o, uX5_part_26f, uX5_part_28, uX5_part_29, uX5_part_32, uX5_part_32o, uX5_part_32f, uX5_part_34, uX5_part_35, uX5_part_38, pq_C_sI, pq_C_sJ, pq_C_sR, pq_C_sA, pq_L_sI, pq_L_sJ, pq_L_sR, pq_L_sA, pq_I_sI, pq_I_sJ, pq_I_sR, pq_I_sA, pq_J_sI, pq_J_sJ, pq_J_sR, pq_J_sA, pq_R_sI, pq_R_sJ, pq_R_sR, pq_R_sA, pq_N_sI, pq_N_sJ, pq_N_sR, pq_N_sA, pq_S_sI, pq_S_sJ, pq_S_sR, pq_S_sA, pz_rf_s, pz_cut_i, pz_cut_r, pz_cut_n, pz_cut_f, pz_cut_u, pz_cut_o, true_and, and_true, true_or, or_true, Option.toList_some, Option.toList_none, List.cons_append, List.nil_append, Nat.add_left_cancel_iff, Nat.left_eq_add, Nat.add_eq_left, Nat.reduceEqDiff, if_true, if_false, ite_true, ite_false, false_and, and_false, false_or, or_false, reduceIte, reduceCtorEq, and_self, z_4, z_5, z_7, z_8, z_10, z_16, z_20, z_64, not_false_eq_true, n1, c_linkOf C, lkO_eq ha]
theorem RC_cla {a : Nat} {w : Int32} (R : RC h A) (ha : a < 5) : RC h (clA A a a w) := by
  obtain ⟨C, T, B, CL, LL, J⟩ := R
  have f : HF [] h h := HF_refl
  refine ⟨C, TRS_fr T f (fun x _ _ => by simp) (fun j => rfl) rfl rfl, BYS_fr B f (fun x hx => by simp) (fun j => rfl) rfl, fun k hk => CR_fr (CL k hk) f (fun x h1 h2 => by simp) (fun r hr => cl_r hr) rfl, fun x y hx hy hxy => ?_, J⟩
  have n1 : 5 * x + y ≠ 5 * a + a := fun z => by have := k_inj hy ha z; omega
  have n3 : 5 * y + x ≠ 5 * a + a := fun z => by have := k_inj hx ha z; omega
  refine LR_A (LL x y hx hy hxy) (fun r hr => ?_) (fun q hq => ?_) ?_ ?_
  · have hc : r ∈ [23, 24, 25, 28, 29] ∨ r ∈ [26, 27] ∨ r = 31 := by
      simp only [List.mem_cons, List.not_mem_nil, or_false] at hr ⊢
      omega
    rcases hc with hc | hc | rfl
    · rw [cl_v hc, if_neg n1, if_neg n1]
    · exact cl_26 hc n1 n1
    · rw [cl_31, if_neg n1, if_neg n1]
  · rw [cl_30, fil_out (by omega), fil_out (by omega)]
  · show upf (upf (sL A) _ _) _ _ _ = _
    rw [upf_n n1, upf_n n1]
  · show upf (upf (sW A) _ _) _ _ _ = _
    rw [upf_n n3, upf_n n3]
/-- cells of links -/
def lkR (x : Nat) : Prop := 52 ≤ x ∧ x ≤ 131
/-- only links differ -/
def HL (h h' : PzH) : Prop := ∃ cs, HF cs h h' ∧ ∀ x, x ∈ cs → lkR x
theorem HL_trans {h1 h2 h3 : PzH} (a : HL h1 h2) (b : HL h2 h3) : HL h1 h3 := by
  obtain ⟨c1, f1, g1⟩ := a
  obtain ⟨c2, f2, g2⟩ := b
  refine ⟨c1 ++ c2, HF_trans (HF_up f1 (fun x hx => List.mem_append_left _ hx)) (HF_up f2 (fun x hx => List.mem_append_right _ hx)), fun x hx => ?_⟩
  rcases List.mem_append.mp hx with z | z
  · exact g1 x z
  · exact g2 x z
theorem HL_refl {h : PzH} : HL h h := ⟨[], HF_refl, by simp⟩
theorem HL_lk {a b : Nat} {h h' : PzH} (ha : a < 5) (hb : b < 5) (hab : a ≠ b) (f : HF (lkC (5 * a + b) ++ lkC (5 * b + a)) h h') : HL h h' := by
  have l1 := lkA_in (k := 5 * a + b) (by omega) (by omega)
  have l2 := lkA_in (k := 5 * b + a) (by omega) (by omega)
  refine ⟨_, f, fun x hx => ?_⟩
  rw [List.mem_append, lkC_m, lkC_m] at hx
  unfold lkR
  omega
theorem c_partA (R : RC h A) {a b : Nat} {w : Int32} (ha : a < 5) (hb : b < 5) (K : ∀ h', HL h h' → RC h' (clA A a b w) → Q none h') : pz_M (d + 3) mX5_part [.ref 23, .int (nI a), .int (nI b), .int w] h Q := by
  by_cases e : a = b
  · subst e
    rw [c_part0 R.1 ha]
    exact K h HL_refl (RC_cla R ha)
  · exact c_part R ha hb e (fun h' F R' => K h' (HL_lk ha hb e F) R')
theorem c_partFromAll (R : RC h A) {a : Nat} (ha : a < 5) (K : ∀ h', HL h h' → RC h' (paA A a 5) → Q none h') : pz_M (d + 4) mX5_partFromAll [.ref 23, .int (nI a)] h Q := by
  simp only [enX5_partFromAll, uX5_partFromAll_0, uX5_partFromAll_1, uX5_partFromAll_3, uX5_partFromAll_4, uX5_partFromAll_7, uX5_partFromAll_7o, uX5_partFromAll_7f, uX5_partFromAll_8, uX5_partFromAll_9, uX5_partFromAll_10, uX5_partFromAll_11, uX5_partFromAll_14, uX5_partFromAll_17, uX5_partFromAll_20, pq_C_sI, pq_C_sJ, pq_C_sR, pq_C_sA, pq_L_sI, pq_L_sJ, pq_L_sR, pq_L_sA, pq_I_sI, pq_I_sJ, pq_I_sR, pq_I_sA, pq_J_sI, pq_J_sJ, pq_J_sR, pq_J_sA, pq_R_sI, pq_R_sJ, pq_R_sR, pq_R_sA, pq_N_sI, pq_N_sJ, pq_N_sR, pq_N_sA, pq_S_sI, pq_S_sJ, pq_S_sR, pq_S_sA, pz_rf_s, pz_cut_i, pz_cut_r, pz_cut_n, pz_cut_f, pz_cut_u, pz_cut_o, true_and, and_true, true_or, or_true, Option.toList_some, Option.toList_none, List.cons_append, List.nil_append, Nat.add_left_cancel_iff, Nat.left_eq_add, Nat.add_eq_left, Nat.reduceEqDiff, if_true, if_false, ite_true, ite_false, false_and, and_false, false_or, or_false, reduceIte, reduceCtorEq, and_self, z_4, z_5, z_7, z_8, z_10, z_16, z_20, z_64, not_false_eq_true]
  refine wp_up 5 (fun i ls h' => ls = [.ref 23, .int (nI a), .int (nI i)] ∧ HL h h' ∧ RC h' (paA A a i)) ?_ ?_ _ _ ⟨rfl, HL_refl, R⟩
  · rintro i ls h' hi ⟨rfl, F, R'⟩ K'
    have n1 := R'.1.2.2.2.2.2.1.1
    rw [uX5_partFromAll_2]
    simp only [enX5_partFromAll, uX5_partFromAll_0, uX5_partFromAll_1, uX5_partFromAll_3, uX5_partFromAll_4, uX5_partFromAll_7, uX5_partFromAll_7o, uX5_partFromAll_7f, uX5_partFromAll_8, uX5_partFromAll_9, uX5_partFromAll_10, uX5_partFromAll_11, uX5_partFromAll_14, uX5_partFromAll_17, uX5_partFromAll_20, pq_C_sI, pq_C_sJ, pq_C_sR, pq_C_sA, pq_L_sI, pq_L_sJ, pq_L_sR, pq_L_sA, pq_I_sI, pq_I_sJ, pq_I_sR, pq_I_sA, pq_J_sI, pq_J_sJ, pq_J_sR, pq_J_sA, pq_R_sI, pq_R_sJ, pq_R_sR, pq_R_sA, pq_N_sI, pq_N_sJ, pq_N_sR, pq_N_sA, pq_S_sI, pq_S_sJ, pq_S_sR, pq_S_sA, pz_rf_s, pz_cut_i, pz_cut_r, pz_cut_n, pz_cut_f, pz_cut_u, pz_cut_o, true_and, and_true, true_or, or_true, Option.toList_some, Option.toList_none, List.cons_append, List.nil_append, Nat.add_left_cancel_iff, Nat.left_eq_add, Nat.add_eq_left, Nat.reduceEqDiff, if_true, if_false, ite_true, ite_false, false_and, and_false, false_or, or_false, reduceIte, reduceCtorEq, and_self, z_4, z_5, z_7, z_8, z_10, z_16, z_20, z_64, not_false_eq_true, n1]
    rw [if_neg (show ¬ (5 : Int32) ≤ nI i from nI_ge hi (by decide))]
    refine c_partA R' ha hi (fun h2 F2 R2 => ?_)
    simp only [enX5_partFromAll, uX5_partFromAll_0, uX5_partFromAll_1, uX5_partFromAll_3, uX5_partFromAll_4, uX5_partFromAll_7, uX5_partFromAll_7o, uX5_partFromAll_7f, uX5_partFromAll_8, uX5_partFromAll_9, uX5_partFromAll_10, uX5_partFromAll_11, uX5_partFromAll_14, uX5_partFromAll_17, uX5_partFromAll_20, pq_C_sI, pq_C_sJ, pq_C_sR, pq_C_sA, pq_L_sI, pq_L_sJ, pq_L_sR, pq_L_sA, pq_I_sI, pq_I_sJ, pq_I_sR, pq_I_sA, pq_J_sI, pq_J_sJ, pq_J_sR, pq_J_sA, pq_R_sI, pq_R_sJ, pq_R_sR, pq_R_sA, pq_N_sI, pq_N_sJ, pq_N_sR, pq_N_sA, pq_S_sI, pq_S_sJ, pq_S_sR, pq_S_sA, pz_rf_s, pz_cut_i, pz_cut_r, pz_cut_n, pz_cut_f, pz_cut_u, pz_cut_o, true_and, and_true, true_or, or_true, Option.toList_some, Option.toList_none, List.cons_append, List.nil_append, Nat.add_left_cancel_iff, Nat.left_eq_add, Nat.add_eq_left, Nat.reduceEqDiff, if_true, if_false, ite_true, ite_false, false_and, and_false, false_or, or_false, reduceIte, reduceCtorEq, and_self, z_4, z_5, z_7, z_8, z_10, z_16, z_20, z_64, not_false_eq_true, nI_1]
    exact K' _ _ ⟨rfl, HL_trans F F2, R2⟩
  · rintro ls h' ⟨rfl, F, R'⟩
    rw [uX5_partFromAll_2]
    simp only [enX5_partFromAll, uX5_partFromAll_0, uX5_partFromAll_1, uX5_partFromAll_3, uX5_partFromAll_4, uX5_partFromAll_7, uX5_partFromAll_7o, uX5_partFromAll_7f, uX5_partFromAll_8, uX5_partFromAll_9, uX5_partFromAll_10, uX5_partFromAll_11, uX5_partFromAll_14, uX5_partFromAll_17, uX5_partFromAll_20, pq_C_sI, pq_C_sJ, pq_C_sR, pq_C_sA, pq_L_sI, pq_L_sJ, pq_L_sR, pq_L_sA, pq_I_sI, pq_I_sJ, pq_I_sR, pq_I_sA, pq_J_sI, pq_J_sJ, pq_J_sR, pq_J_sA, pq_R_sI, pq_R_sJ, pq_R_sR, pq_R_sA, pq_N_sI, pq_N_sJ, pq_N_sR, pq_N_sA, pq_S_sI, pq_S_sJ, pq_S_sR, pq_S_sA, pz_rf_s, pz_cut_i, pz_cut_r, pz_cut_n, pz_cut_f, pz_cut_u, pz_cut_o, true_and, and_true, true_or, or_true, Option.toList_some, Option.toList_none, List.cons_append, List.nil_append, Nat.add_left_cancel_iff, Nat.left_eq_add, Nat.add_eq_left, Nat.reduceEqDiff, if_true, if_false, ite_true, ite_false, false_and, and_false, false_or, or_false, reduceIte, reduceCtorEq, and_self, z_4, z_5, z_7, z_8, z_10, z_16, z_20, z_64, not_false_eq_true]
    rw [if_pos (show (5 : Int32) ≤ nI 5 by decide)]
    exact K h' F R'
end
