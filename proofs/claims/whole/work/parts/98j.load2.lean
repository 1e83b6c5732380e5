/-! ===== the class: load whole ===== -/
def ldC (dr : Nat) : List Nat := [0, 1, 2, 3, 4, 5, 6, 8, 9, 10, 11, 14, dr, dr + 1, dr + 2, dr + 3, dr + 4, dr + 5, dr + 6, dr + 7]
section
variable {d : Nat} {h h' : PzH} {Q : Option Value → PzH → Prop} {A A' : St}
theorem ldC_in {dr x : Nat} (hd : dr = 15 ∨ dr = 28) (hx : x ∈ ldC dr) : x ≤ 22 ∨ 28 ≤ x ∧ x ≤ 35 := by
  unfold ldC at hx
  simp only [List.mem_cons, List.not_mem_nil, or_false] at hx
  omega
theorem rdE_C {dr x : Nat} (hx : x ∈ rdE dr) : x ∈ ldC dr := by
  unfold rdE at hx
  unfold ldC
  simp only [List.mem_cons, List.not_mem_nil, or_false] at hx ⊢
  omega
theorem rdC_C {dr x : Nat} (hx : x ∈ rdC dr) : x ∈ ldC dr := by
  unfold rdC at hx
  unfold ldC
  simp only [List.mem_cons, List.not_mem_nil, or_false] at hx ⊢
  omega
/-- nothing is loaded: TAPE and the place alone are others -/
theorem ld_e (R : RC h A) {t dr : Nat} (htd : t = 15 ∧ dr = 28 ∨ t = 28 ∧ dr = 15) (r1 : pz_R h 23 3 = some t) (L : LD h dr) (T : TR h A t) (w4 : ∃ l, ROW h (dr + 4) (dr + 5) 20 l) (w6 : ∃ l, ROW h (dr + 6) (dr + 7) 1280 l) {h1 h2 : PzH} {v : Int32} (F1 : HF (rdE dr) (pz_sR h 11 0 (some 1)) h1) (F2 : HF [1, 2] h1 h2) (X2 : ROW h2 1 2 6000 []) : RC (pz_sI h2 0 7 v) (pz_u2 (sB A) 0 27 v, (stV A 0 []).2) ∧ HC h (pz_sI h2 0 7 v) := by
  have hd := L.2.2
  have G : HG [0, 1, 2, 10, 11, 14, dr, dr + 1, dr + 2, dr + 3] h (pz_sI h2 0 7 v) := HG_trans (HG_sR (Or.inl ⟨rfl, rfl⟩)) (HG_trans (HG_up (HG_HF F1) (fun x hx => by unfold rdE at hx; simp at hx ⊢; omega)) (HG_trans (HG_up (HG_HF F2) (by simp)) (HG_HF (HF_sI (by simp)))))
  have RR : ∀ x y, ¬ (x = 11 ∧ y = 0) → pz_R (pz_sI h2 0 7 v) x y = pz_R h x y := fun x y z => by
    show pz_R h2 x y = _
    rw [F2.2.2.1, F1.2.2.1, pq_R_sR, if_neg z]
  refine ⟨RC_G R G (fun x hx => by simp at hx; omega) ?_ ?_ rfl rfl rfl (fun r hr => gu_r hr), HC_HG G (fun x hx => by simp at hx; omega)⟩
  · refine TRS_mk htd (by rw [RR 23 3 (by decide)]; exact r1) (by rw [RR 10 2 (by decide)]; exact L.1.2.2.2) (TR_G T G (by omega) (fun x h1 h2 => by simp; omega) (fun j hj => by show pz_u2 (sB A) 0 27 v 0 j = _; rw [gu_22, if_neg (by omega)]) rfl rfl rfl) ?_ ?_
    · obtain ⟨l, w⟩ := w4
      exact ⟨l, ROW_G w G (by simp; omega) (by simp; omega) (by omega)⟩
    · obtain ⟨l, w⟩ := w6
      exact ⟨l, ROW_G w G (by simp; omega) (by simp; omega) (by omega)⟩
  · obtain ⟨b1, b2, b3, b4⟩ := R.2.2.1
    refine ⟨ROW_fr X2 (HF_sI (cs := [0]) (by simp)) (by simp) (by simp), ROW_G b2 G (by simp; omega) (by simp; omega) (by decide), ROW_G b3 G (by simp; omega) (by simp; omega) (by decide), ?_⟩
    rw [pq_I_sI, if_pos ⟨rfl, rfl⟩]
    rfl
/-- what the class's heap tells once METAINFO is another -/
theorem RC_new (R : RC h A) {t dr l c : Nat} {fs : List (Nat × Nat)} {h5 : PzH} (htd : t = 15 ∧ dr = 28 ∨ t = 28 ∧ dr = 15) (L : LD h dr) (T : TR h A t) (G : HG (ldC dr) h h5) (r1 : pz_R h5 23 3 = some dr) (r2 : pz_R h5 10 2 = some t) {v2 v3 : List Int8} (D : DL h5 dr l fs) (i1 : pz_I h5 dr 1 = nI c) (i2 : pz_I h5 dr 2 = nI (nPc l c)) (W4 : ROW h5 (dr + 4) (dr + 5) 20 v2) (W6 : ROW h5 (dr + 6) (dr + 7) 1280 v3) (B' : BYS h5 A') (e18 : sB A' 0 18 = nI l) (e19 : sB A' 0 19 = nI c) (e20 : sB A' 0 20 = nI (nPc l c)) (e21 : sB A' 0 21 = nI fs.length) (eF : sF A' = fs) (e2 : sV A' 2 = v2) (e3 : sV A' 3 = v3) (eW : sW A' = sW A) (eL : sL A' = sL A) (eD : sD A' = sD A) (eB : ∀ r, r ≠ 0 → sB A' r = sB A r) : RC h5 A' := by
  have hd := L.2.2
  refine RC_G R G (fun x hx => ldC_in hd hx) ?_ B' eW eL eD eB
  refine TRS_mk (t := dr) (dr := t) (by omega) r1 r2 ?_ ⟨_, ROW_G T.2.2.2.2.2.1 G (by unfold ldC; simp; omega) (by unfold ldC; simp; omega) (by omega)⟩ ⟨_, ROW_G T.2.2.2.2.2.2 G (by unfold ldC; simp; omega) (by unfold ldC; simp; omega) (by omega)⟩
  unfold TR
  rw [e18, e19, e20, e21, eF, e2, e3]
  exact ⟨D.1, i1, i2, D.2.1, D.2.2, W4, W6⟩
theorem c_handOver {t dr : Nat} (hC : pz_C h 10 = 4) (r2 : pz_R h 10 2 = some dr) : pz_M (d + 1) mX4_handOver [.ref 10, .ref t] h Q ↔ Q (some (.ref dr)) (pz_sR h 10 2 (some t)) := by
  simp only [enX4_handOver, uX4_handOver_0, uX4_handOver_0o, uX4_handOver_0f, uX4_handOver_1, uX4_handOver_4, uX4_handOver_4o, uX4_handOver_5, uX4_handOver_5o, uX4_handOver_5f, uX4_handOver_6, uX4_handOver_6o, uX4_handOver_6f, uX4_handOver_7, uX4_handOver_7o, uX4_handOver_10, uX4_handOver_10o, uX4_handOver_10f, uX4_handOver_11, uX4_handOver_11o, pq_C_sI, pq_C_sJ, pq_C_sR, pq_C_sA, pq_L_sI, pq_L_sJ, pq_L_sR, pq_L_sA, pq_I_sI, pq_I_sJ, pq_I_sR, pq_I_sA, pq_J_sI, pq_J_sJ, pq_J_sR, pq_J_sA, pq_R_sI, pq_R_sJ, pq_R_sR, pq_R_sA, pq_N_sI, pq_N_sJ, pq_N_sR, pq_N_sA, pq_S_sI, pq_S_sJ, pq_S_sR, pq_S_sA, pz_rf_s, pz_cut_i, pz_cut_r, pz_cut_n, pz_cut_f, pz_cut_u, pz_cut_o, true_and, and_true, true_or, or_true, Option.toList_some, Option.toList_none, List.cons_append, List.nil_append, Nat.add_left_cancel_iff, Nat.left_eq_add, Nat.add_eq_left, Nat.reduceEqDiff, if_true, if_false, ite_true, ite_false, false_and, and_false, false_or, or_false, reduceIte, reduceCtorEq, and_self, z_4, z_5, z_7, z_8, z_10, z_16, z_20, z_64, not_false_eq_true, hC, r2]
theorem c_load (R : RC h A) (K : ∀ h', HC h h' → RC h' (lodA A).2 → Q (some (.int (lodA A).1)) h') : pz_M (d + 23) mX9_load [.ref 0] h Q := by
  obtain ⟨s0, s1, s2, s3, s4, s5, s6, s7⟩ := DS_of R
  obtain ⟨t, dr, htd, r1, L, tC, T, w4, w6⟩ := TD_of R
  obtain ⟨o1, o2, o3, o4, o5, o6, o7⟩ := R.1.2.2.1
  have hd := L.2.2
  have n1 := R.1.2.2.2.2.2.1.1
  have W := R.2.2.1.1
  have W1 := W.1
  have WC := R.2.2.1.2.2.1
  have w4' := w4
  have w6' := w6
  obtain ⟨l4, W4⟩ := w4
  obtain ⟨l6, W6⟩ := w6
  unfold lodA at K
  simp only [enX9_load, uX9_load_0, uX9_load_0o, uX9_load_0f, uX9_load_1, uX9_load_4, uX9_load_4o, uX9_load_4f, uX9_load_5, uX9_load_8, uX9_load_11, uX9_load_12, uX9_load_12o, uX9_load_12f, uX9_load_13, uX9_load_16, uX9_load_17, uX9_load_20, uX9_load_20o, uX9_load_20f, uX9_load_21, uX9_load_21o, uX9_load_21f, uX9_load_22, uX9_load_25, uX9_load_28, uX9_load_31, uX9_load_32, uX9_load_35, uX9_load_35o, uX9_load_35f, uX9_load_36, uX9_load_39, uX9_load_40, uX9_load_43, uX9_load_43o, uX9_load_43f, uX9_load_44, uX9_load_47, uX9_load_47o, uX9_load_47f, uX9_load_48, uX9_load_51, uX9_load_51o, uX9_load_51f, uX9_load_52, uX9_load_55, uX9_load_58, uX9_load_61, uX9_load_64, uX9_load_65, pq_C_sI, pq_C_sJ, pq_C_sR, pq_C_sA, pq_L_sI, pq_L_sJ, pq_L_sR, pq_L_sA, pq_I_sI, pq_I_sJ, pq_I_sR, pq_I_sA, pq_J_sI, pq_J_sJ, pq_J_sR, pq_J_sA, pq_R_sI, pq_R_sJ, pq_R_sR, pq_R_sA, pq_N_sI, pq_N_sJ, pq_N_sR, pq_N_sA, pq_S_sI, pq_S_sJ, pq_S_sR, pq_S_sA, pz_rf_s, pz_cut_i, pz_cut_r, pz_cut_n, pz_cut_f, pz_cut_u, pz_cut_o, true_and, and_true, true_or, or_true, Option.toList_some, Option.toList_none, List.cons_append, List.nil_append, Nat.add_left_cancel_iff, Nat.left_eq_add, Nat.add_eq_left, Nat.reduceEqDiff, if_true, if_false, ite_true, ite_false, false_and, and_false, false_or, or_false, reduceIte, reduceCtorEq, and_self, z_4, z_5, z_7, z_8, z_10, z_16, z_20, z_64, not_false_eq_true, s0, s1, s5, o1, W1]
  -- the end of a call that loads nothing
  have bad : ∀ (h1 : PzH) (v cd : Int32), ¬ cd = 0 → HF (rdE dr) (pz_sR h 11 0 (some 1)) h1 → pz_I h1 10 3 = v → (∀ h', HC h h' → RC h' (pz_u2 (sB A) 0 27 v, (stV A 0 []).2) → Q (some (.int cd)) h') → wp (d + 22) mX9_load 11 [.ref 0, .retAddr 0] [.int cd] h1 Q := by
    intro h1 v cd hcd F1 hv K'
    have G1 : HG (rdE dr) h h1 := HG_trans (HG_sR (Or.inl ⟨rfl, rfl⟩)) (HG_HF F1)
    have C1 := CO_G R.1 G1
    have Wa := ROW_G W G1 (by unfold rdE; simp; omega) (by unfold rdE; simp; omega) (by decide)
    have D1 := C1.1
    have Y1 := Wa.1
    simp only [enX9_load, uX9_load_0, uX9_load_0o, uX9_load_0f, uX9_load_1, uX9_load_4, uX9_load_4o, uX9_load_4f, uX9_load_5, uX9_load_8, uX9_load_11, uX9_load_12, uX9_load_12o, uX9_load_12f, uX9_load_13, uX9_load_16, uX9_load_17, uX9_load_20, uX9_load_20o, uX9_load_20f, uX9_load_21, uX9_load_21o, uX9_load_21f, uX9_load_22, uX9_load_25, uX9_load_28, uX9_load_31, uX9_load_32, uX9_load_35, uX9_load_35o, uX9_load_35f, uX9_load_36, uX9_load_39, uX9_load_40, uX9_load_43, uX9_load_43o, uX9_load_43f, uX9_load_44, uX9_load_47, uX9_load_47o, uX9_load_47f, uX9_load_48, uX9_load_51, uX9_load_51o, uX9_load_51f, uX9_load_52, uX9_load_55, uX9_load_58, uX9_load_61, uX9_load_64, uX9_load_65, pq_C_sI, pq_C_sJ, pq_C_sR, pq_C_sA, pq_L_sI, pq_L_sJ, pq_L_sR, pq_L_sA, pq_I_sI, pq_I_sJ, pq_I_sR, pq_I_sA, pq_J_sI, pq_J_sJ, pq_J_sR, pq_J_sA, pq_R_sI, pq_R_sJ, pq_R_sR, pq_R_sA, pq_N_sI, pq_N_sJ, pq_N_sR, pq_N_sA, pq_S_sI, pq_S_sJ, pq_S_sR, pq_S_sA, pz_rf_s, pz_cut_i, pz_cut_r, pz_cut_n, pz_cut_f, pz_cut_u, pz_cut_o, true_and, and_true, true_or, or_true, Option.toList_some, Option.toList_none, List.cons_append, List.nil_append, Nat.add_left_cancel_iff, Nat.left_eq_add, Nat.add_eq_left, Nat.reduceEqDiff, if_true, if_false, ite_true, ite_false, false_and, and_false, false_or, or_false, reduceIte, reduceCtorEq, and_self, z_4, z_5, z_7, z_8, z_10, z_16, z_20, z_64, not_false_eq_true, D1.1, D1.2.1, Y1]
    refine c_cut0 Wa (fun h2 F2 X2 => ?_)
    have c2 : pz_C h2 0 = 9 ∧ pz_R h2 0 4 = some 10 ∧ pz_C h2 10 = 4 := by rw [F2.1, F2.2.2.1]; exact ⟨D1.1, D1.2.2.2.2.2.1, C1.2.2.1.1⟩
    have i2 : pz_I h2 10 3 = v := by rw [F2.2.2.2.2.2.2.2.1 10 (by simp)]; exact hv
    simp only [enX9_load, uX9_load_0, uX9_load_0o, uX9_load_0f, uX9_load_1, uX9_load_4, uX9_load_4o, uX9_load_4f, uX9_load_5, uX9_load_8, uX9_load_11, uX9_load_12, uX9_load_12o, uX9_load_12f, uX9_load_13, uX9_load_16, uX9_load_17, uX9_load_20, uX9_load_20o, uX9_load_20f, uX9_load_21, uX9_load_21o, uX9_load_21f, uX9_load_22, uX9_load_25, uX9_load_28, uX9_load_31, uX9_load_32, uX9_load_35, uX9_load_35o, uX9_load_35f, uX9_load_36, uX9_load_39, uX9_load_40, uX9_load_43, uX9_load_43o, uX9_load_43f, uX9_load_44, uX9_load_47, uX9_load_47o, uX9_load_47f, uX9_load_48, uX9_load_51, uX9_load_51o, uX9_load_51f, uX9_load_52, uX9_load_55, uX9_load_58, uX9_load_61, uX9_load_64, uX9_load_65, pq_C_sI, pq_C_sJ, pq_C_sR, pq_C_sA, pq_L_sI, pq_L_sJ, pq_L_sR, pq_L_sA, pq_I_sI, pq_I_sJ, pq_I_sR, pq_I_sA, pq_J_sI, pq_J_sJ, pq_J_sR, pq_J_sA, pq_R_sI, pq_R_sJ, pq_R_sR, pq_R_sA, pq_N_sI, pq_N_sJ, pq_N_sR, pq_N_sA, pq_S_sI, pq_S_sJ, pq_S_sR, pq_S_sA, pz_rf_s, pz_cut_i, pz_cut_r, pz_cut_n, pz_cut_f, pz_cut_u, pz_cut_o, true_and, and_true, true_or, or_true, Option.toList_some, Option.toList_none, List.cons_append, List.nil_append, Nat.add_left_cancel_iff, Nat.left_eq_add, Nat.add_eq_left, Nat.reduceEqDiff, if_true, if_false, ite_true, ite_false, false_and, and_false, false_or, or_false, reduceIte, reduceCtorEq, and_self, z_4, z_5, z_7, z_8, z_10, z_16, z_20, z_64, not_false_eq_true, c2, i2, hcd]
    obtain ⟨Re, He⟩ := ld_e (v := v) R htd r1 L T w4' w6' F1 F2 X2
    exact K' _ He Re
  refine c_read (hR := pz_sR h 11 0 (some 1)) rfl o4 o5 o6 o7 W (by decide) L R.1.2.1 W4 W6 (fun h1 no F1 hv => ?_) (fun h1 cd ok em F1 hv => ?_) (fun h1 l c fs q i ok em nr F1 hv D1 => ?_)
  · rw [if_neg no] at K
    exact bad h1 _ 1 (by decide) F1 hv K
  · rw [if_pos ok, em] at K
    have c26 := metaR_cd em
    exact bad h1 _ (nI cd) (nI_ne0 (by omega) (by omega)) F1 hv K
  · rw [if_pos ok, em] at K
    dsimp only at K
    have G1 : HG (rdC dr) h h1 := HG_trans (HG_sR (Or.inl ⟨rfl, rfl⟩)) (HG_HF F1)
    have C1 := CO_G R.1 G1
    have Wa := ROW_G W G1 (by unfold rdC; simp; omega) (by unfold rdC; simp; omega) (by decide)
    have D0 := C1.1
    have Y1 := Wa.1
    simp only [enX9_load, uX9_load_0, uX9_load_0o, uX9_load_0f, uX9_load_1, uX9_load_4, uX9_load_4o, uX9_load_4f, uX9_load_5, uX9_load_8, uX9_load_11, uX9_load_12, uX9_load_12o, uX9_load_12f, uX9_load_13, uX9_load_16, uX9_load_17, uX9_load_20, uX9_load_20o, uX9_load_20f, uX9_load_21, uX9_load_21o, uX9_load_21f, uX9_load_22, uX9_load_25, uX9_load_28, uX9_load_31, uX9_load_32, uX9_load_35, uX9_load_35o, uX9_load_35f, uX9_load_36, uX9_load_39, uX9_load_40, uX9_load_43, uX9_load_43o, uX9_load_43f, uX9_load_44, uX9_load_47, uX9_load_47o, uX9_load_47f, uX9_load_48, uX9_load_51, uX9_load_51o, uX9_load_51f, uX9_load_52, uX9_load_55, uX9_load_58, uX9_load_61, uX9_load_64, uX9_load_65, pq_C_sI, pq_C_sJ, pq_C_sR, pq_C_sA, pq_L_sI, pq_L_sJ, pq_L_sR, pq_L_sA, pq_I_sI, pq_I_sJ, pq_I_sR, pq_I_sA, pq_J_sI, pq_J_sJ, pq_J_sR, pq_J_sA, pq_R_sI, pq_R_sJ, pq_R_sR, pq_R_sA, pq_N_sI, pq_N_sJ, pq_N_sR, pq_N_sA, pq_S_sI, pq_S_sJ, pq_S_sR, pq_S_sA, pz_rf_s, pz_cut_i, pz_cut_r, pz_cut_n, pz_cut_f, pz_cut_u, pz_cut_o, true_and, and_true, true_or, or_true, Option.toList_some, Option.toList_none, List.cons_append, List.nil_append, Nat.add_left_cancel_iff, Nat.left_eq_add, Nat.add_eq_left, Nat.reduceEqDiff, if_true, if_false, ite_true, ite_false, false_and, and_false, false_or, or_false, reduceIte, reduceCtorEq, and_self, z_4, z_5, z_7, z_8, z_10, z_16, z_20, z_64, not_false_eq_true, D0.1, D0.2.1, Y1]
    refine c_cut0 Wa (fun h2 F2 X2 => ?_)
    have c2 : pz_C h2 0 = 9 ∧ pz_R h2 0 4 = some 10 ∧ pz_C h2 10 = 4 ∧ pz_R h2 0 2 = some 5 := by rw [F2.1, F2.2.2.1]; exact ⟨D0.1, D0.2.2.2.2.2.1, C1.2.2.1.1, D0.2.2.2.1⟩
    have i2 : pz_I h2 10 3 = -1 := by rw [F2.2.2.2.2.2.2.2.1 10 (by simp)]; exact hv
    have F3 : HF [0] h2 (pz_sI h2 0 7 (-1)) := HF_sI (by simp)
    have i07 : pz_I (pz_sI h2 0 7 (-1)) 0 7 = -1 := by rw [pq_I_sI, if_pos ⟨rfl, rfl⟩]
    have G3 : HG (ldC dr) h (pz_sI h2 0 7 (-1)) := HG_trans (HG_up G1 (fun x => rdC_C)) (HG_trans (HG_up (HG_HF F2) (fun x hx => by unfold ldC; simp at hx ⊢; omega)) (HG_up (HG_HF F3) (fun x hx => by unfold ldC; simp at hx ⊢; omega)))
    have Wc := ROW_fr (ROW_fr (ROW_G WC G1 (by unfold rdC; simp; omega) (by unfold rdC; simp; omega) (by decide)) F2 (by simp) (by simp)) F3 (by simp) (by simp)
    have Y3 := Wc.1
    simp only [enX9_load, uX9_load_0, uX9_load_0o, uX9_load_0f, uX9_load_1, uX9_load_4, uX9_load_4o, uX9_load_4f, uX9_load_5, uX9_load_8, uX9_load_11, uX9_load_12, uX9_load_12o, uX9_load_12f, uX9_load_13, uX9_load_16, uX9_load_17, uX9_load_20, uX9_load_20o, uX9_load_20f, uX9_load_21, uX9_load_21o, uX9_load_21f, uX9_load_22, uX9_load_25, uX9_load_28, uX9_load_31, uX9_load_32, uX9_load_35, uX9_load_35o, uX9_load_35f, uX9_load_36, uX9_load_39, uX9_load_40, uX9_load_43, uX9_load_43o, uX9_load_43f, uX9_load_44, uX9_load_47, uX9_load_47o, uX9_load_47f, uX9_load_48, uX9_load_51, uX9_load_51o, uX9_load_51f, uX9_load_52, uX9_load_55, uX9_load_58, uX9_load_61, uX9_load_64, uX9_load_65, pq_C_sI, pq_C_sJ, pq_C_sR, pq_C_sA, pq_L_sI, pq_L_sJ, pq_L_sR, pq_L_sA, pq_I_sI, pq_I_sJ, pq_I_sR, pq_I_sA, pq_J_sI, pq_J_sJ, pq_J_sR, pq_J_sA, pq_R_sI, pq_R_sJ, pq_R_sR, pq_R_sA, pq_N_sI, pq_N_sJ, pq_N_sR, pq_N_sA, pq_S_sI, pq_S_sJ, pq_S_sR, pq_S_sA, pz_rf_s, pz_cut_i, pz_cut_r, pz_cut_n, pz_cut_f, pz_cut_u, pz_cut_o, true_and, and_true, true_or, or_true, Option.toList_some, Option.toList_none, List.cons_append, List.nil_append, Nat.add_left_cancel_iff, Nat.left_eq_add, Nat.add_eq_left, Nat.reduceEqDiff, if_true, if_false, ite_true, ite_false, false_and, and_false, false_or, or_false, reduceIte, reduceCtorEq, and_self, z_4, z_5, z_7, z_8, z_10, z_16, z_20, z_64, not_false_eq_true, c2, i2, not_true_eq_false, Y3]
    generalize pz_sI h2 0 7 (-1) = h3 at F3 G3 Wc i07
    refine c_cut0 Wc (fun h4 F4 X4 => ?_)
    have F34 : HF [0, 1, 2, 5, 6] h1 h4 := HF_trans (HF_up F2 (by simp)) (HF_trans (HF_up F3 (by simp)) (HF_up F4 (by simp)))
    have G4 : HG (ldC dr) h h4 := HG_trans G3 (HG_up (HG_HF F4) (fun x hx => by unfold ldC; simp at hx ⊢; omega))
    have C4 := CO_G R.1 G4
    have r14 : pz_R h4 23 3 = some t := by rw [F34.2.2.1, F1.2.2.1, pq_R_sR, if_neg (by decide)]; exact r1
    have r24 : pz_R h4 10 2 = some dr := by rw [F34.2.2.1, F1.2.2.1, pq_R_sR, if_neg (by decide)]; exact L.1.2.2.2
    have D4 := C4.1
    simp only [enX9_load, uX9_load_0, uX9_load_0o, uX9_load_0f, uX9_load_1, uX9_load_4, uX9_load_4o, uX9_load_4f, uX9_load_5, uX9_load_8, uX9_load_11, uX9_load_12, uX9_load_12o, uX9_load_12f, uX9_load_13, uX9_load_16, uX9_load_17, uX9_load_20, uX9_load_20o, uX9_load_20f, uX9_load_21, uX9_load_21o, uX9_load_21f, uX9_load_22, uX9_load_25, uX9_load_28, uX9_load_31, uX9_load_32, uX9_load_35, uX9_load_35o, uX9_load_35f, uX9_load_36, uX9_load_39, uX9_load_40, uX9_load_43, uX9_load_43o, uX9_load_43f, uX9_load_44, uX9_load_47, uX9_load_47o, uX9_load_47f, uX9_load_48, uX9_load_51, uX9_load_51o, uX9_load_51f, uX9_load_52, uX9_load_55, uX9_load_58, uX9_load_61, uX9_load_64, uX9_load_65, pq_C_sI, pq_C_sJ, pq_C_sR, pq_C_sA, pq_L_sI, pq_L_sJ, pq_L_sR, pq_L_sA, pq_I_sI, pq_I_sJ, pq_I_sR, pq_I_sA, pq_J_sI, pq_J_sJ, pq_J_sR, pq_J_sA, pq_R_sI, pq_R_sJ, pq_R_sR, pq_R_sA, pq_N_sI, pq_N_sJ, pq_N_sR, pq_N_sA, pq_S_sI, pq_S_sJ, pq_S_sR, pq_S_sA, pz_rf_s, pz_cut_i, pz_cut_r, pz_cut_n, pz_cut_f, pz_cut_u, pz_cut_o, true_and, and_true, true_or, or_true, Option.toList_some, Option.toList_none, List.cons_append, List.nil_append, Nat.add_left_cancel_iff, Nat.left_eq_add, Nat.add_eq_left, Nat.reduceEqDiff, if_true, if_false, ite_true, ite_false, false_and, and_false, false_or, or_false, reduceIte, reduceCtorEq, and_self, z_4, z_5, z_7, z_8, z_10, z_16, z_20, z_64, not_false_eq_true, D4.1, D4.2.2.2.2.2.1, D4.2.2.2.2.2.2.1, C4.2.2.1.1, C4.2.2.2.2.2.1.1, r14, c_handOver C4.2.2.1.1 r24]
    have f8 := F34.2.2.2.2.2.2.2.1
    obtain ⟨⟨dl1, dl2, dl3⟩, di1, di2, dw4, dw6⟩ := D1
    have G5 : HG (ldC dr) h (pz_sR (pz_sR h4 10 2 (some t)) 23 3 (some dr)) := HG_trans G4 (HG_trans (HG_sR (Or.inr (Or.inl ⟨rfl, rfl⟩))) (HG_sR (Or.inr (Or.inr ⟨rfl, rfl⟩))))
    have Gs : HG ([] : List Nat) h4 (pz_sR (pz_sR h4 10 2 (some t)) 23 3 (some dr)) := HG_trans (HG_sR (Or.inr (Or.inl ⟨rfl, rfl⟩))) (HG_sR (Or.inr (Or.inr ⟨rfl, rfl⟩)))
    have R5 : RC (pz_sR (pz_sR h4 10 2 (some t)) 23 3 (some dr)) (ldA (pz_u2 (pz_u2 (sB A) 0 27 (-1)) 0 17 0, (stV A 0 []).2) (sV A 0) l c fs q i) := by
      refine RC_new (l := l) (c := c) (fs := fs) R htd L T G5 ?_ ?_ ⟨?_, ?_, fun j hj => ?_⟩ ?_ ?_ (ROW_G (ROW_fr dw4 F34 (by simp <;> omega) (by simp <;> omega)) Gs (by simp) (by simp) (by omega)) (ROW_G (ROW_fr dw6 F34 (by simp <;> omega) (by simp <;> omega)) Gs (by simp) (by simp) (by omega)) ⟨?_, ?_, ?_, ?_⟩ rfl rfl rfl rfl rfl rfl rfl rfl rfl rfl (fun r hr => ?_)
      · rw [pq_R_sR, if_pos ⟨rfl, rfl⟩]
      · rw [pq_R_sR, if_neg (by decide), pq_R_sR, if_pos ⟨rfl, rfl⟩]
      · show pz_I h4 dr 0 = _
        rw [f8 dr (by simp; omega)]; exact dl1
      · show pz_I h4 dr 3 = _
        rw [f8 dr (by simp; omega)]; exact dl2
      · show pz_I h4 (dr + 1) j = _ ∧ pz_I h4 (dr + 2) j = _ ∧ pz_I h4 (dr + 3) j = _
        rw [f8 (dr + 1) (by simp; omega), f8 (dr + 2) (by simp; omega), f8 (dr + 3) (by simp; omega)]
        exact dl3 j hj
      · show pz_I h4 dr 1 = _
        rw [f8 dr (by simp; omega)]; exact di1
      · show pz_I h4 dr 2 = _
        rw [f8 dr (by simp; omega)]; exact di2
      · exact ROW_G (ROW_fr (ROW_fr X2 F3 (by simp) (by simp)) F4 (by simp) (by simp)) Gs (by simp) (by simp) (by decide)
      · exact ROW_G (ROW_fr (ROW_G R.2.2.1.2.1 G1 (by unfold rdC; simp; omega) (by unfold rdC; simp; omega) (by decide)) F34 (by simp) (by simp)) Gs (by simp) (by simp) (by decide)
      · exact ROW_G X4 Gs (by simp) (by simp) (by decide)
      · show pz_I h4 0 7 = _
        rw [F4.2.2.2.2.2.2.2.1 0 (by simp)]
        exact i07
      · show pz_u2 (pz_u2 (pz_u2 (pz_u2 (pz_u2 (pz_u2 (sB A) 0 27 (-1)) 0 17 0) 0 18 _) 0 19 _) 0 20 _) 0 21 _ r = sB A r
        rw [gu_r hr, gu_r hr, gu_r hr, gu_r hr, gu_r hr, gu_r hr]
    have H5 : HC h (pz_sR (pz_sR h4 10 2 (some t)) 23 3 (some dr)) := HC_HG G5 (fun x hx => by have := ldC_in hd hx; omega)
    generalize ldA (pz_u2 (pz_u2 (sB A) 0 27 (-1)) 0 17 0, (stV A 0 []).2) (sV A 0) l c fs q i = A5 at R5 K
    generalize hY : anA A5 4 = Y at K
    refine c_restart (h1 := pz_sR (pz_sR h4 10 2 (some t)) 23 3 (some dr)) rfl C4.2.2.2.2.2.1.1 R5 (fun h6 H6 R6 => ?_)
    rw [hY] at R6
    simp only [enX9_load, uX9_load_0, uX9_load_0o, uX9_load_0f, uX9_load_1, uX9_load_4, uX9_load_4o, uX9_load_4f, uX9_load_5, uX9_load_8, uX9_load_11, uX9_load_12, uX9_load_12o, uX9_load_12f, uX9_load_13, uX9_load_16, uX9_load_17, uX9_load_20, uX9_load_20o, uX9_load_20f, uX9_load_21, uX9_load_21o, uX9_load_21f, uX9_load_22, uX9_load_25, uX9_load_28, uX9_load_31, uX9_load_32, uX9_load_35, uX9_load_35o, uX9_load_35f, uX9_load_36, uX9_load_39, uX9_load_40, uX9_load_43, uX9_load_43o, uX9_load_43f, uX9_load_44, uX9_load_47, uX9_load_47o, uX9_load_47f, uX9_load_48, uX9_load_51, uX9_load_51o, uX9_load_51f, uX9_load_52, uX9_load_55, uX9_load_58, uX9_load_61, uX9_load_64, uX9_load_65, pq_C_sI, pq_C_sJ, pq_C_sR, pq_C_sA, pq_L_sI, pq_L_sJ, pq_L_sR, pq_L_sA, pq_I_sI, pq_I_sJ, pq_I_sR, pq_I_sA, pq_J_sI, pq_J_sJ, pq_J_sR, pq_J_sA, pq_R_sI, pq_R_sJ, pq_R_sR, pq_R_sA, pq_N_sI, pq_N_sJ, pq_N_sR, pq_N_sA, pq_S_sI, pq_S_sJ, pq_S_sR, pq_S_sA, pz_rf_s, pz_cut_i, pz_cut_r, pz_cut_n, pz_cut_f, pz_cut_u, pz_cut_o, true_and, and_true, true_or, or_true, Option.toList_some, Option.toList_none, List.cons_append, List.nil_append, Nat.add_left_cancel_iff, Nat.left_eq_add, Nat.add_eq_left, Nat.reduceEqDiff, if_true, if_false, ite_true, ite_false, false_and, and_false, false_or, or_false, reduceIte, reduceCtorEq, and_self, z_4, z_5, z_7, z_8, z_10, z_16, z_20, z_64, not_false_eq_true]
    exact K h6 (HC_trans H5 H6) R6
end
