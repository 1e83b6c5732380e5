/-! ===== the reference: say, hear, meddle, close ===== -/
section
variable {g : Tb} {A : St} {l m : List Int8} {t : Nat → Int32}
theorem RG_cut (h : RG g A) {n : Nat} (hn : n ≤ (sV A 0).length) : RG (pz_u2 g 0 2 (nI n)) (stV A 0 ((sV A 0).take n)) := by
  obtain ⟨⟨h1, h2, h3, h4, h5, h6, h7, h8, h9, h10, h11⟩, h12⟩ := h
  refine ⟨⟨?_, h2, FLE_o2 h3 (by unfold FL; decide), h4, h5, h6, h7, h8, h9, h10, h11⟩, h12⟩
  show BYT (nI n) (g 1) ((sV A 0).take n)
  refine ⟨by rw [List.length_take, Nat.min_eq_left hn], SEG_take h1.2⟩
theorem RG_used (h : RG g A) : RG (pz_u2 g 0 2 0) (stV A 0 []) := RG_cut h (Nat.zero_le _)
theorem RM_used (h : RM g A m) : RM (pz_u2 g 0 2 0) (stV A 0 []) m := ⟨RG_used h.1, h.2.1, h.2.2⟩
theorem RG_tape (h : RG g A) (e : SEG t 0 l) : RG (pz_u1 (pz_u2 g 0 2 (nI l.length)) 1 t) (stV A 0 l) := by
  obtain ⟨⟨h1, h2, h3, h4, h5, h6, h7, h8, h9, h10, h11⟩, h12⟩ := h
  exact ⟨⟨⟨rfl, e⟩, h2, FLE_o1 (FLE_o2 h3 (by unfold FL; decide)) (by decide) (by decide), h4, h5, h6, h7, h8, h9, h10, h11⟩, h12⟩
theorem RG_out (h : RG g A) (e : SEG t 0 l) : RG (pz_u1 (pz_u2 g 0 3 (nI l.length)) 2 t) (stV A 1 l) := by
  obtain ⟨⟨h1, h2, h3, h4, h5, h6, h7, h8, h9, h10, h11⟩, h12⟩ := h
  exact ⟨⟨h1, ⟨rfl, e⟩, FLE_o1 (FLE_o2 h3 (by unfold FL; decide)) (by decide) (by decide), h4, h5, h6, h7, h8, h9, h10, h11⟩, h12⟩
theorem RM_out (h : RM g A m) (e : SEG t 0 l) : RM (pz_u1 (pz_u2 g 0 3 (nI l.length)) 2 t) (stV A 1 l) m := ⟨RG_out h.1 e, h.2.1, h.2.2⟩
theorem RM_tape (h : RM g A m) (e : SEG t 0 l) : RM (pz_u1 (pz_u2 g 0 2 (nI l.length)) 1 t) (stV A 0 l) m := ⟨RG_tape h.1 e, h.2.1, h.2.2⟩
theorem RM_wire (h : RM g A m) {w n : Nat → Int32} {W : Nat → List Int8} (e : WRS w n W) : RM (pz_u1 (pz_u1 g 34 n) 33 w) (sB A, W, A.2.2) m := by
  obtain ⟨⟨⟨h1, h2, h3, h4, h5, h6, h7, h8, h9, h10, h11⟩, h12⟩, h13, h14⟩ := h
  exact ⟨⟨⟨h1, h2, FLE_o1 (FLE_o1 h3 (by decide) (by decide)) (by decide) (by decide), h4, h5, h6, h7, e, h9, h10, h11⟩, h12⟩, h13, h14⟩
theorem RM_wr (h : RM g A m) : WRS (g 33) (g 34) (sW A) := h.1.1.2.2.2.2.2.2.2.1
theorem RM_fl (h : RM g A m) : FLE g (sB A) := h.1.1.2.2.1
end
/-- what say does -/
def sayA (A : St) (a : Int32) : Int32 × St := match ajB (sB A) a 4 with
  | some (x, _) => if (sW A (20 + x)).length + (sV A 0).length ≤ 4000 then (nI ((sW A (20 + x)).length + (sV A 0).length), stW (stV A 0 []) (20 + x) (sW A (20 + x) ++ sV A 0)) else (-1, stV A 0 [])
  | none => (-1, stV A 0 [])
def hearA (A : St) (a : Int32) : Int32 × St := match ajB (sB A) a 4 with
  | some (x, _) => (nI (sW A (5 * x + 4)).length, stW (stV A 1 (sW A (5 * x + 4))) (5 * x + 4) [])
  | none => (-1, A)
def medA (A : St) (a b i v : Int32) : Int32 × St := match ajB (sB A) a b with
  | some (x, y) => (match vI i (sW A (5 * x + y)).length with
    | some j => (1, stW A (5 * x + y) ((sW A (5 * x + y)).set j v.toInt8))
    | none => (0, A))
  | none => (0, A)
def cloA (A : St) (a b : Int32) : Int32 × St := match ajB (sB A) a b with
  | some (x, y) => (1, clA A x y 0)
  | none => (0, A)
section
variable {d : Nat} {h : PzH} {Q : Option Value → PzH → Prop} {mo : Nat} {g : Tb} {A : St} {l : List Int8}
theorem g_say1 (H : MO h mo) {v1 : Int32} {k n m : Nat} (hk : k < 25) (hn : n + m ≤ 4000) (h34 : g 34 k = nI n) (hf : ∀ i, i < m → vp_nar .byte (g 1 i) = g 1 i) {t : Nat → Int32} : wp d mX10_say 41 [.ref mo, .int v1, .int (nI m), .int (nI k), .int 0] [] (mh h mo (pz_u1 g 33 t)) Q ↔ wp d mX10_say 80 [.ref mo, .int v1, .int (nI m), .int (nI k), .int (nI m)] [] (mh h mo (pz_u1 g 33 (put t (4200 * k + n) m (g 1)))) Q := by
  have key := wp_for (d := d) (m := mX10_say) (pc := 41) (Q := Q) (fun i => mh h mo (pz_u1 g 33 (put t (4200 * k + n) i (g 1)))) (fun i => [.ref mo, .int v1, .int (nI m), .int (nI k), .int (nI i)]) m (fun i hi => by
    rw [uX10_say_41]
    simp only [enX10_say, uX10_say_0, uX10_say_0o, uX10_say_0f, uX10_say_1, uX10_say_4, uX10_say_5, uX10_say_5o, uX10_say_5f, uX10_say_6, uX10_say_7, uX10_say_8, uX10_say_11, uX10_say_14, uX10_say_14o, uX10_say_14f, uX10_say_15, uX10_say_18, uX10_say_20, uX10_say_21, uX10_say_22, uX10_say_23, uX10_say_24, uX10_say_25, uX10_say_28, uX10_say_31, uX10_say_32, uX10_say_33, uX10_say_35, uX10_say_36, uX10_say_37, uX10_say_38, uX10_say_39, uX10_say_43, uX10_say_44, uX10_say_47, uX10_say_47o, uX10_say_47f, uX10_say_48, uX10_say_51, uX10_say_54, uX10_say_55, uX10_say_56, uX10_say_56o, uX10_say_56f, uX10_say_57, uX10_say_60, uX10_say_61, uX10_say_62, uX10_say_63, uX10_say_65, uX10_say_66, uX10_say_66o, uX10_say_66f, uX10_say_67, uX10_say_70, uX10_say_72, uX10_say_73, uX10_say_74, uX10_say_77, uX10_say_81, uX10_say_84, uX10_say_85, uX10_say_86, uX10_say_87, uX10_say_88, uX10_say_89, uX10_say_90, uX10_say_90o, uX10_say_90f, uX10_say_91, uX10_say_94, uX10_say_95, uX10_say_96, mo_C H, mo_R_wire H, mo_C_wire H, mo_L_wire H, mo_R_wired H, mo_C_wired H, mo_L_wired H, mo_R_tape H, mo_C_tape H, mo_L_tape H, pq_C_sI, pq_C_sJ, pq_C_sR, pq_C_sA, pq_L_sI, pq_L_sJ, pq_L_sR, pq_L_sA, pq_I_sI, pq_I_sJ, pq_I_sR, pq_I_sA, pq_J_sI, pq_J_sJ, pq_J_sR, pq_J_sA, pq_R_sI, pq_R_sJ, pq_R_sR, pq_R_sA, pq_N_sI, pq_N_sJ, pq_N_sR, pq_N_sA, pq_S_sI, pq_S_sJ, pq_S_sR, pq_S_sA, pz_rf_s, pz_cut_i, pz_cut_r, pz_cut_n, pz_cut_f, pz_cut_u, pz_cut_o, true_and, and_true, true_or, or_true, Option.toList_some, Option.toList_none, List.cons_append, List.nil_append, Nat.add_left_cancel_iff, Nat.left_eq_add, Nat.add_eq_left, Nat.reduceEqDiff, if_true, if_false, ite_true, ite_false, false_and, and_false, false_or, or_false, reduceIte, reduceCtorEq, and_self, mh_C, mh_L, mh_R, mh_J, mh_I0, mh_I, mh_Ir, mh_sI0, mh_sI, mh_sA, gu_11, gu_22, gu_r, gu_21s, gu_21c, gu_22s, gu_11s, gu_11c, gu_22c, Nat.reduceLeDiff, Nat.reduceLT, ne_eq, not_false_eq_true, not_true_eq_false, Nat.reduceEqDiff, Nat.lt_irrefl, eq_self, z_4, z_5, z_7, z_8, z_10, z_16, z_20, z_64]
    rw [if_neg (nI_ge hi (by omega))]
    simp (disch := omega) only [nI_4200, pk_mul, nI_clamp, h34, nI_add, pz_in_nI, true_and, nI_1, hf i hi]
    rw [← put_s])
  refine Iff.trans (show _ ↔ _ from ?_) (key.trans ?_)
  · rw [put_0]
    exact Iff.rfl
  · rw [uX10_say_41]
    simp only [enX10_say, uX10_say_0, uX10_say_0o, uX10_say_0f, uX10_say_1, uX10_say_4, uX10_say_5, uX10_say_5o, uX10_say_5f, uX10_say_6, uX10_say_7, uX10_say_8, uX10_say_11, uX10_say_14, uX10_say_14o, uX10_say_14f, uX10_say_15, uX10_say_18, uX10_say_20, uX10_say_21, uX10_say_22, uX10_say_23, uX10_say_24, uX10_say_25, uX10_say_28, uX10_say_31, uX10_say_32, uX10_say_33, uX10_say_35, uX10_say_36, uX10_say_37, uX10_say_38, uX10_say_39, uX10_say_43, uX10_say_44, uX10_say_47, uX10_say_47o, uX10_say_47f, uX10_say_48, uX10_say_51, uX10_say_54, uX10_say_55, uX10_say_56, uX10_say_56o, uX10_say_56f, uX10_say_57, uX10_say_60, uX10_say_61, uX10_say_62, uX10_say_63, uX10_say_65, uX10_say_66, uX10_say_66o, uX10_say_66f, uX10_say_67, uX10_say_70, uX10_say_72, uX10_say_73, uX10_say_74, uX10_say_77, uX10_say_81, uX10_say_84, uX10_say_85, uX10_say_86, uX10_say_87, uX10_say_88, uX10_say_89, uX10_say_90, uX10_say_90o, uX10_say_90f, uX10_say_91, uX10_say_94, uX10_say_95, uX10_say_96, mo_C H, mo_R_wire H, mo_C_wire H, mo_L_wire H, mo_R_wired H, mo_C_wired H, mo_L_wired H, mo_R_tape H, mo_C_tape H, mo_L_tape H, pq_C_sI, pq_C_sJ, pq_C_sR, pq_C_sA, pq_L_sI, pq_L_sJ, pq_L_sR, pq_L_sA, pq_I_sI, pq_I_sJ, pq_I_sR, pq_I_sA, pq_J_sI, pq_J_sJ, pq_J_sR, pq_J_sA, pq_R_sI, pq_R_sJ, pq_R_sR, pq_R_sA, pq_N_sI, pq_N_sJ, pq_N_sR, pq_N_sA, pq_S_sI, pq_S_sJ, pq_S_sR, pq_S_sA, pz_rf_s, pz_cut_i, pz_cut_r, pz_cut_n, pz_cut_f, pz_cut_u, pz_cut_o, true_and, and_true, true_or, or_true, Option.toList_some, Option.toList_none, List.cons_append, List.nil_append, Nat.add_left_cancel_iff, Nat.left_eq_add, Nat.add_eq_left, Nat.reduceEqDiff, if_true, if_false, ite_true, ite_false, false_and, and_false, false_or, or_false, reduceIte, reduceCtorEq, and_self, mh_C, mh_L, mh_R, mh_J, mh_I0, mh_I, mh_Ir, mh_sI0, mh_sI, mh_sA, gu_11, gu_22, gu_r, gu_21s, gu_21c, gu_22s, gu_11s, gu_11c, gu_22c, Nat.reduceLeDiff, Nat.reduceLT, ne_eq, not_false_eq_true, not_true_eq_false, Nat.reduceEqDiff, Nat.lt_irrefl, eq_self, z_4, z_5, z_7, z_8, z_10, z_16, z_20, z_64]
    rw [if_pos (nI_le (Nat.le_refl _) (by omega))]
theorem g_say (H : MO h mo) (R : RM g A []) (hw : HW A) (ht : (sV A 0).length ≤ 6000) {a : Int32} (K : ∀ g', RM g' (sayA A a).2 [] → Q (some (.int (sayA A a).1)) (mh h mo g')) : pz_M (d + 3) mX10_say [.ref mo, .int a] (mh h mo g) Q := by
  have R0 := RM_used R
  have h3 := RM_fl R0
  have t2 : g 0 2 = nI (sV A 0).length := R.1.1.1.1
  simp only [enX10_say, uX10_say_0, uX10_say_0o, uX10_say_0f, uX10_say_1, uX10_say_4, uX10_say_5, uX10_say_5o, uX10_say_5f, uX10_say_6, uX10_say_7, uX10_say_8, uX10_say_11, uX10_say_14, uX10_say_14o, uX10_say_14f, uX10_say_15, uX10_say_18, uX10_say_20, uX10_say_21, uX10_say_22, uX10_say_23, uX10_say_24, uX10_say_25, uX10_say_28, uX10_say_31, uX10_say_32, uX10_say_33, uX10_say_35, uX10_say_36, uX10_say_37, uX10_say_38, uX10_say_39, uX10_say_43, uX10_say_44, uX10_say_47, uX10_say_47o, uX10_say_47f, uX10_say_48, uX10_say_51, uX10_say_54, uX10_say_55, uX10_say_56, uX10_say_56o, uX10_say_56f, uX10_say_57, uX10_say_60, uX10_say_61, uX10_say_62, uX10_say_63, uX10_say_65, uX10_say_66, uX10_say_66o, uX10_say_66f, uX10_say_67, uX10_say_70, uX10_say_72, uX10_say_73, uX10_say_74, uX10_say_77, uX10_say_80, uX10_say_80o, uX10_say_80f, uX10_say_81, uX10_say_84, uX10_say_85, uX10_say_86, uX10_say_87, uX10_say_88, uX10_say_89, uX10_say_90, uX10_say_90o, uX10_say_90f, uX10_say_91, uX10_say_94, uX10_say_95, uX10_say_96, mo_C H, mo_R_wired H, mo_C_wired H, mo_L_wired H, pq_C_sI, pq_C_sJ, pq_C_sR, pq_C_sA, pq_L_sI, pq_L_sJ, pq_L_sR, pq_L_sA, pq_I_sI, pq_I_sJ, pq_I_sR, pq_I_sA, pq_J_sI, pq_J_sJ, pq_J_sR, pq_J_sA, pq_R_sI, pq_R_sJ, pq_R_sR, pq_R_sA, pq_N_sI, pq_N_sJ, pq_N_sR, pq_N_sA, pq_S_sI, pq_S_sJ, pq_S_sR, pq_S_sA, pz_rf_s, pz_cut_i, pz_cut_r, pz_cut_n, pz_cut_f, pz_cut_u, pz_cut_o, true_and, and_true, true_or, or_true, Option.toList_some, Option.toList_none, List.cons_append, List.nil_append, Nat.add_left_cancel_iff, Nat.left_eq_add, Nat.add_eq_left, Nat.reduceEqDiff, if_true, if_false, ite_true, ite_false, false_and, and_false, false_or, or_false, reduceIte, reduceCtorEq, and_self, mh_C, mh_L, mh_R, mh_J, mh_I0, mh_I, mh_Ir, mh_sI0, mh_sI, mh_sA, gu_11, gu_22, gu_r, gu_21s, gu_21c, gu_22s, gu_11s, gu_11c, gu_22c, Nat.reduceLeDiff, Nat.reduceLT, ne_eq, not_false_eq_true, not_true_eq_false, Nat.reduceEqDiff, Nat.lt_irrefl, eq_self, z_4, z_5, z_7, z_8, z_10, z_16, z_20, z_64, g_used H, g_areJoined H, FLE_aj h3, t2]
  unfold sayA at K
  rw [show ajB (sB (stV A 0 [])) a 4 = ajB (sB A) a 4 from rfl]
  cases e : ajB (sB A) a 4 with
  | none =>
    rw [e] at K
    simp only [Option.isSome_none, Bool.false_eq_true, if_false, if_true]
    exact K _ R0
  | some xy =>
    obtain ⟨x, y⟩ := xy
    rw [e] at K
    obtain ⟨x1, y1, rfl, y2, x3⟩ := ajB_some e
    have hk : 20 + x < 25 := by omega
    have hk' := hw _ hk
    obtain ⟨w1, w2⟩ := RM_wr R _ hk
    simp (disch := omega) only [Option.isSome_some, if_true, show ¬ (1 : Int32) = 0 by decide, if_false, nI_c20, nI_add, nI_clamp, pz_in_nI, true_and, w1]
    dsimp only at K
    by_cases q : (sW A (20 + x)).length + (sV A 0).length ≤ 4000
    · rw [if_pos q] at K
      rw [if_pos (show nI ((sW A (20 + x)).length + (sV A 0).length) ≤ 4000 from nI_le (b := 4000) q (by decide))]
      have e0 : mh h mo (pz_u2 g 0 2 0) = mh h mo (pz_u1 (pz_u2 g 0 2 0) 33 (g 33)) := by
        rw [show g 33 = pz_u2 g 0 2 0 33 from rfl, gu_1e]
      rw [e0, g_say1 (g := pz_u2 g 0 2 0) H hk q w1 (fun i hi => by
        have := R.1.1.1.2 i hi
        rw [Nat.zero_add] at this
        show vp_nar .byte (g 1 i) = g 1 i
        rw [this, vb8])]
      simp only [enX10_say, uX10_say_0, uX10_say_0o, uX10_say_0f, uX10_say_1, uX10_say_4, uX10_say_5, uX10_say_5o, uX10_say_5f, uX10_say_6, uX10_say_7, uX10_say_8, uX10_say_11, uX10_say_14, uX10_say_14o, uX10_say_14f, uX10_say_15, uX10_say_18, uX10_say_20, uX10_say_21, uX10_say_22, uX10_say_23, uX10_say_24, uX10_say_25, uX10_say_28, uX10_say_31, uX10_say_32, uX10_say_33, uX10_say_35, uX10_say_36, uX10_say_37, uX10_say_38, uX10_say_39, uX10_say_43, uX10_say_44, uX10_say_47, uX10_say_47o, uX10_say_47f, uX10_say_48, uX10_say_51, uX10_say_54, uX10_say_55, uX10_say_56, uX10_say_56o, uX10_say_56f, uX10_say_57, uX10_say_60, uX10_say_61, uX10_say_62, uX10_say_63, uX10_say_65, uX10_say_66, uX10_say_66o, uX10_say_66f, uX10_say_67, uX10_say_70, uX10_say_72, uX10_say_73, uX10_say_74, uX10_say_77, uX10_say_80, uX10_say_80o, uX10_say_80f, uX10_say_81, uX10_say_84, uX10_say_85, uX10_say_86, uX10_say_87, uX10_say_88, uX10_say_89, uX10_say_90, uX10_say_90o, uX10_say_90f, uX10_say_91, uX10_say_94, uX10_say_95, uX10_say_96, mo_C H, mo_R_wired H, mo_C_wired H, mo_L_wired H, pq_C_sI, pq_C_sJ, pq_C_sR, pq_C_sA, pq_L_sI, pq_L_sJ, pq_L_sR, pq_L_sA, pq_I_sI, pq_I_sJ, pq_I_sR, pq_I_sA, pq_J_sI, pq_J_sJ, pq_J_sR, pq_J_sA, pq_R_sI, pq_R_sJ, pq_R_sR, pq_R_sA, pq_N_sI, pq_N_sJ, pq_N_sR, pq_N_sA, pq_S_sI, pq_S_sJ, pq_S_sR, pq_S_sA, pz_rf_s, pz_cut_i, pz_cut_r, pz_cut_n, pz_cut_f, pz_cut_u, pz_cut_o, true_and, and_true, true_or, or_true, Option.toList_some, Option.toList_none, List.cons_append, List.nil_append, Nat.add_left_cancel_iff, Nat.left_eq_add, Nat.add_eq_left, Nat.reduceEqDiff, if_true, if_false, ite_true, ite_false, false_and, and_false, false_or, or_false, reduceIte, reduceCtorEq, and_self, mh_C, mh_L, mh_R, mh_J, mh_I0, mh_I, mh_Ir, mh_sI0, mh_sI, mh_sA, gu_11, gu_22, gu_r, gu_21s, gu_21c, gu_22s, gu_11s, gu_11c, gu_22c, Nat.reduceLeDiff, Nat.reduceLT, ne_eq, not_false_eq_true, not_true_eq_false, Nat.reduceEqDiff, Nat.lt_irrefl, eq_self, z_4, z_5, z_7, z_8, z_10, z_16, z_20, z_64]
      simp (disch := omega) only [nI_clamp, pz_in_nI, true_and, w1, nI_add]
      refine K _ ?_
      have W1 := WRS_put (RM_wr R0) hk hw (m := sV A 0) (u := g 1) (by show (sW A (20 + x)).length + _ ≤ _; omega) R.1.1.1.2
      have := RM_wire R0 W1
      rw [gu_2to1 (n := 34)]
      exact this
    · rw [if_neg q] at K
      rw [if_neg (show ¬ nI ((sW A (20 + x)).length + (sV A 0).length) ≤ 4000 from nI_ge (a := 4000) (by omega) (by omega))]
      exact K _ R0
end
