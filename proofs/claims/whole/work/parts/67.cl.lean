/-! ===== the reference: closed, anew ===== -/
def clG (g : Tb) (a b : Nat) (w : Int32) : Tb := pz_u2 (pz_u2 (fo (fo g (5 * a + b)) (5 * b + a)) 31 (5 * a + b) w) 31 (5 * b + a) w
def clA (A : St) (a b : Nat) (w : Int32) : St := (clG (sB A) a b w, upf (upf (sW A) (5 * a + b) []) (5 * b + a) [], sV A, sD A, upf (upf (sL A) (5 * a + b) []) (5 * b + a) [], sF A)
section
variable {g B : Tb} {k : Nat} {w n s : Nat → Int32} {W : Nat → List Int8} {L : Nat → List Nat} {m : Int32}
theorem fo_34 : fo g k 34 = fun j => if j = k then 0 else g 34 j := by
  funext j
  unfold fo
  rw [gu_11, if_neg (by decide), gu_11, if_neg (by decide), gu_22]
  by_cases h : j = k
  · rw [if_pos ⟨rfl, h⟩, if_pos h]
  · rw [if_neg (fun q => h q.2), if_neg h]
    rfl
theorem fo_32 : fo g k 32 = fil (g 32) (4 * k) 4 (-1) := rfl
theorem WRS_fo (h : WRS w n W) : WRS w (fun j => if j = k then 0 else n j) (upf W k []) := by
  intro j hj
  by_cases q : j = k
  · subst q
    rw [upf_s]
    exact ⟨if_pos rfl, SEG_nil⟩
  · rw [upf_n q]
    exact ⟨(if_neg q).trans (h j hj).1, (h j hj).2⟩
theorem slo_fo : slo (fil s (4 * k) 4 (-1)) k = [] := by
  unfold slo
  rw [fil_in (by omega), fil_in (by omega), fil_in (by omega), fil_in (by omega)]
  rfl
theorem slo_fn {j : Nat} (h : j ≠ k) : slo (fil s (4 * k) 4 (-1)) j = slo s j := by
  unfold slo
  rw [fil_out (by omega), fil_out (by omega), fil_out (by omega), fil_out (by omega)]
theorem SLS_fo (h : SLS s m L) : SLS (fil s (4 * k) 4 (-1)) m (upf L k []) := by
  intro hm j hj
  by_cases q : j = k
  · subst q
    rw [upf_s, slo_fo]
  · rw [upf_n q, slo_fn q]
    exact h hm j hj
theorem FLE_cl {a b : Nat} {v : Int32} (h : FLE g B) : FLE (clG g a b v) (clG B a b v) := FLE_u2 (FLE_u2 (FLE_fo (FLE_fo h)))
theorem clG_34 {a b : Nat} {v : Int32} : clG g a b v 34 = fun j => if j = 5 * b + a then 0 else if j = 5 * a + b then 0 else g 34 j := by
  have e : clG g a b v 34 = fo (fo g (5 * a + b)) (5 * b + a) 34 := rfl
  rw [e, fo_34, fo_34]
theorem clG_32 {a b : Nat} {v : Int32} : clG g a b v 32 = fil (fil (g 32) (4 * (5 * a + b)) 4 (-1)) (4 * (5 * b + a)) 4 (-1) := rfl
theorem RG0_cl {A : St} {a b : Nat} {v : Int32} (h : RG0 g A) : RG0 (clG g a b v) (clA A a b v) := by
  obtain ⟨h1, h2, h3, h4, h5, h6, h7, h8, h9, h10, h11⟩ := h
  refine ⟨h1, h2, FLE_cl h3, h4, h5, h6, h7, ?_, h9, h10, h11⟩
  rw [clG_34]
  exact WRS_fo (WRS_fo h8)
theorem RG_cl {A : St} {a b : Nat} {v : Int32} (h : RG g A) : RG (clG g a b v) (clA A a b v) := ⟨RG0_cl h.1, SLS_fo (SLS_fo h.2)⟩
end
/-- one and all of the others part -/
def paG (g : Tb) (a : Nat) : Nat → Tb
  | 0 => g
  | b + 1 => clG (paG g a b) a b 0
def anG (g : Tb) : Nat → Tb
  | 0 => pz_u2 g 0 16 1
  | a + 1 => paG (pz_u2 (anG g a) 18 a 0) a 5
def paA (A : St) (a : Nat) : Nat → St
  | 0 => A
  | b + 1 => clA (paA A a b) a b 0
def anA (A : St) : Nat → St
  | 0 => (pz_u2 (sB A) 0 16 1, A.2)
  | a + 1 => paA (pz_u2 (sB (anA A a)) 18 a 0, (anA A a).2) a 5
theorem RG0_pa {g : Tb} {A : St} {a : Nat} (h : RG0 g A) : ∀ n, RG0 (paG g a n) (paA A a n)
  | 0 => h
  | n + 1 => RG0_cl (RG0_pa h n)
theorem RG_pa {g : Tb} {A : St} {a : Nat} (h : RG g A) : ∀ n, RG (paG g a n) (paA A a n)
  | 0 => h
  | n + 1 => RG_cl (RG_pa h n)
theorem RG0_an {g : Tb} {A : St} (h : RG0 g A) : ∀ n, RG0 (anG g n) (anA A n)
  | 0 => by
    obtain ⟨h1, h2, h3, h4, h5, h6, h7, h8, h9, h10, h11⟩ := h
    exact ⟨h1, h2, FLE_u2 h3, h4, h5, h6, h7, h8, h9, h10, h11⟩
  | n + 1 => by
    refine RG0_pa ?_ 5
    obtain ⟨h1, h2, h3, h4, h5, h6, h7, h8, h9, h10, h11⟩ := RG0_an h n
    exact ⟨h1, h2, FLE_u2 h3, h4, h5, h6, h7, h8, h9, h10, h11⟩
/-- nothing is asked there, on both sides -/
def NAS (s : Nat → Int32) (L : Nat → List Nat) (k : Nat) : Prop := slo s k = [] ∧ L k = []
theorem NAS_fo {s : Nat → Int32} {L : Nat → List Nat} {j k : Nat} (h : j = k ∨ NAS s L j) : NAS (fil s (4 * k) 4 (-1)) (upf L k []) j := by
  by_cases q : j = k
  · subst q
    exact ⟨slo_fo, upf_s⟩
  · rcases h with h | h
    · exact absurd h q
    · exact ⟨(slo_fn q).trans h.1, (upf_n q).trans h.2⟩
theorem NAS_cl {g : Tb} {A : St} {a b j : Nat} {v : Int32} (h : j = 5 * a + b ∨ NAS (g 32) (sL A) j) : NAS (clG g a b v 32) (sL (clA A a b v)) j := NAS_fo (Or.inr (NAS_fo h))
theorem NAS_pa {g : Tb} {A : St} {a j : Nat} : ∀ n, ((∃ b, b < n ∧ j = 5 * a + b) ∨ NAS (g 32) (sL A) j) → NAS (paG g a n 32) (sL (paA A a n)) j
  | 0, h => by
    rcases h with ⟨b, hb, _⟩ | h
    · omega
    · exact h
  | n + 1, h => by
    refine NAS_cl ?_
    by_cases q : j = 5 * a + n
    · exact Or.inl q
    · refine Or.inr (NAS_pa n ?_)
      rcases h with ⟨b, hb, e⟩ | h
      · exact Or.inl ⟨b, by omega, e⟩
      · exact Or.inr h
theorem NAS_an {g : Tb} {A : St} : ∀ n j, j < 5 * n → NAS (anG g n 32) (sL (anA A n)) j
  | 0, j, h => by omega
  | n + 1, j, h => by
    refine NAS_pa 5 ?_
    by_cases q : j < 5 * n
    · exact Or.inr (NAS_an n j q)
    · exact Or.inl ⟨j - 5 * n, by omega, by omega⟩
theorem RG_an {g : Tb} {A : St} (h : RG0 g A) : RG (anG g 4) (anA A 4) := by
  refine ⟨RG0_an h 4, fun _ k hk => ?_⟩
  obtain ⟨e1, e2⟩ := NAS_an (g := g) (A := A) 4 k hk
  rw [e1, e2]
section
variable {d : Nat} {h : PzH} {Q : Option Value → PzH → Prop} {mo : Nat} {g : Nat → Nat → Int32}
theorem g_closed (H : MO h mo) {a b : Nat} (ha : a < 5) (hb : b < 5) {v : Int32} : pz_M (d + 3) mX10_closed [.ref mo, .int (nI a), .int (nI b), .int v] (mh h mo g) Q ↔ Q none (mh h mo (clG g a b v)) := by
  simp only [enX10_closed, uX10_closed_0, uX10_closed_0o, uX10_closed_0f, uX10_closed_1, uX10_closed_2, uX10_closed_3, uX10_closed_6, uX10_closed_6o, uX10_closed_6f, uX10_closed_7, uX10_closed_10, uX10_closed_11, uX10_closed_12, uX10_closed_13, uX10_closed_14, uX10_closed_15, uX10_closed_16, uX10_closed_17, uX10_closed_17o, uX10_closed_17f, uX10_closed_18, uX10_closed_21, uX10_closed_22, uX10_closed_23, uX10_closed_24, uX10_closed_25, uX10_closed_26, uX10_closed_27, uX10_closed_28, mo_C H, mo_R_reason H, mo_C_reason H, mo_L_reason H, pq_C_sI, pq_C_sJ, pq_C_sR, pq_C_sA, pq_L_sI, pq_L_sJ, pq_L_sR, pq_L_sA, pq_I_sI, pq_I_sJ, pq_I_sR, pq_I_sA, pq_J_sI, pq_J_sJ, pq_J_sR, pq_J_sA, pq_R_sI, pq_R_sJ, pq_R_sR, pq_R_sA, pq_N_sI, pq_N_sJ, pq_N_sR, pq_N_sA, pq_S_sI, pq_S_sJ, pq_S_sR, pq_S_sA, pz_rf_s, pz_cut_i, pz_cut_r, pz_cut_n, pz_cut_f, pz_cut_u, pz_cut_o, true_and, and_true, true_or, or_true, Option.toList_some, Option.toList_none, List.cons_append, List.nil_append, Nat.add_left_cancel_iff, Nat.left_eq_add, Nat.add_eq_left, Nat.reduceEqDiff, if_true, if_false, ite_true, ite_false, false_and, and_false, false_or, or_false, reduceIte, reduceCtorEq, and_self, mh_C, mh_L, mh_R, mh_J, mh_I0, mh_I, mh_Ir, mh_sI0, mh_sI, mh_sA, gu_11, gu_22, gu_r, gu_21s, gu_21c, gu_22s, gu_11s, gu_11c, gu_22c, Nat.reduceLeDiff, Nat.reduceLT, ne_eq, not_false_eq_true, not_true_eq_false, Nat.reduceEqDiff, Nat.lt_irrefl, eq_self, z_4, z_5, z_7, z_8, z_10, z_16, z_20, z_64, g_parts H ha hb]
  rw [show (5 : Int32) = nI 5 from rfl, pk_mul, pk_mul, nI_add, nI_add]
  simp (disch := omega) only [nI_clamp, pz_in_nI, true_and]
  exact Iff.rfl
theorem g_pa (H : MO h mo) {a : Nat} (ha : a < 5) {v : Value} (hv : pz_cut v = v) : wp (d + 2) mX10_anew 21 [.ref mo, .int (nI a), .int 0] [] (mh h mo g) Q ↔ wp (d + 2) mX10_anew 60 [.ref mo, .int (nI a), .int 5] [] (mh h mo (paG g a 5)) Q := by
  have key := wp_for (d := d + 2) (m := mX10_anew) (pc := 21) (Q := Q) (fun i => mh h mo (paG g a i)) (fun i => [.ref mo, .int (nI a), .int (nI i)]) 5 (fun i hi => by
    rw [uX10_anew_21]
    simp only [enX10_anew, uX10_anew_0, uX10_anew_0o, uX10_anew_0f, uX10_anew_1, uX10_anew_2, uX10_anew_5, uX10_anew_6, uX10_anew_8, uX10_anew_9, uX10_anew_12, uX10_anew_12o, uX10_anew_12f, uX10_anew_13, uX10_anew_16, uX10_anew_17, uX10_anew_18, uX10_anew_19, uX10_anew_20, uX10_anew_22, uX10_anew_23, uX10_anew_26, uX10_anew_26o, uX10_anew_26f, uX10_anew_27, uX10_anew_28, uX10_anew_29, uX10_anew_32, uX10_anew_32o, uX10_anew_32f, uX10_anew_33, uX10_anew_36, uX10_anew_37, uX10_anew_38, uX10_anew_39, uX10_anew_40, uX10_anew_41, uX10_anew_42, uX10_anew_43, uX10_anew_43o, uX10_anew_43f, uX10_anew_44, uX10_anew_47, uX10_anew_48, uX10_anew_49, uX10_anew_50, uX10_anew_51, uX10_anew_52, uX10_anew_53, uX10_anew_54, uX10_anew_57, uX10_anew_63, uX10_anew_66, mo_C H, mo_R_reason H, mo_C_reason H, mo_L_reason H, mo_R_there H, mo_C_there H, mo_L_there H, pq_C_sI, pq_C_sJ, pq_C_sR, pq_C_sA, pq_L_sI, pq_L_sJ, pq_L_sR, pq_L_sA, pq_I_sI, pq_I_sJ, pq_I_sR, pq_I_sA, pq_J_sI, pq_J_sJ, pq_J_sR, pq_J_sA, pq_R_sI, pq_R_sJ, pq_R_sR, pq_R_sA, pq_N_sI, pq_N_sJ, pq_N_sR, pq_N_sA, pq_S_sI, pq_S_sJ, pq_S_sR, pq_S_sA, pz_rf_s, pz_cut_i, pz_cut_r, pz_cut_n, pz_cut_f, pz_cut_u, pz_cut_o, true_and, and_true, true_or, or_true, Option.toList_some, Option.toList_none, List.cons_append, List.nil_append, Nat.add_left_cancel_iff, Nat.left_eq_add, Nat.add_eq_left, Nat.reduceEqDiff, if_true, if_false, ite_true, ite_false, false_and, and_false, false_or, or_false, reduceIte, reduceCtorEq, and_self, mh_C, mh_L, mh_R, mh_J, mh_I0, mh_I, mh_Ir, mh_sI0, mh_sI, mh_sA, gu_11, gu_22, gu_r, gu_21s, gu_21c, gu_22s, gu_11s, gu_11c, gu_22c, Nat.reduceLeDiff, Nat.reduceLT, ne_eq, not_false_eq_true, not_true_eq_false, Nat.reduceEqDiff, Nat.lt_irrefl, eq_self, z_4, z_5, z_7, z_8, z_10, z_16, z_20, z_64, g_parts H ha hi]
    rw [if_neg (show ¬ (5 : Int32) ≤ nI i from nI_ge hi (by decide)), show (5 : Int32) = nI 5 from rfl, pk_mul, pk_mul, nI_add, nI_add]
    simp (disch := omega) only [nI_clamp, pz_in_nI, true_and, nI_1]
    exact Iff.rfl)
  refine Iff.trans (show _ ↔ _ from key) ?_
  rw [uX10_anew_21]
  simp only [enX10_anew, uX10_anew_0, uX10_anew_0o, uX10_anew_0f, uX10_anew_1, uX10_anew_2, uX10_anew_5, uX10_anew_6, uX10_anew_8, uX10_anew_9, uX10_anew_12, uX10_anew_12o, uX10_anew_12f, uX10_anew_13, uX10_anew_16, uX10_anew_17, uX10_anew_18, uX10_anew_19, uX10_anew_20, uX10_anew_22, uX10_anew_23, uX10_anew_26, uX10_anew_26o, uX10_anew_26f, uX10_anew_27, uX10_anew_28, uX10_anew_29, uX10_anew_32, uX10_anew_32o, uX10_anew_32f, uX10_anew_33, uX10_anew_36, uX10_anew_37, uX10_anew_38, uX10_anew_39, uX10_anew_40, uX10_anew_41, uX10_anew_42, uX10_anew_43, uX10_anew_43o, uX10_anew_43f, uX10_anew_44, uX10_anew_47, uX10_anew_48, uX10_anew_49, uX10_anew_50, uX10_anew_51, uX10_anew_52, uX10_anew_53, uX10_anew_54, uX10_anew_57, uX10_anew_63, uX10_anew_66, mo_C H, mo_R_reason H, mo_C_reason H, mo_L_reason H, mo_R_there H, mo_C_there H, mo_L_there H, pq_C_sI, pq_C_sJ, pq_C_sR, pq_C_sA, pq_L_sI, pq_L_sJ, pq_L_sR, pq_L_sA, pq_I_sI, pq_I_sJ, pq_I_sR, pq_I_sA, pq_J_sI, pq_J_sJ, pq_J_sR, pq_J_sA, pq_R_sI, pq_R_sJ, pq_R_sR, pq_R_sA, pq_N_sI, pq_N_sJ, pq_N_sR, pq_N_sA, pq_S_sI, pq_S_sJ, pq_S_sR, pq_S_sA, pz_rf_s, pz_cut_i, pz_cut_r, pz_cut_n, pz_cut_f, pz_cut_u, pz_cut_o, true_and, and_true, true_or, or_true, Option.toList_some, Option.toList_none, List.cons_append, List.nil_append, Nat.add_left_cancel_iff, Nat.left_eq_add, Nat.add_eq_left, Nat.reduceEqDiff, if_true, if_false, ite_true, ite_false, false_and, and_false, false_or, or_false, reduceIte, reduceCtorEq, and_self, mh_C, mh_L, mh_R, mh_J, mh_I0, mh_I, mh_Ir, mh_sI0, mh_sI, mh_sA, gu_11, gu_22, gu_r, gu_21s, gu_21c, gu_22s, gu_11s, gu_11c, gu_22c, Nat.reduceLeDiff, Nat.reduceLT, ne_eq, not_false_eq_true, not_true_eq_false, Nat.reduceEqDiff, Nat.lt_irrefl, eq_self, z_4, z_5, z_7, z_8, z_10, z_16, z_20, z_64]
  rw [if_pos (show (5 : Int32) ≤ nI 5 by decide)]
  exact Iff.rfl
end
section
variable {d : Nat} {h : PzH} {Q : Option Value → PzH → Prop} {mo : Nat} {g : Nat → Nat → Int32}
theorem g_anew (H : MO h mo) : pz_M (d + 3) mX10_anew [.ref mo] (mh h mo g) Q ↔ Q none (mh h mo (anG g 4)) := by
  simp only [enX10_anew, uX10_anew_0, uX10_anew_0o, uX10_anew_0f, uX10_anew_1, uX10_anew_2, uX10_anew_5, uX10_anew_6, uX10_anew_8, uX10_anew_9, uX10_anew_12, uX10_anew_12o, uX10_anew_12f, uX10_anew_13, uX10_anew_16, uX10_anew_17, uX10_anew_18, uX10_anew_19, uX10_anew_20, uX10_anew_22, uX10_anew_23, uX10_anew_26, uX10_anew_26o, uX10_anew_26f, uX10_anew_27, uX10_anew_28, uX10_anew_29, uX10_anew_32, uX10_anew_32o, uX10_anew_32f, uX10_anew_33, uX10_anew_36, uX10_anew_37, uX10_anew_38, uX10_anew_39, uX10_anew_40, uX10_anew_41, uX10_anew_42, uX10_anew_43, uX10_anew_43o, uX10_anew_43f, uX10_anew_44, uX10_anew_47, uX10_anew_48, uX10_anew_49, uX10_anew_50, uX10_anew_51, uX10_anew_52, uX10_anew_53, uX10_anew_54, uX10_anew_57, uX10_anew_60, uX10_anew_63, uX10_anew_66, mo_C H, mo_R_there H, mo_C_there H, mo_L_there H, pq_C_sI, pq_C_sJ, pq_C_sR, pq_C_sA, pq_L_sI, pq_L_sJ, pq_L_sR, pq_L_sA, pq_I_sI, pq_I_sJ, pq_I_sR, pq_I_sA, pq_J_sI, pq_J_sJ, pq_J_sR, pq_J_sA, pq_R_sI, pq_R_sJ, pq_R_sR, pq_R_sA, pq_N_sI, pq_N_sJ, pq_N_sR, pq_N_sA, pq_S_sI, pq_S_sJ, pq_S_sR, pq_S_sA, pz_rf_s, pz_cut_i, pz_cut_r, pz_cut_n, pz_cut_f, pz_cut_u, pz_cut_o, true_and, and_true, true_or, or_true, Option.toList_some, Option.toList_none, List.cons_append, List.nil_append, Nat.add_left_cancel_iff, Nat.left_eq_add, Nat.add_eq_left, Nat.reduceEqDiff, if_true, if_false, ite_true, ite_false, false_and, and_false, false_or, or_false, reduceIte, reduceCtorEq, and_self, mh_C, mh_L, mh_R, mh_J, mh_I0, mh_I, mh_Ir, mh_sI0, mh_sI, mh_sA, gu_11, gu_22, gu_r, gu_21s, gu_21c, gu_22s, gu_11s, gu_11c, gu_22c, Nat.reduceLeDiff, Nat.reduceLT, ne_eq, not_false_eq_true, not_true_eq_false, Nat.reduceEqDiff, Nat.lt_irrefl, eq_self, z_4, z_5, z_7, z_8, z_10, z_16, z_20, z_64]
  obtain ⟨ls, h', ⟨v2, c2, rfl, rfl⟩, key⟩ := wp_loop (d := d + 2) (m := mX10_anew) (pc := 7) (Q := Q) 4 (fun i ls h' => ∃ v2, pz_cut v2 = v2 ∧ ls = [.ref mo, .int (nI i), v2] ∧ h' = mh h mo (anG g i)) (by
    rintro i ls h' hi ⟨v2, c2, rfl, rfl⟩
    refine ⟨_, _, ⟨.int 5, rfl, rfl, rfl⟩, ?_⟩
    rw [uX10_anew_7]
    simp only [enX10_anew, uX10_anew_0, uX10_anew_0o, uX10_anew_0f, uX10_anew_1, uX10_anew_2, uX10_anew_5, uX10_anew_6, uX10_anew_8, uX10_anew_9, uX10_anew_12, uX10_anew_12o, uX10_anew_12f, uX10_anew_13, uX10_anew_16, uX10_anew_17, uX10_anew_18, uX10_anew_19, uX10_anew_20, uX10_anew_22, uX10_anew_23, uX10_anew_26, uX10_anew_26o, uX10_anew_26f, uX10_anew_27, uX10_anew_28, uX10_anew_29, uX10_anew_32, uX10_anew_32o, uX10_anew_32f, uX10_anew_33, uX10_anew_36, uX10_anew_37, uX10_anew_38, uX10_anew_39, uX10_anew_40, uX10_anew_41, uX10_anew_42, uX10_anew_43, uX10_anew_43o, uX10_anew_43f, uX10_anew_44, uX10_anew_47, uX10_anew_48, uX10_anew_49, uX10_anew_50, uX10_anew_51, uX10_anew_52, uX10_anew_53, uX10_anew_54, uX10_anew_57, uX10_anew_60, uX10_anew_63, uX10_anew_66, mo_C H, mo_R_there H, mo_C_there H, mo_L_there H, pq_C_sI, pq_C_sJ, pq_C_sR, pq_C_sA, pq_L_sI, pq_L_sJ, pq_L_sR, pq_L_sA, pq_I_sI, pq_I_sJ, pq_I_sR, pq_I_sA, pq_J_sI, pq_J_sJ, pq_J_sR, pq_J_sA, pq_R_sI, pq_R_sJ, pq_R_sR, pq_R_sA, pq_N_sI, pq_N_sJ, pq_N_sR, pq_N_sA, pq_S_sI, pq_S_sJ, pq_S_sR, pq_S_sA, pz_rf_s, pz_cut_i, pz_cut_r, pz_cut_n, pz_cut_f, pz_cut_u, pz_cut_o, true_and, and_true, true_or, or_true, Option.toList_some, Option.toList_none, List.cons_append, List.nil_append, Nat.add_left_cancel_iff, Nat.left_eq_add, Nat.add_eq_left, Nat.reduceEqDiff, if_true, if_false, ite_true, ite_false, false_and, and_false, false_or, or_false, reduceIte, reduceCtorEq, and_self, mh_C, mh_L, mh_R, mh_J, mh_I0, mh_I, mh_Ir, mh_sI0, mh_sI, mh_sA, gu_11, gu_22, gu_r, gu_21s, gu_21c, gu_22s, gu_11s, gu_11c, gu_22c, Nat.reduceLeDiff, Nat.reduceLT, ne_eq, not_false_eq_true, not_true_eq_false, Nat.reduceEqDiff, Nat.lt_irrefl, eq_self, z_4, z_5, z_7, z_8, z_10, z_16, z_20, z_64]
    rw [if_neg (show ¬ (4 : Int32) ≤ nI i from nI_ge hi (by decide))]
    simp (disch := omega) only [nI_clamp, pz_in_nI, true_and, nar_b0]
    rw [g_pa H (by omega) c2]
    simp only [enX10_anew, uX10_anew_0, uX10_anew_0o, uX10_anew_0f, uX10_anew_1, uX10_anew_2, uX10_anew_5, uX10_anew_6, uX10_anew_8, uX10_anew_9, uX10_anew_12, uX10_anew_12o, uX10_anew_12f, uX10_anew_13, uX10_anew_16, uX10_anew_17, uX10_anew_18, uX10_anew_19, uX10_anew_20, uX10_anew_22, uX10_anew_23, uX10_anew_26, uX10_anew_26o, uX10_anew_26f, uX10_anew_27, uX10_anew_28, uX10_anew_29, uX10_anew_32, uX10_anew_32o, uX10_anew_32f, uX10_anew_33, uX10_anew_36, uX10_anew_37, uX10_anew_38, uX10_anew_39, uX10_anew_40, uX10_anew_41, uX10_anew_42, uX10_anew_43, uX10_anew_43o, uX10_anew_43f, uX10_anew_44, uX10_anew_47, uX10_anew_48, uX10_anew_49, uX10_anew_50, uX10_anew_51, uX10_anew_52, uX10_anew_53, uX10_anew_54, uX10_anew_57, uX10_anew_60, uX10_anew_63, uX10_anew_66, mo_C H, mo_R_there H, mo_C_there H, mo_L_there H, pq_C_sI, pq_C_sJ, pq_C_sR, pq_C_sA, pq_L_sI, pq_L_sJ, pq_L_sR, pq_L_sA, pq_I_sI, pq_I_sJ, pq_I_sR, pq_I_sA, pq_J_sI, pq_J_sJ, pq_J_sR, pq_J_sA, pq_R_sI, pq_R_sJ, pq_R_sR, pq_R_sA, pq_N_sI, pq_N_sJ, pq_N_sR, pq_N_sA, pq_S_sI, pq_S_sJ, pq_S_sR, pq_S_sA, pz_rf_s, pz_cut_i, pz_cut_r, pz_cut_n, pz_cut_f, pz_cut_u, pz_cut_o, true_and, and_true, true_or, or_true, Option.toList_some, Option.toList_none, List.cons_append, List.nil_append, Nat.add_left_cancel_iff, Nat.left_eq_add, Nat.add_eq_left, Nat.reduceEqDiff, if_true, if_false, ite_true, ite_false, false_and, and_false, false_or, or_false, reduceIte, reduceCtorEq, and_self, mh_C, mh_L, mh_R, mh_J, mh_I0, mh_I, mh_Ir, mh_sI0, mh_sI, mh_sA, gu_11, gu_22, gu_r, gu_21s, gu_21c, gu_22s, gu_11s, gu_11c, gu_22c, Nat.reduceLeDiff, Nat.reduceLT, ne_eq, not_false_eq_true, not_true_eq_false, Nat.reduceEqDiff, Nat.lt_irrefl, eq_self, z_4, z_5, z_7, z_8, z_10, z_16, z_20, z_64, nI_1]
    exact Iff.rfl) _ _ ⟨.retAddr 0, rfl, rfl, rfl⟩
  refine (show _ ↔ _ from key).trans ?_
  rw [uX10_anew_7]
  simp only [enX10_anew, uX10_anew_0, uX10_anew_0o, uX10_anew_0f, uX10_anew_1, uX10_anew_2, uX10_anew_5, uX10_anew_6, uX10_anew_8, uX10_anew_9, uX10_anew_12, uX10_anew_12o, uX10_anew_12f, uX10_anew_13, uX10_anew_16, uX10_anew_17, uX10_anew_18, uX10_anew_19, uX10_anew_20, uX10_anew_22, uX10_anew_23, uX10_anew_26, uX10_anew_26o, uX10_anew_26f, uX10_anew_27, uX10_anew_28, uX10_anew_29, uX10_anew_32, uX10_anew_32o, uX10_anew_32f, uX10_anew_33, uX10_anew_36, uX10_anew_37, uX10_anew_38, uX10_anew_39, uX10_anew_40, uX10_anew_41, uX10_anew_42, uX10_anew_43, uX10_anew_43o, uX10_anew_43f, uX10_anew_44, uX10_anew_47, uX10_anew_48, uX10_anew_49, uX10_anew_50, uX10_anew_51, uX10_anew_52, uX10_anew_53, uX10_anew_54, uX10_anew_57, uX10_anew_60, uX10_anew_63, uX10_anew_66, mo_C H, mo_R_there H, mo_C_there H, mo_L_there H, pq_C_sI, pq_C_sJ, pq_C_sR, pq_C_sA, pq_L_sI, pq_L_sJ, pq_L_sR, pq_L_sA, pq_I_sI, pq_I_sJ, pq_I_sR, pq_I_sA, pq_J_sI, pq_J_sJ, pq_J_sR, pq_J_sA, pq_R_sI, pq_R_sJ, pq_R_sR, pq_R_sA, pq_N_sI, pq_N_sJ, pq_N_sR, pq_N_sA, pq_S_sI, pq_S_sJ, pq_S_sR, pq_S_sA, pz_rf_s, pz_cut_i, pz_cut_r, pz_cut_n, pz_cut_f, pz_cut_u, pz_cut_o, true_and, and_true, true_or, or_true, Option.toList_some, Option.toList_none, List.cons_append, List.nil_append, Nat.add_left_cancel_iff, Nat.left_eq_add, Nat.add_eq_left, Nat.reduceEqDiff, if_true, if_false, ite_true, ite_false, false_and, and_false, false_or, or_false, reduceIte, reduceCtorEq, and_self, mh_C, mh_L, mh_R, mh_J, mh_I0, mh_I, mh_Ir, mh_sI0, mh_sI, mh_sA, gu_11, gu_22, gu_r, gu_21s, gu_21c, gu_22s, gu_11s, gu_11c, gu_22c, Nat.reduceLeDiff, Nat.reduceLT, ne_eq, not_false_eq_true, not_true_eq_false, Nat.reduceEqDiff, Nat.lt_irrefl, eq_self, z_4, z_5, z_7, z_8, z_10, z_16, z_20, z_64]
  rw [if_pos (show (4 : Int32) ≤ nI 4 by decide)]
theorem g_place (H : MO h mo) : pz_M (d + 1) mX10_place [.ref mo] (mh h mo g) Q ↔ Q (some (.int (g 0 27))) (mh h mo g) := by
  simp only [enX10_place, uX10_place_0, uX10_place_0o, uX10_place_0f, uX10_place_1, uX10_place_4, mo_C H, mo_R_there H, mo_C_there H, mo_L_there H, pq_C_sI, pq_C_sJ, pq_C_sR, pq_C_sA, pq_L_sI, pq_L_sJ, pq_L_sR, pq_L_sA, pq_I_sI, pq_I_sJ, pq_I_sR, pq_I_sA, pq_J_sI, pq_J_sJ, pq_J_sR, pq_J_sA, pq_R_sI, pq_R_sJ, pq_R_sR, pq_R_sA, pq_N_sI, pq_N_sJ, pq_N_sR, pq_N_sA, pq_S_sI, pq_S_sJ, pq_S_sR, pq_S_sA, pz_rf_s, pz_cut_i, pz_cut_r, pz_cut_n, pz_cut_f, pz_cut_u, pz_cut_o, true_and, and_true, true_or, or_true, Option.toList_some, Option.toList_none, List.cons_append, List.nil_append, Nat.add_left_cancel_iff, Nat.left_eq_add, Nat.add_eq_left, Nat.reduceEqDiff, if_true, if_false, ite_true, ite_false, false_and, and_false, false_or, or_false, reduceIte, reduceCtorEq, and_self, mh_C, mh_L, mh_R, mh_J, mh_I0, mh_I, mh_Ir, mh_sI0, mh_sI, mh_sA, gu_11, gu_22, gu_r, gu_21s, gu_21c, gu_22s, gu_11s, gu_11c, gu_22c, Nat.reduceLeDiff, Nat.reduceLT, ne_eq, not_false_eq_true, not_true_eq_false, Nat.reduceEqDiff, Nat.lt_irrefl, eq_self, z_4, z_5, z_7, z_8, z_10, z_16, z_20, z_64]
theorem g_torrent (H : MO h mo) {w : Int32} : pz_M (d + 1) mX10_torrent [.ref mo, .int w] (mh h mo g) Q ↔ Q (some (.int (if g 0 16 = 0 then -1 else if w = 0 then g 0 18 else if w = 1 then g 0 19 else if w = 2 then g 0 20 else if w = 3 then g 0 21 else -1))) (mh h mo g) := by
  simp only [enX10_torrent, uX10_torrent_0, uX10_torrent_0o, uX10_torrent_0f, uX10_torrent_1, uX10_torrent_4, uX10_torrent_7, uX10_torrent_8, uX10_torrent_9, uX10_torrent_10, uX10_torrent_13, uX10_torrent_13o, uX10_torrent_13f, uX10_torrent_14, uX10_torrent_17, uX10_torrent_20, uX10_torrent_21, uX10_torrent_22, uX10_torrent_25, uX10_torrent_25o, uX10_torrent_25f, uX10_torrent_26, uX10_torrent_29, uX10_torrent_32, uX10_torrent_33, uX10_torrent_34, uX10_torrent_37, uX10_torrent_37o, uX10_torrent_37f, uX10_torrent_38, uX10_torrent_41, uX10_torrent_44, uX10_torrent_45, uX10_torrent_46, uX10_torrent_49, uX10_torrent_49o, uX10_torrent_49f, uX10_torrent_50, uX10_torrent_53, uX10_torrent_56, uX10_torrent_57, mo_C H, mo_R_there H, mo_C_there H, mo_L_there H, pq_C_sI, pq_C_sJ, pq_C_sR, pq_C_sA, pq_L_sI, pq_L_sJ, pq_L_sR, pq_L_sA, pq_I_sI, pq_I_sJ, pq_I_sR, pq_I_sA, pq_J_sI, pq_J_sJ, pq_J_sR, pq_J_sA, pq_R_sI, pq_R_sJ, pq_R_sR, pq_R_sA, pq_N_sI, pq_N_sJ, pq_N_sR, pq_N_sA, pq_S_sI, pq_S_sJ, pq_S_sR, pq_S_sA, pz_rf_s, pz_cut_i, pz_cut_r, pz_cut_n, pz_cut_f, pz_cut_u, pz_cut_o, true_and, and_true, true_or, or_true, Option.toList_some, Option.toList_none, List.cons_append, List.nil_append, Nat.add_left_cancel_iff, Nat.left_eq_add, Nat.add_eq_left, Nat.reduceEqDiff, if_true, if_false, ite_true, ite_false, false_and, and_false, false_or, or_false, reduceIte, reduceCtorEq, and_self, mh_C, mh_L, mh_R, mh_J, mh_I0, mh_I, mh_Ir, mh_sI0, mh_sI, mh_sA, gu_11, gu_22, gu_r, gu_21s, gu_21c, gu_22s, gu_11s, gu_11c, gu_22c, Nat.reduceLeDiff, Nat.reduceLT, ne_eq, not_false_eq_true, not_true_eq_false, Nat.reduceEqDiff, Nat.lt_irrefl, eq_self, z_4, z_5, z_7, z_8, z_10, z_16, z_20, z_64]
  repeat' split
  all_goals first | rfl | contradiction | simp_all
theorem g_isIn {v n : Int32} : pz_M (d + 1) mX10_isIn [.int v, .int n] h Q ↔ Q (some (.int (if v < 0 then 0 else if v < n then 1 else 0))) h := by
  simp only [enX10_isIn, uX10_isIn_0, uX10_isIn_1, uX10_isIn_4, uX10_isIn_5, uX10_isIn_6, uX10_isIn_9, uX10_isIn_10, uX10_isIn_13, uX10_isIn_14, pq_C_sI, pq_C_sJ, pq_C_sR, pq_C_sA, pq_L_sI, pq_L_sJ, pq_L_sR, pq_L_sA, pq_I_sI, pq_I_sJ, pq_I_sR, pq_I_sA, pq_J_sI, pq_J_sJ, pq_J_sR, pq_J_sA, pq_R_sI, pq_R_sJ, pq_R_sR, pq_R_sA, pq_N_sI, pq_N_sJ, pq_N_sR, pq_N_sA, pq_S_sI, pq_S_sJ, pq_S_sR, pq_S_sA, pz_rf_s, pz_cut_i, pz_cut_r, pz_cut_n, pz_cut_f, pz_cut_u, pz_cut_o, true_and, and_true, true_or, or_true, Option.toList_some, Option.toList_none, List.cons_append, List.nil_append, Nat.add_left_cancel_iff, Nat.left_eq_add, Nat.add_eq_left, Nat.reduceEqDiff, if_true, if_false, ite_true, ite_false, false_and, and_false, false_or, or_false, reduceIte, reduceCtorEq, and_self]
  by_cases h1 : v < 0
  · rw [if_pos h1, if_pos h1]
  · rw [if_neg h1, if_neg h1]
    by_cases h2 : v < n
    · rw [if_neg (i32_nle.mpr h2), if_pos h2]
    · rw [if_pos (i32_nlt.mp h2), if_neg h2]
end
