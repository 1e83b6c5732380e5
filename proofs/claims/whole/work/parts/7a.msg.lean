/-! ===== the reference: a message ===== -/
def OA (A : St) (l c p : Nat) : Prop := TN A l c p ∧ HW A ∧ (∀ a, a < 4 → (sD A a).length ≤ 4096) ∧ (∀ a, a < 4 → sB A 18 a ≠ 0 → (sD A a).length = l) ∧ (sV A 2).length = 20 ∧ (sV A 3).length = 20 * p ∧ (∀ k, k < 25 → ∀ v, v ∈ sL A k → v / 16 < p ∧ 64 * (v % 16) < psz l c p (v / 16)) ∧ sB A 0 16 ≠ 0
def MSG (g : Tb) (m : List Int8) : Prop := g 0 54 = nI m.length ∧ SEG (g 38) 0 m
section
variable {A : St} {l c p : Nat}
/-- what OA looks at in the table -/
theorem OA_B {B : Tb} (O : OA A l c p) (h0 : ∀ j, B 0 j = sB A 0 j) (h18 : ∀ j, B 18 j = sB A 18 j) : OA (B, A.2) l c p := by
  obtain ⟨⟨t1, t2, t3, t4⟩, o2, o3, o4, o5, o6, o7, o8⟩ := O
  refine ⟨⟨(h0 18).trans t1, (h0 19).trans t2, (h0 20).trans t3, t4⟩, o2, o3, fun a ha hz => o4 a ha ?_, o5, o6, o7, ?_⟩
  · rw [← h18]; exact hz
  · rw [← h0] at o8; exact o8
theorem OA_u2 {r k : Nat} {v : Int32} (O : OA A l c p) (h0 : r ≠ 0) (h18 : r ≠ 18) : OA (pz_u2 (sB A) r k v, A.2) l c p := OA_B O (fun j => by rw [gu_22, if_neg (fun q => h0 q.1.symm)]) (fun j => by rw [gu_22, if_neg (fun q => h18 q.1.symm)])
theorem fo_0 {B : Tb} {k j : Nat} : fo B k 0 j = B 0 j := rfl
theorem fo_18 {B : Tb} {k j : Nat} : fo B k 18 j = B 18 j := rfl
theorem OA_cl {a b : Nat} {w : Int32} (O : OA A l c p) : OA (clA A a b w) l c p := by
  obtain ⟨t, o2, o3, o4, o5, o6, o7, o8⟩ := O
  refine ⟨t, ?_, o3, o4, o5, o6, ?_, o8⟩
  · exact fun j hj => HW_pr o2 j hj
  · intro k hk v hv
    have hv' : v ∈ upf (upf (sL A) (5 * a + b) []) (5 * b + a) [] k := hv
    unfold upf at hv'
    by_cases e : k = 5 * b + a
    · rw [if_pos e] at hv'; simp at hv'
    · rw [if_neg e] at hv'
      by_cases e2 : k = 5 * a + b
      · rw [if_pos e2] at hv'; simp at hv'
      · rw [if_neg e2] at hv'; exact o7 k hk v hv'
theorem OA_snd {a b : Nat} {m : List Int8} (O : OA A l c p) : OA (sndA A a b m) l c p := by
  have hw : HW (sndA A a b m) := HW_snd O.2.1
  unfold sndA at hw ⊢
  by_cases q : (sW A (5 * a + b)).length + m.length ≤ 4000
  · rw [if_pos q] at hw ⊢
    obtain ⟨t, o2, o3, o4, o5, o6, o7, o8⟩ := O
    exact ⟨t, hw, o3, o4, o5, o6, o7, o8⟩
  · rw [if_neg q]
    exact OA_cl O
theorem OA_W {k : Nat} {m : List Int8} (O : OA A l c p) (h : m.length ≤ 4000) : OA (stW A k m) l c p := by
  obtain ⟨t, o2, o3, o4, o5, o6, o7, o8⟩ := O
  refine ⟨t, fun j hj => ?_, o3, o4, o5, o6, o7, o8⟩
  show (upf (sW A) k m j).length ≤ 4000
  by_cases e : j = k
  · subst e; rw [upf_s]; exact h
  · rw [upf_n e]; exact o2 j hj
theorem OA_dr {k n : Nat} (O : OA A l c p) (hk : k < 25) : OA (drA A k n) l c p := OA_W O (by rw [List.length_drop]; have := O.2.1 k hk; omega)
end
section
variable {d : Nat} {h : PzH} {Q : Option Value → PzH → Prop} {mo : Nat} {g : Tb} {A : St} {l c p : Nat} {m : List Int8}
theorem g_field (H : MO h mo) (M : MSG g m) {i : Nat} (hi : i + 4 ≤ m.length) (hm : m.length ≤ 100) : pz_M (d + 1) mX10_field [.ref mo, .int (nI i)] (mh h mo g) Q ↔ Q (some (.long (lN (be32 m i)))) (mh h mo g) := by
  have e : ∀ j, j < m.length → g 38 j = (m.getD j 0).toInt32 := fun j hj => by have := M.2 j hj; rwa [Nat.zero_add] at this
  simp only [enX10_field, uX10_field_0, uX10_field_0o, uX10_field_0f, uX10_field_1, uX10_field_4, uX10_field_5, uX10_field_6, uX10_field_9, uX10_field_10, uX10_field_11, uX10_field_13, uX10_field_14, uX10_field_14o, uX10_field_14f, uX10_field_15, uX10_field_18, uX10_field_19, uX10_field_20, uX10_field_21, uX10_field_22, uX10_field_25, uX10_field_26, uX10_field_28, uX10_field_29, uX10_field_30, uX10_field_31, uX10_field_31o, uX10_field_31f, uX10_field_32, uX10_field_35, uX10_field_36, uX10_field_37, uX10_field_38, uX10_field_39, uX10_field_42, uX10_field_43, uX10_field_45, uX10_field_46, uX10_field_47, uX10_field_48, uX10_field_48o, uX10_field_48f, uX10_field_49, uX10_field_52, uX10_field_53, uX10_field_54, uX10_field_55, uX10_field_56, uX10_field_59, uX10_field_60, uX10_field_61, uX10_field_62, mo_C H, mo_R_message H, mo_C_message H, mo_L_message H, pq_C_sI, pq_C_sJ, pq_C_sR, pq_C_sA, pq_L_sI, pq_L_sJ, pq_L_sR, pq_L_sA, pq_I_sI, pq_I_sJ, pq_I_sR, pq_I_sA, pq_J_sI, pq_J_sJ, pq_J_sR, pq_J_sA, pq_R_sI, pq_R_sJ, pq_R_sR, pq_R_sA, pq_N_sI, pq_N_sJ, pq_N_sR, pq_N_sA, pq_S_sI, pq_S_sJ, pq_S_sR, pq_S_sA, pz_rf_s, pz_cut_i, pz_cut_r, pz_cut_n, pz_cut_f, pz_cut_u, pz_cut_o, true_and, and_true, true_or, or_true, Option.toList_some, Option.toList_none, List.cons_append, List.nil_append, Nat.add_left_cancel_iff, Nat.left_eq_add, Nat.add_eq_left, Nat.reduceEqDiff, if_true, if_false, ite_true, ite_false, false_and, and_false, false_or, or_false, reduceIte, reduceCtorEq, and_self, mh_C, mh_L, mh_R, mh_J, mh_I0, mh_I, mh_Ir, mh_sI0, mh_sI, mh_sA, gu_11, gu_22, gu_r, gu_21s, gu_21c, gu_22s, gu_11s, gu_11c, gu_22c, Nat.reduceLeDiff, Nat.reduceLT, ne_eq, not_false_eq_true, not_true_eq_false, Nat.reduceEqDiff, Nat.lt_irrefl, eq_self, z_4, z_5, z_7, z_8, z_10, z_16, z_20, z_64, nI_1, show (2 : Int32) = nI 2 from rfl, show (3 : Int32) = nI 3 from rfl, nI_add]
  simp (disch := omega) only [nI_clamp, pz_in_nI, true_and, e i (by omega), e (i + 1) (by omega), e (i + 2) (by omega), e (i + 3) (by omega), ub_and]
  rw [be_or (ub_lt _) (ub_lt _) (ub_lt _) (ub_lt _)]
  exact Iff.rfl
theorem g_shuts (H : MO h mo) {a b : Nat} (ha : a < 5) (hb : b < 5) {v : Int32} : pz_M (d + 4) mX10_shuts [.ref mo, .int (nI a), .int (nI b), .int v] (mh h mo g) Q ↔ Q (some (.int (20 + v))) (mh h mo (clG g a b v)) := by
  simp only [enX10_shuts, uX10_shuts_0, uX10_shuts_0o, uX10_shuts_0f, uX10_shuts_1, uX10_shuts_2, uX10_shuts_3, uX10_shuts_4, uX10_shuts_7, uX10_shuts_9, uX10_shuts_10, uX10_shuts_11, mo_C H, mo_R_message H, mo_C_message H, mo_L_message H, pq_C_sI, pq_C_sJ, pq_C_sR, pq_C_sA, pq_L_sI, pq_L_sJ, pq_L_sR, pq_L_sA, pq_I_sI, pq_I_sJ, pq_I_sR, pq_I_sA, pq_J_sI, pq_J_sJ, pq_J_sR, pq_J_sA, pq_R_sI, pq_R_sJ, pq_R_sR, pq_R_sA, pq_N_sI, pq_N_sJ, pq_N_sR, pq_N_sA, pq_S_sI, pq_S_sJ, pq_S_sR, pq_S_sA, pz_rf_s, pz_cut_i, pz_cut_r, pz_cut_n, pz_cut_f, pz_cut_u, pz_cut_o, true_and, and_true, true_or, or_true, Option.toList_some, Option.toList_none, List.cons_append, List.nil_append, Nat.add_left_cancel_iff, Nat.left_eq_add, Nat.add_eq_left, Nat.reduceEqDiff, if_true, if_false, ite_true, ite_false, false_and, and_false, false_or, or_false, reduceIte, reduceCtorEq, and_self, mh_C, mh_L, mh_R, mh_J, mh_I0, mh_I, mh_Ir, mh_sI0, mh_sI, mh_sA, gu_11, gu_22, gu_r, gu_21s, gu_21c, gu_22s, gu_11s, gu_11c, gu_22c, Nat.reduceLeDiff, Nat.reduceLT, ne_eq, not_false_eq_true, not_true_eq_false, Nat.reduceEqDiff, Nat.lt_irrefl, eq_self, z_4, z_5, z_7, z_8, z_10, z_16, z_20, z_64, g_closed H ha hb]
theorem RM_cl {a b : Nat} {v : Int32} {m : List Int8} (R : RM g A m) : RM (clG g a b v) (clA A a b v) m := ⟨RG_cl R.1, R.2.1, R.2.2⟩
/-- a message's length fits its kind -/
def szd (w n p : Nat) : Prop := if w = 4 then n = 5 else if w = 5 then n = 1 + (p + 7) / 8 else if w = 6 ∨ w = 8 then n = 13 else if w = 7 then 10 ≤ n ∧ n ≤ 73 else n = 1
theorem szd_d (w n p : Nat) : szd w n p ∨ ¬ szd w n p := Classical.em _
theorem g_isSized (H : MO h mo) (F : FLE g (sB A)) (T : TN A l c p) (M : MSG g m) (hm : m.length ≤ 100) {w : Nat} (hw : w ≤ 8) (K1 : szd w m.length p → Q (some (.int 1)) (mh h mo g)) (K0 : ¬ szd w m.length p → Q (some (.int 0)) (mh h mo g)) : pz_M (d + 1) mX10_isSized [.ref mo, .int (nI w)] (mh h mo g) Q := by
  have e20 := (F 0 20 (Or.inr ⟨rfl, by decide⟩)).trans T.2.2.1
  have t6 := T.2.2.2.2.2.1
  have M1 := M.1
  unfold szd at K1 K0
  rw [enX10_isSized, uX10_isSized_0, uX10_isSized_1]
  have neq : ∀ {a b : Nat}, a < 2 ^ 31 → b < 2 ^ 31 → a ≠ b → ¬ nI a = nI b := fun ha hb q z => q ((nI_eq ha hb).mp z)
  have hc : w = 0 ∨ w = 1 ∨ w = 2 ∨ w = 3 ∨ w = 4 ∨ w = 5 ∨ w = 6 ∨ w = 7 ∨ w = 8 := by omega
  have one : ∀ k : Int32, pz_sw 1 113 4 8 #[35, 49, 74, 89, 74] k = 114 → (m.length = 1 → Q (some (.int 1)) (mh h mo g)) → (¬ m.length = 1 → Q (some (.int 0)) (mh h mo g)) → wp d mX10_isSized (pz_sw 1 113 4 8 #[35, 49, 74, 89, 74] k) [.ref mo, .int k] [] (mh h mo g) Q := by
    intro k ek k1 k0
    rw [ek]
    simp only [enX10_isSized, uX10_isSized_0, uX10_isSized_1, uX10_isSized_36, uX10_isSized_36o, uX10_isSized_36f, uX10_isSized_37, uX10_isSized_40, uX10_isSized_41, uX10_isSized_44, uX10_isSized_45, uX10_isSized_48, uX10_isSized_49, uX10_isSized_50, uX10_isSized_50o, uX10_isSized_50f, uX10_isSized_51, uX10_isSized_54, uX10_isSized_55, uX10_isSized_55o, uX10_isSized_55f, uX10_isSized_56, uX10_isSized_59, uX10_isSized_61, uX10_isSized_62, uX10_isSized_64, uX10_isSized_65, uX10_isSized_66, uX10_isSized_69, uX10_isSized_70, uX10_isSized_73, uX10_isSized_74, uX10_isSized_75, uX10_isSized_75o, uX10_isSized_75f, uX10_isSized_76, uX10_isSized_79, uX10_isSized_81, uX10_isSized_84, uX10_isSized_85, uX10_isSized_88, uX10_isSized_89, uX10_isSized_90, uX10_isSized_90o, uX10_isSized_90f, uX10_isSized_91, uX10_isSized_94, uX10_isSized_96, uX10_isSized_99, uX10_isSized_99o, uX10_isSized_99f, uX10_isSized_100, uX10_isSized_103, uX10_isSized_105, uX10_isSized_108, uX10_isSized_109, uX10_isSized_112, uX10_isSized_113, uX10_isSized_114, uX10_isSized_114o, uX10_isSized_114f, uX10_isSized_115, uX10_isSized_118, uX10_isSized_119, uX10_isSized_122, uX10_isSized_123, uX10_isSized_126, uX10_isSized_127, mo_C H, mo_R_message H, mo_C_message H, mo_L_message H, pq_C_sI, pq_C_sJ, pq_C_sR, pq_C_sA, pq_L_sI, pq_L_sJ, pq_L_sR, pq_L_sA, pq_I_sI, pq_I_sJ, pq_I_sR, pq_I_sA, pq_J_sI, pq_J_sJ, pq_J_sR, pq_J_sA, pq_R_sI, pq_R_sJ, pq_R_sR, pq_R_sA, pq_N_sI, pq_N_sJ, pq_N_sR, pq_N_sA, pq_S_sI, pq_S_sJ, pq_S_sR, pq_S_sA, pz_rf_s, pz_cut_i, pz_cut_r, pz_cut_n, pz_cut_f, pz_cut_u, pz_cut_o, true_and, and_true, true_or, or_true, Option.toList_some, Option.toList_none, List.cons_append, List.nil_append, Nat.add_left_cancel_iff, Nat.left_eq_add, Nat.add_eq_left, Nat.reduceEqDiff, if_true, if_false, ite_true, ite_false, false_and, and_false, false_or, or_false, reduceIte, reduceCtorEq, and_self, mh_C, mh_L, mh_R, mh_J, mh_I0, mh_I, mh_Ir, mh_sI0, mh_sI, mh_sA, gu_11, gu_22, gu_r, gu_21s, gu_21c, gu_22s, gu_11s, gu_11c, gu_22c, Nat.reduceLeDiff, Nat.reduceLT, ne_eq, not_false_eq_true, not_true_eq_false, Nat.reduceEqDiff, Nat.lt_irrefl, eq_self, z_4, z_5, z_7, z_8, z_10, z_16, z_20, z_64, M1]
    by_cases q : m.length = 1
    · rw [if_neg (fun z => z (by rw [q]; rfl))]; exact k1 q
    · rw [if_pos (show ¬ nI m.length = 1 from neq (b := 1) (by omega) (by decide) q)]; exact k0 q
  have thir : ∀ k : Int32, pz_sw 1 113 4 8 #[35, 49, 74, 89, 74] k = 75 → (m.length = 13 → Q (some (.int 1)) (mh h mo g)) → (¬ m.length = 13 → Q (some (.int 0)) (mh h mo g)) → wp d mX10_isSized (pz_sw 1 113 4 8 #[35, 49, 74, 89, 74] k) [.ref mo, .int k] [] (mh h mo g) Q := by
    intro k ek k1 k0
    rw [ek]
    simp only [enX10_isSized, uX10_isSized_0, uX10_isSized_1, uX10_isSized_36, uX10_isSized_36o, uX10_isSized_36f, uX10_isSized_37, uX10_isSized_40, uX10_isSized_41, uX10_isSized_44, uX10_isSized_45, uX10_isSized_48, uX10_isSized_49, uX10_isSized_50, uX10_isSized_50o, uX10_isSized_50f, uX10_isSized_51, uX10_isSized_54, uX10_isSized_55, uX10_isSized_55o, uX10_isSized_55f, uX10_isSized_56, uX10_isSized_59, uX10_isSized_61, uX10_isSized_62, uX10_isSized_64, uX10_isSized_65, uX10_isSized_66, uX10_isSized_69, uX10_isSized_70, uX10_isSized_73, uX10_isSized_74, uX10_isSized_75, uX10_isSized_75o, uX10_isSized_75f, uX10_isSized_76, uX10_isSized_79, uX10_isSized_81, uX10_isSized_84, uX10_isSized_85, uX10_isSized_88, uX10_isSized_89, uX10_isSized_90, uX10_isSized_90o, uX10_isSized_90f, uX10_isSized_91, uX10_isSized_94, uX10_isSized_96, uX10_isSized_99, uX10_isSized_99o, uX10_isSized_99f, uX10_isSized_100, uX10_isSized_103, uX10_isSized_105, uX10_isSized_108, uX10_isSized_109, uX10_isSized_112, uX10_isSized_113, uX10_isSized_114, uX10_isSized_114o, uX10_isSized_114f, uX10_isSized_115, uX10_isSized_118, uX10_isSized_119, uX10_isSized_122, uX10_isSized_123, uX10_isSized_126, uX10_isSized_127, mo_C H, mo_R_message H, mo_C_message H, mo_L_message H, pq_C_sI, pq_C_sJ, pq_C_sR, pq_C_sA, pq_L_sI, pq_L_sJ, pq_L_sR, pq_L_sA, pq_I_sI, pq_I_sJ, pq_I_sR, pq_I_sA, pq_J_sI, pq_J_sJ, pq_J_sR, pq_J_sA, pq_R_sI, pq_R_sJ, pq_R_sR, pq_R_sA, pq_N_sI, pq_N_sJ, pq_N_sR, pq_N_sA, pq_S_sI, pq_S_sJ, pq_S_sR, pq_S_sA, pz_rf_s, pz_cut_i, pz_cut_r, pz_cut_n, pz_cut_f, pz_cut_u, pz_cut_o, true_and, and_true, true_or, or_true, Option.toList_some, Option.toList_none, List.cons_append, List.nil_append, Nat.add_left_cancel_iff, Nat.left_eq_add, Nat.add_eq_left, Nat.reduceEqDiff, if_true, if_false, ite_true, ite_false, false_and, and_false, false_or, or_false, reduceIte, reduceCtorEq, and_self, mh_C, mh_L, mh_R, mh_J, mh_I0, mh_I, mh_Ir, mh_sI0, mh_sI, mh_sA, gu_11, gu_22, gu_r, gu_21s, gu_21c, gu_22s, gu_11s, gu_11c, gu_22c, Nat.reduceLeDiff, Nat.reduceLT, ne_eq, not_false_eq_true, not_true_eq_false, Nat.reduceEqDiff, Nat.lt_irrefl, eq_self, z_4, z_5, z_7, z_8, z_10, z_16, z_20, z_64, M1]
    by_cases q : m.length = 13
    · rw [if_neg (fun z => z (by rw [q]; rfl))]; exact k1 q
    · rw [if_pos (show ¬ nI m.length = 13 from neq (b := 13) (by omega) (by decide) q)]; exact k0 q
  rcases hc with rfl | rfl | rfl | rfl | rfl | rfl | rfl | rfl | rfl
  · exact one _ (by decide) (fun q => K1 (by simpa using q)) (fun q => K0 (by simpa using q))
  · exact one _ (by decide) (fun q => K1 (by simpa using q)) (fun q => K0 (by simpa using q))
  · exact one _ (by decide) (fun q => K1 (by simpa using q)) (fun q => K0 (by simpa using q))
  · exact one _ (by decide) (fun q => K1 (by simpa using q)) (fun q => K0 (by simpa using q))
  · rw [show pz_sw 1 113 4 8 #[35, 49, 74, 89, 74] (nI 4) = 36 by decide]
    simp only [enX10_isSized, uX10_isSized_0, uX10_isSized_1, uX10_isSized_36, uX10_isSized_36o, uX10_isSized_36f, uX10_isSized_37, uX10_isSized_40, uX10_isSized_41, uX10_isSized_44, uX10_isSized_45, uX10_isSized_48, uX10_isSized_49, uX10_isSized_50, uX10_isSized_50o, uX10_isSized_50f, uX10_isSized_51, uX10_isSized_54, uX10_isSized_55, uX10_isSized_55o, uX10_isSized_55f, uX10_isSized_56, uX10_isSized_59, uX10_isSized_61, uX10_isSized_62, uX10_isSized_64, uX10_isSized_65, uX10_isSized_66, uX10_isSized_69, uX10_isSized_70, uX10_isSized_73, uX10_isSized_74, uX10_isSized_75, uX10_isSized_75o, uX10_isSized_75f, uX10_isSized_76, uX10_isSized_79, uX10_isSized_81, uX10_isSized_84, uX10_isSized_85, uX10_isSized_88, uX10_isSized_89, uX10_isSized_90, uX10_isSized_90o, uX10_isSized_90f, uX10_isSized_91, uX10_isSized_94, uX10_isSized_96, uX10_isSized_99, uX10_isSized_99o, uX10_isSized_99f, uX10_isSized_100, uX10_isSized_103, uX10_isSized_105, uX10_isSized_108, uX10_isSized_109, uX10_isSized_112, uX10_isSized_113, uX10_isSized_114, uX10_isSized_114o, uX10_isSized_114f, uX10_isSized_115, uX10_isSized_118, uX10_isSized_119, uX10_isSized_122, uX10_isSized_123, uX10_isSized_126, uX10_isSized_127, mo_C H, mo_R_message H, mo_C_message H, mo_L_message H, pq_C_sI, pq_C_sJ, pq_C_sR, pq_C_sA, pq_L_sI, pq_L_sJ, pq_L_sR, pq_L_sA, pq_I_sI, pq_I_sJ, pq_I_sR, pq_I_sA, pq_J_sI, pq_J_sJ, pq_J_sR, pq_J_sA, pq_R_sI, pq_R_sJ, pq_R_sR, pq_R_sA, pq_N_sI, pq_N_sJ, pq_N_sR, pq_N_sA, pq_S_sI, pq_S_sJ, pq_S_sR, pq_S_sA, pz_rf_s, pz_cut_i, pz_cut_r, pz_cut_n, pz_cut_f, pz_cut_u, pz_cut_o, true_and, and_true, true_or, or_true, Option.toList_some, Option.toList_none, List.cons_append, List.nil_append, Nat.add_left_cancel_iff, Nat.left_eq_add, Nat.add_eq_left, Nat.reduceEqDiff, if_true, if_false, ite_true, ite_false, false_and, and_false, false_or, or_false, reduceIte, reduceCtorEq, and_self, mh_C, mh_L, mh_R, mh_J, mh_I0, mh_I, mh_Ir, mh_sI0, mh_sI, mh_sA, gu_11, gu_22, gu_r, gu_21s, gu_21c, gu_22s, gu_11s, gu_11c, gu_22c, Nat.reduceLeDiff, Nat.reduceLT, ne_eq, not_false_eq_true, not_true_eq_false, Nat.reduceEqDiff, Nat.lt_irrefl, eq_self, z_4, z_5, z_7, z_8, z_10, z_16, z_20, z_64, M1]
    by_cases q : m.length = 5
    · rw [if_neg (fun z => z (by rw [q]; rfl))]; exact K1 (by simpa using q)
    · rw [if_pos (show ¬ nI m.length = 5 from neq (b := 5) (by omega) (by decide) q)]; exact K0 (by simpa using q)
  · rw [show pz_sw 1 113 4 8 #[35, 49, 74, 89, 74] (nI 5) = 50 by decide]
    simp only [enX10_isSized, uX10_isSized_0, uX10_isSized_1, uX10_isSized_36, uX10_isSized_36o, uX10_isSized_36f, uX10_isSized_37, uX10_isSized_40, uX10_isSized_41, uX10_isSized_44, uX10_isSized_45, uX10_isSized_48, uX10_isSized_49, uX10_isSized_50, uX10_isSized_50o, uX10_isSized_50f, uX10_isSized_51, uX10_isSized_54, uX10_isSized_55, uX10_isSized_55o, uX10_isSized_55f, uX10_isSized_56, uX10_isSized_59, uX10_isSized_61, uX10_isSized_62, uX10_isSized_64, uX10_isSized_65, uX10_isSized_66, uX10_isSized_69, uX10_isSized_70, uX10_isSized_73, uX10_isSized_74, uX10_isSized_75, uX10_isSized_75o, uX10_isSized_75f, uX10_isSized_76, uX10_isSized_79, uX10_isSized_81, uX10_isSized_84, uX10_isSized_85, uX10_isSized_88, uX10_isSized_89, uX10_isSized_90, uX10_isSized_90o, uX10_isSized_90f, uX10_isSized_91, uX10_isSized_94, uX10_isSized_96, uX10_isSized_99, uX10_isSized_99o, uX10_isSized_99f, uX10_isSized_100, uX10_isSized_103, uX10_isSized_105, uX10_isSized_108, uX10_isSized_109, uX10_isSized_112, uX10_isSized_113, uX10_isSized_114, uX10_isSized_114o, uX10_isSized_114f, uX10_isSized_115, uX10_isSized_118, uX10_isSized_119, uX10_isSized_122, uX10_isSized_123, uX10_isSized_126, uX10_isSized_127, mo_C H, mo_R_message H, mo_C_message H, mo_L_message H, pq_C_sI, pq_C_sJ, pq_C_sR, pq_C_sA, pq_L_sI, pq_L_sJ, pq_L_sR, pq_L_sA, pq_I_sI, pq_I_sJ, pq_I_sR, pq_I_sA, pq_J_sI, pq_J_sJ, pq_J_sR, pq_J_sA, pq_R_sI, pq_R_sJ, pq_R_sR, pq_R_sA, pq_N_sI, pq_N_sJ, pq_N_sR, pq_N_sA, pq_S_sI, pq_S_sJ, pq_S_sR, pq_S_sA, pz_rf_s, pz_cut_i, pz_cut_r, pz_cut_n, pz_cut_f, pz_cut_u, pz_cut_o, true_and, and_true, true_or, or_true, Option.toList_some, Option.toList_none, List.cons_append, List.nil_append, Nat.add_left_cancel_iff, Nat.left_eq_add, Nat.add_eq_left, Nat.reduceEqDiff, if_true, if_false, ite_true, ite_false, false_and, and_false, false_or, or_false, reduceIte, reduceCtorEq, and_self, mh_C, mh_L, mh_R, mh_J, mh_I0, mh_I, mh_Ir, mh_sI0, mh_sI, mh_sA, gu_11, gu_22, gu_r, gu_21s, gu_21c, gu_22s, gu_11s, gu_11c, gu_22c, Nat.reduceLeDiff, Nat.reduceLT, ne_eq, not_false_eq_true, not_true_eq_false, Nat.reduceEqDiff, Nat.lt_irrefl, eq_self, z_4, z_5, z_7, z_8, z_10, z_16, z_20, z_64, M1, e20]
    rw [show nI p + 7 = nI (p + 7) from nI_add p 7, show (8 : Int32) = nI 8 from rfl, pk_div (by omega) (by decide) (by decide), show 1 + nI ((p + 7) / 8) = nI (1 + (p + 7) / 8) from nI_add 1 _]
    by_cases q : m.length = 1 + (p + 7) / 8
    · rw [if_neg (fun z => z (by rw [q]))]; exact K1 (by simpa using q)
    · rw [if_pos (neq (by omega) (by omega) q)]; exact K0 (by simpa using q)
  · exact thir _ (by decide) (fun q => K1 (by simpa using q)) (fun q => K0 (by simpa using q))
  · rw [show pz_sw 1 113 4 8 #[35, 49, 74, 89, 74] (nI 7) = 90 by decide]
    simp only [enX10_isSized, uX10_isSized_0, uX10_isSized_1, uX10_isSized_36, uX10_isSized_36o, uX10_isSized_36f, uX10_isSized_37, uX10_isSized_40, uX10_isSized_41, uX10_isSized_44, uX10_isSized_45, uX10_isSized_48, uX10_isSized_49, uX10_isSized_50, uX10_isSized_50o, uX10_isSized_50f, uX10_isSized_51, uX10_isSized_54, uX10_isSized_55, uX10_isSized_55o, uX10_isSized_55f, uX10_isSized_56, uX10_isSized_59, uX10_isSized_61, uX10_isSized_62, uX10_isSized_64, uX10_isSized_65, uX10_isSized_66, uX10_isSized_69, uX10_isSized_70, uX10_isSized_73, uX10_isSized_74, uX10_isSized_75, uX10_isSized_75o, uX10_isSized_75f, uX10_isSized_76, uX10_isSized_79, uX10_isSized_81, uX10_isSized_84, uX10_isSized_85, uX10_isSized_88, uX10_isSized_89, uX10_isSized_90, uX10_isSized_90o, uX10_isSized_90f, uX10_isSized_91, uX10_isSized_94, uX10_isSized_96, uX10_isSized_99, uX10_isSized_99o, uX10_isSized_99f, uX10_isSized_100, uX10_isSized_103, uX10_isSized_105, uX10_isSized_108, uX10_isSized_109, uX10_isSized_112, uX10_isSized_113, uX10_isSized_114, uX10_isSized_114o, uX10_isSized_114f, uX10_isSized_115, uX10_isSized_118, uX10_isSized_119, uX10_isSized_122, uX10_isSized_123, uX10_isSized_126, uX10_isSized_127, mo_C H, mo_R_message H, mo_C_message H, mo_L_message H, pq_C_sI, pq_C_sJ, pq_C_sR, pq_C_sA, pq_L_sI, pq_L_sJ, pq_L_sR, pq_L_sA, pq_I_sI, pq_I_sJ, pq_I_sR, pq_I_sA, pq_J_sI, pq_J_sJ, pq_J_sR, pq_J_sA, pq_R_sI, pq_R_sJ, pq_R_sR, pq_R_sA, pq_N_sI, pq_N_sJ, pq_N_sR, pq_N_sA, pq_S_sI, pq_S_sJ, pq_S_sR, pq_S_sA, pz_rf_s, pz_cut_i, pz_cut_r, pz_cut_n, pz_cut_f, pz_cut_u, pz_cut_o, true_and, and_true, true_or, or_true, Option.toList_some, Option.toList_none, List.cons_append, List.nil_append, Nat.add_left_cancel_iff, Nat.left_eq_add, Nat.add_eq_left, Nat.reduceEqDiff, if_true, if_false, ite_true, ite_false, false_and, and_false, false_or, or_false, reduceIte, reduceCtorEq, and_self, mh_C, mh_L, mh_R, mh_J, mh_I0, mh_I, mh_Ir, mh_sI0, mh_sI, mh_sA, gu_11, gu_22, gu_r, gu_21s, gu_21c, gu_22s, gu_11s, gu_11c, gu_22c, Nat.reduceLeDiff, Nat.reduceLT, ne_eq, not_false_eq_true, not_true_eq_false, Nat.reduceEqDiff, Nat.lt_irrefl, eq_self, z_4, z_5, z_7, z_8, z_10, z_16, z_20, z_64, M1]
    by_cases q : 10 ≤ m.length
    · rw [if_neg (show ¬ nI m.length < 10 from nI_nlt (b := 10) q (by omega))]
      by_cases q2 : m.length ≤ 73
      · rw [if_neg (show ¬ 73 < nI m.length from nI_nlt (a := 73) q2 (by decide))]; exact K1 (by simp [q, q2])
      · rw [if_pos (show 73 < nI m.length from nI_lt (a := 73) (by omega) (by omega))]; exact K0 (by simp [q2])
    · rw [if_pos (show nI m.length < 10 from nI_lt (b := 10) (by omega) (by decide))]; exact K0 (by simp [q])
  · exact thir _ (by decide) (fun q => K1 (by simpa using q)) (fun q => K0 (by simpa using q))
end
