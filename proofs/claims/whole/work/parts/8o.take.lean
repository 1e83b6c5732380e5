/-! ===== the class: takeAsked, writeBlock, isAt ===== -/
def dlA (A : St) (k v : Nat) : St := (sB A, sW A, sV A, sD A, upf (sL A) k ((sL A k).erase v), sF A)
section
variable {d : Nat} {h : PzH} {Q : Option Value → PzH → Prop} {A : St} {l c p : Nat}
theorem c_takeAsked (R : RC h A) {a b j : Nat} (ha : a < 5) (hb : b < 5) (hab : a ≠ b) {Y : List Nat} (P1 : Y.Perm (sL A (5 * a + b))) (Y4 : Y.length ≤ 4) (Yv : ∀ v, v ∈ Y → v < 1024) (Yf : ∀ i, i < Y.length → pz_I h (lkA (5 * a + b) + 3) i = nI (Y.getD i 0)) (hj : j < Y.length) (K : ∀ h', HF (lkC (5 * a + b)) h h' → RC h' (dlA A (5 * a + b) (Y.getD j 0)) → Q (some (.int (nI (Y.getD j 0)))) h') : pz_M (d + 1) mX3_takeAsked [.ref (lkA (5 * a + b)), .int (nI j)] h Q := by
  obtain ⟨⟨k1, k2, k3, k4, k5⟩, L⟩ := LN_of R ha hb hab
  obtain ⟨r0, r1, r3, r4, r5, r6, r7, r8, r9, r10, r12, _, r13, rw⟩ := L
  have ml : Y.length = (sL A (5 * a + b)).length := P1.length_eq
  rw [← ml] at r12
  have ej := Yf j hj
  have el := Yf (Y.length - 1) (by omega)
  have ne : ∀ i, i ≠ 0 → ¬ lkA (5 * a + b) + i = lkA (5 * a + b) := fun i hi => by omega
  have hmem : Y.getD j 0 ∈ sL A (5 * a + b) := P1.mem_iff.mp (by
    have : Y.getD j 0 = Y[j] := by simp [List.getD, hj]
    rw [this]
    exact List.getElem_mem hj)
  have hin : pz_in (nI j) 4 = true := pz_in_nI (by omega) (by decide)
  have hin2 : pz_in (nI (Y.length - 1)) 4 = true := pz_in_nI (by omega) (by decide)
  have es : nI Y.length - 1 = nI (Y.length - 1) := pk_sub (b := 1) (by omega)
  simp only [enX3_takeAsked, uX3_takeAsked_0, uX3_takeAsked_1, uX3_takeAsked_4, uX3_takeAsked_5, uX3_takeAsked_5o, uX3_takeAsked_5f, uX3_takeAsked_6, uX3_takeAsked_9, uX3_takeAsked_12, uX3_takeAsked_13, uX3_takeAsked_14, uX3_takeAsked_14o, uX3_takeAsked_14f, uX3_takeAsked_15, uX3_takeAsked_18, uX3_takeAsked_19, uX3_takeAsked_20, uX3_takeAsked_21, uX3_takeAsked_21o, uX3_takeAsked_21f, uX3_takeAsked_22, uX3_takeAsked_23, uX3_takeAsked_26, uX3_takeAsked_27, uX3_takeAsked_28, uX3_takeAsked_31, uX3_takeAsked_31o, uX3_takeAsked_31f, uX3_takeAsked_32, uX3_takeAsked_35, uX3_takeAsked_36, uX3_takeAsked_36o, uX3_takeAsked_36f, uX3_takeAsked_37, uX3_takeAsked_40, uX3_takeAsked_40o, uX3_takeAsked_40f, uX3_takeAsked_41, uX3_takeAsked_44, uX3_takeAsked_45, uX3_takeAsked_46, uX3_takeAsked_47, pq_C_sI, pq_C_sJ, pq_C_sR, pq_C_sA, pq_L_sI, pq_L_sJ, pq_L_sR, pq_L_sA, pq_I_sI, pq_I_sJ, pq_I_sR, pq_I_sA, pq_J_sI, pq_J_sJ, pq_J_sR, pq_J_sA, pq_R_sI, pq_R_sJ, pq_R_sR, pq_R_sA, pq_N_sI, pq_N_sJ, pq_N_sR, pq_N_sA, pq_S_sI, pq_S_sJ, pq_S_sR, pq_S_sA, pz_rf_s, pz_cut_i, pz_cut_r, pz_cut_n, pz_cut_f, pz_cut_u, pz_cut_o, true_and, and_true, true_or, or_true, Option.toList_some, Option.toList_none, List.cons_append, List.nil_append, Nat.add_left_cancel_iff, Nat.left_eq_add, Nat.add_eq_left, Nat.reduceEqDiff, if_true, if_false, ite_true, ite_false, false_and, and_false, false_or, or_false, reduceIte, reduceCtorEq, and_self, z_4, z_5, z_7, z_8, z_10, z_16, z_20, z_64, not_false_eq_true, k1, k3, k4, k5, r12, hin, nI_clamp (show j < 2 ^ 31 by omega), ej, es, ne 3 (by decide), hin2, nI_clamp (show Y.length - 1 < 2 ^ 31 by omega), el]
  rw [if_neg (nI_pos (by omega)), if_pos (nI_lt hj (by omega))]
  generalize hk : lkA (5 * a + b) = k at *
  have f : HF (lkC (5 * a + b)) h (pz_sI (pz_sI h k 12 (nI (Y.length - 1))) (k + 3) j (nI (Y.getD (Y.length - 1) 0))) := HF_trans (HF_sI (lkC_m.mpr (by omega))) (HF_sI (lkC_m.mpr (by omega)))
  have f2 : HF [k, k + 3] h (pz_sI (pz_sI h k 12 (nI (Y.length - 1))) (k + 3) j (nI (Y.getD (Y.length - 1) 0))) := HF_trans (HF_sI (by simp)) (HF_sI (by simp))
  refine K _ f (RC_lk R ha hb hab f ?_ (fun _ => rfl) rfl rfl rfl (fun _ _ => rfl) (fun _ _ _ _ => rfl) (fun _ _ _ _ => rfl) (fun i hi => upf_n hi) (fun _ _ => rfl))
  have iv : ∀ i, pz_I (pz_sI (pz_sI h k 12 (nI (Y.length - 1))) (k + 3) j (nI (Y.getD (Y.length - 1) 0))) k i = if i = 12 then nI (Y.length - 1) else pz_I h k i := by
    intro i
    rw [pq_I_sI, if_neg (fun z => by omega), pq_I_sI]
    by_cases e : i = 12
    · rw [if_pos ⟨rfl, e⟩, if_pos e]
    · rw [if_neg (fun z => e z.2), if_neg e]
  have i3 : pz_I (pz_sI (pz_sI h k 12 (nI (Y.length - 1))) (k + 3) j (nI (Y.getD (Y.length - 1) 0))) (k + 3) = upd (pz_I h (k + 3)) j (nI (Y.getD (Y.length - 1) 0)) := by
    funext i
    rw [pq_I_sI]
    unfold upd
    by_cases e : i = j
    · rw [if_pos ⟨rfl, e⟩, if_pos e]
    · rw [if_neg (fun z => e z.2), if_neg e, pq_I_sI, if_neg (fun z => by omega)]
  unfold LR
  rw [hk, i3, iv 0, iv 1, iv 3, iv 4, iv 5, iv 6, iv 7, iv 8, iv 9, iv 12, iv 13]
  have eL : sL (dlA A (5 * a + b) (Y.getD j 0)) (5 * a + b) = (sL A (5 * a + b)).erase (Y.getD j 0) := upf_s
  rw [eL]
  have pm : ((Y.set j (Y.getD (Y.length - 1) 0)).take (Y.length - 1)).Perm ((sL A (5 * a + b)).erase (Y.getD j 0)) := by
    have := (P1.symm.trans (swap_rem hj)).erase (Y.getD j 0)
    rw [List.erase_cons_head] at this
    exact this.symm
  have lM : ((Y.set j (Y.getD (Y.length - 1) 0)).take (Y.length - 1)).length = Y.length - 1 := by simp
  refine ⟨r0, r1, r3, r4, r5, r6, r7, r8, r9, r10, ?_, ⟨_, pm, by omega, fun v hv => ?_, fun i hi => ?_⟩, r13, ROW_fr rw f2 (by simp) (by simp)⟩
  · rw [← pm.length_eq, lM]
    rfl
  · exact Yv v (P1.mem_iff.mpr (List.mem_of_mem_erase (pm.mem_iff.mp hv)))
  · rw [lM] at hi
    rw [getD_take hi]
    by_cases e : i = j
    · subst e
      rw [pk_us]
      simp [List.getD, hj]
    · rw [pk_un e, Yf i (by omega)]
      simp [List.getD, List.getElem?_set, show ¬ j = i from fun z => e z.symm]
theorem c_takeNone {k : Nat} (hC : pz_C h k = 3) : pz_M (d + 1) mX3_takeAsked [.ref k, .int (-1)] h Q ↔ Q (some (.int (-1))) h := by
  simp only [enX3_takeAsked, uX3_takeAsked_0, uX3_takeAsked_1, uX3_takeAsked_4, uX3_takeAsked_5, uX3_takeAsked_5o, uX3_takeAsked_5f, uX3_takeAsked_6, uX3_takeAsked_9, uX3_takeAsked_12, uX3_takeAsked_13, uX3_takeAsked_14, uX3_takeAsked_14o, uX3_takeAsked_14f, uX3_takeAsked_15, uX3_takeAsked_18, uX3_takeAsked_19, uX3_takeAsked_20, uX3_takeAsked_21, uX3_takeAsked_21o, uX3_takeAsked_21f, uX3_takeAsked_22, uX3_takeAsked_23, uX3_takeAsked_26, uX3_takeAsked_27, uX3_takeAsked_28, uX3_takeAsked_31, uX3_takeAsked_31o, uX3_takeAsked_31f, uX3_takeAsked_32, uX3_takeAsked_35, uX3_takeAsked_36, uX3_takeAsked_36o, uX3_takeAsked_36f, uX3_takeAsked_37, uX3_takeAsked_40, uX3_takeAsked_40o, uX3_takeAsked_40f, uX3_takeAsked_41, uX3_takeAsked_44, uX3_takeAsked_45, uX3_takeAsked_46, uX3_takeAsked_47, pq_C_sI, pq_C_sJ, pq_C_sR, pq_C_sA, pq_L_sI, pq_L_sJ, pq_L_sR, pq_L_sA, pq_I_sI, pq_I_sJ, pq_I_sR, pq_I_sA, pq_J_sI, pq_J_sJ, pq_J_sR, pq_J_sA, pq_R_sI, pq_R_sJ, pq_R_sR, pq_R_sA, pq_N_sI, pq_N_sJ, pq_N_sR, pq_N_sA, pq_S_sI, pq_S_sJ, pq_S_sR, pq_S_sA, pz_rf_s, pz_cut_i, pz_cut_r, pz_cut_n, pz_cut_f, pz_cut_u, pz_cut_o, true_and, and_true, true_or, or_true, Option.toList_some, Option.toList_none, List.cons_append, List.nil_append, Nat.add_left_cancel_iff, Nat.left_eq_add, Nat.add_eq_left, Nat.reduceEqDiff, if_true, if_false, ite_true, ite_false, false_and, and_false, false_or, or_false, reduceIte, reduceCtorEq, and_self, z_4, z_5, z_7, z_8, z_10, z_16, z_20, z_64, not_false_eq_true, hC]
  rw [if_pos (by decide)]
theorem c_isAt (S : SH h) {m : List Int8} (M : SUM h m) {r a cap : Nat} {w : List Int8} (W : ROW h r a cap w) {o : Nat} (ho : o + 20 ≤ w.length) : pz_M (d + 2) mX7_isAt [.ref 7, .ref r, .int (nI o)] h Q ↔ Q (some (.int (if shaL m = ofF (fun i => w.getD (o + i) 0) 20 then 1 else 0))) h := by
  have w6 := W.2.2.2.2.2.1
  have w8 := W.2.2.2.2.2.2.2.1
  have sl : (shaL m).length = 20 := ofF_len
  simp only [enX7_isAt, uX7_isAt_0, uX7_isAt_1, uX7_isAt_3, uX7_isAt_5, uX7_isAt_8, uX7_isAt_8o, uX7_isAt_8f, uX7_isAt_9, uX7_isAt_10, uX7_isAt_11, uX7_isAt_12, uX7_isAt_15, uX7_isAt_15o, uX7_isAt_15f, uX7_isAt_16, uX7_isAt_17, uX7_isAt_20, uX7_isAt_23, uX7_isAt_24, uX7_isAt_25, uX7_isAt_28, uX7_isAt_31, uX7_isAt_32, pq_C_sI, pq_C_sJ, pq_C_sR, pq_C_sA, pq_L_sI, pq_L_sJ, pq_L_sR, pq_L_sA, pq_I_sI, pq_I_sJ, pq_I_sR, pq_I_sA, pq_J_sI, pq_J_sJ, pq_J_sR, pq_J_sA, pq_R_sI, pq_R_sJ, pq_R_sR, pq_R_sA, pq_N_sI, pq_N_sJ, pq_N_sR, pq_N_sA, pq_S_sI, pq_S_sJ, pq_S_sR, pq_S_sA, pz_rf_s, pz_cut_i, pz_cut_r, pz_cut_n, pz_cut_f, pz_cut_u, pz_cut_o, true_and, and_true, true_or, or_true, Option.toList_some, Option.toList_none, List.cons_append, List.nil_append, Nat.add_left_cancel_iff, Nat.left_eq_add, Nat.add_eq_left, Nat.reduceEqDiff, if_true, if_false, ite_true, ite_false, false_and, and_false, false_or, or_false, reduceIte, reduceCtorEq, and_self, z_4, z_5, z_7, z_8, z_10, z_16, z_20, z_64, not_false_eq_true]
  have ub_inj : ∀ x y : Int8, nI (ub x) = nI (ub y) → x = y := fun x y e => by
    have := (nI_eq (by have := ub_lt x; omega) (by have := ub_lt y; omega)).mp e
    rw [← ub_8 x, ← ub_8 y, this]
  have run : ∀ (n i : Nat), i + n = 20 → (∀ j, j < i → (shaL m).getD j 0 = w.getD (o + j) 0) → (wp (d + 1) mX7_isAt 2 [.ref 7, .ref r, .int (nI o), .int (nI i)] [] h Q ↔ Q (some (.int (if shaL m = ofF (fun i => w.getD (o + i) 0) 20 then 1 else 0))) h) := by
    intro n
    induction n with
    | zero =>
      intro i hn hall
      have e : i = 20 := by omega
      subst e
      have eq : shaL m = ofF (fun i => w.getD (o + i) 0) 20 := by
        apply List.ext_getElem
        · rw [sl, ofF_len]
        · intro i i1 i2
          have := hall i (by omega)
          simpa [List.getD, ofF, i1, show i < 20 by omega] using this
      rw [uX7_isAt_2, if_pos eq]
      simp only [enX7_isAt, uX7_isAt_0, uX7_isAt_1, uX7_isAt_3, uX7_isAt_5, uX7_isAt_8, uX7_isAt_8o, uX7_isAt_8f, uX7_isAt_9, uX7_isAt_10, uX7_isAt_11, uX7_isAt_12, uX7_isAt_15, uX7_isAt_15o, uX7_isAt_15f, uX7_isAt_16, uX7_isAt_17, uX7_isAt_20, uX7_isAt_23, uX7_isAt_24, uX7_isAt_25, uX7_isAt_28, uX7_isAt_31, uX7_isAt_32, pq_C_sI, pq_C_sJ, pq_C_sR, pq_C_sA, pq_L_sI, pq_L_sJ, pq_L_sR, pq_L_sA, pq_I_sI, pq_I_sJ, pq_I_sR, pq_I_sA, pq_J_sI, pq_J_sJ, pq_J_sR, pq_J_sA, pq_R_sI, pq_R_sJ, pq_R_sR, pq_R_sA, pq_N_sI, pq_N_sJ, pq_N_sR, pq_N_sA, pq_S_sI, pq_S_sJ, pq_S_sR, pq_S_sA, pz_rf_s, pz_cut_i, pz_cut_r, pz_cut_n, pz_cut_f, pz_cut_u, pz_cut_o, true_and, and_true, true_or, or_true, Option.toList_some, Option.toList_none, List.cons_append, List.nil_append, Nat.add_left_cancel_iff, Nat.left_eq_add, Nat.add_eq_left, Nat.reduceEqDiff, if_true, if_false, ite_true, ite_false, false_and, and_false, false_or, or_false, reduceIte, reduceCtorEq, and_self, z_4, z_5, z_7, z_8, z_10, z_16, z_20, z_64, not_false_eq_true]
      rw [if_pos (show (20 : Int32) ≤ nI 20 by decide)]
    | succ n ih =>
      intro i hn hall
      have ea : atL w (nI (o + i)) = nI (ub (w.getD (o + i) 0)) := by
        unfold atL
        rw [vI_of (by omega) (by omega)]
      have W1 := W.1
      rw [uX7_isAt_2]
      simp only [enX7_isAt, uX7_isAt_0, uX7_isAt_1, uX7_isAt_3, uX7_isAt_5, uX7_isAt_8, uX7_isAt_8o, uX7_isAt_8f, uX7_isAt_9, uX7_isAt_10, uX7_isAt_11, uX7_isAt_12, uX7_isAt_15, uX7_isAt_15o, uX7_isAt_15f, uX7_isAt_16, uX7_isAt_17, uX7_isAt_20, uX7_isAt_23, uX7_isAt_24, uX7_isAt_25, uX7_isAt_28, uX7_isAt_31, uX7_isAt_32, pq_C_sI, pq_C_sJ, pq_C_sR, pq_C_sA, pq_L_sI, pq_L_sJ, pq_L_sR, pq_L_sA, pq_I_sI, pq_I_sJ, pq_I_sR, pq_I_sA, pq_J_sI, pq_J_sJ, pq_J_sR, pq_J_sA, pq_R_sI, pq_R_sJ, pq_R_sR, pq_R_sA, pq_N_sI, pq_N_sJ, pq_N_sR, pq_N_sA, pq_S_sI, pq_S_sJ, pq_S_sR, pq_S_sA, pz_rf_s, pz_cut_i, pz_cut_r, pz_cut_n, pz_cut_f, pz_cut_u, pz_cut_o, true_and, and_true, true_or, or_true, Option.toList_some, Option.toList_none, List.cons_append, List.nil_append, Nat.add_left_cancel_iff, Nat.left_eq_add, Nat.add_eq_left, Nat.reduceEqDiff, if_true, if_false, ite_true, ite_false, false_and, and_false, false_or, or_false, reduceIte, reduceCtorEq, and_self, z_4, z_5, z_7, z_8, z_10, z_16, z_20, z_64, not_false_eq_true, S.1, W1, nI_add, c_at W, ea, c_byteAt S M (show i < 20 by omega), nI_1]
      rw [if_neg (show ¬ (20 : Int32) ≤ nI i from nI_ge (b := 20) (by omega) (by decide))]
      by_cases q : w.getD (o + i) 0 = (shaL m).getD i 0
      · rw [if_pos (by rw [q])]
        exact ih (i + 1) (by omega) (fun j hj => by
          by_cases e : j = i
          · subst e; exact q.symm
          · exact hall j (by omega))
      · rw [if_neg (fun z => q (ub_inj _ _ z)), if_neg (fun z => q (by rw [z, ofF_get (by omega)]))]
  exact run 20 0 (by omega) (fun j hj => by omega)
end
