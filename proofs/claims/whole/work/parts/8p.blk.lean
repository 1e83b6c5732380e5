/-! ===== the class: a client's bits; writeBlock ===== -/
section
variable {d : Nat} {h : PzH} {Q : Option Value → PzH → Prop} {A : St} {l c p : Nat}
theorem CB_BZ {f B : Nat → Int32} {k : Nat} (b : CB f B k) : BZ f (fun v => B (1024 * k + v) ≠ 0) := by
  intro P hP
  obtain ⟨m, m1, m2, m3⟩ := b P hP
  refine ⟨m, m1, m2, fun q hq => ?_⟩
  rw [m3 q hq, decide_eq_true_eq, Nat.add_assoc]
/-- which blocks of a piece came, of a client -/
theorem RC_21 {k P : Nat} {v : Int32} {f : Nat → Int32} (R : RC h A) (hk : k < 4) (hP : P < 64) (hv : ∃ m : Nat, m < 65536 ∧ v = nI m ∧ ∀ q, q < 16 → m.testBit q = decide (f (1024 * k + 16 * P + q) ≠ 0)) (ho : ∀ j, ¬ (1024 * k + 16 * P ≤ j ∧ j < 1024 * k + 16 * P + 16) → f j = sB A 21 j) : RC (pz_sI h (39 + 4 * k) P v) (pz_u1 (sB A) 21 f, A.2) := by
  have f1 : HF [36 + 4 * k, 37 + 4 * k, 38 + 4 * k, 39 + 4 * k] h (pz_sI h (39 + 4 * k) P v) := HF_sI (by simp)
  have f2 : HF [39 + 4 * k] h (pz_sI h (39 + 4 * k) P v) := HF_sI (by simp)
  have eb : ∀ r, r ≠ 21 → sB ((pz_u1 (sB A) 21 f, A.2) : St) r = sB A r := fun r hr => by show pz_u1 (sB A) 21 f r = _; rw [gu_11, if_neg hr]
  refine RC_cl1 R hk f1 ?_ (fun j => by rw [eb 0 (by decide)]) rfl rfl rfl rfl (fun _ _ => rfl) (fun r hr => eb r (by rintro rfl; revert hr; decide)) (fun j _ => by rw [eb 18 (by decide)]) (fun j _ q _ => by rw [eb 20 (by decide)]) (fun j hj w hw => ho _ (by omega)) (fun j _ w _ => by rw [eb 22 (by decide)])
  obtain ⟨c0, ⟨l, w⟩, c1⟩ := R.2.2.2.1 k hk
  have i36 : pz_I (pz_sI h (39 + 4 * k) P v) (36 + 4 * k) = pz_I h (36 + 4 * k) := by
    funext j
    rw [pq_I_sI, if_neg (by omega)]
  unfold CR
  rw [i36, eb 18 (by decide), eb 20 (by decide), eb 22 (by decide)]
  refine ⟨c0, ⟨l, ROW_fr w f2 (by simp <;> omega) (by simp)⟩, fun z => ?_⟩
  obtain ⟨d1, d2, d3, d4⟩ := c1 z
  refine ⟨ROW_fr d1 f2 (by simp <;> omega) (by simp), d2, fun P' hP' => ?_, d4⟩
  rw [pq_I_sI]
  by_cases e : P' = P
  · subst e
    rw [if_pos ⟨rfl, rfl⟩]
    exact hv
  · rw [if_neg (fun z => e z.2)]
    obtain ⟨m, m1, m2, m3⟩ := d3 P' hP'
    refine ⟨m, m1, m2, fun q hq => ?_⟩
    rw [m3 q hq]
    show decide (sB A 21 _ ≠ 0) = decide (f _ ≠ 0)
    rw [ho _ (by omega)]
theorem RC_20 {k P : Nat} {x : Int64} (R : RC h A) (hk : k < 4) (hP : P < 64) (hx : sB A 18 k ≠ 0 → x = pz_J h (36 + 4 * k) 2) : RC (pz_sJ h (36 + 4 * k) 2 (x ||| lN (2 ^ P))) (pz_u2 (sB A) 20 (64 * k + P) 1, A.2) := by
  have f1 : HF [36 + 4 * k, 37 + 4 * k, 38 + 4 * k, 39 + 4 * k] h (pz_sJ h (36 + 4 * k) 2 (x ||| lN (2 ^ P))) := HF_sJ (by simp)
  have f2 : HF [36 + 4 * k] h (pz_sJ h (36 + 4 * k) 2 (x ||| lN (2 ^ P))) := HF_sJ (by simp)
  have eb : ∀ r, r ≠ 20 → sB ((pz_u2 (sB A) 20 (64 * k + P) 1, A.2) : St) r = sB A r := fun r hr => gu_r hr
  refine RC_cl1 R hk f1 ?_ (fun j => by rw [eb 0 (by decide)]) rfl rfl rfl rfl (fun _ _ => rfl) (fun r hr => eb r (by rintro rfl; revert hr; decide)) (fun j _ => by rw [eb 18 (by decide)]) (fun j hj q hq => by
    show pz_u2 (sB A) 20 (64 * k + P) 1 20 (64 * j + q) = _
    rw [gu_22, if_neg (fun z => by omega)]) (fun j _ q _ => by rw [eb 21 (by decide)]) (fun j _ w _ => by rw [eb 22 (by decide)])
  obtain ⟨c0, ⟨l, w⟩, c1⟩ := R.2.2.2.1 k hk
  unfold CR
  rw [eb 18 (by decide), eb 21 (by decide), eb 22 (by decide)]
  refine ⟨c0, ⟨l, ROW_fr w f2 (by simp <;> omega) (by simp <;> omega)⟩, fun z => ?_⟩
  obtain ⟨d1, d2, d3, d4⟩ := c1 z
  refine ⟨ROW_fr d1 f2 (by simp <;> omega) (by simp <;> omega), fun q hq => ?_, d3, d4⟩
  rw [pq_J_sJ, if_pos ⟨rfl, rfl⟩, bt_or hP hq, hx z, d2 q hq]
  show _ = decide (pz_u2 (sB A) 20 (64 * k + P) 1 20 (64 * k + q) ≠ 0)
  rw [gu_22]
  by_cases e : q = P
  · subst e
    simp
  · rw [if_neg (fun y => by omega), decide_eq_false e, Bool.or_false]
/-- a client's disk is written -/
theorem RC_D {h' : PzH} {k : Nat} {L : List Int8} (R : RC h A) (hk : k < 4) (f : HF [37 + 4 * k, 38 + 4 * k] h h') (W : ROW h' (37 + 4 * k) (38 + 4 * k) 4096 L) : RC h' (sB A, sW A, sV A, upf (sD A) k L, A.2.2.2.2) := by
  have f1 : HF [36 + 4 * k, 37 + 4 * k, 38 + 4 * k, 39 + 4 * k] h h' := HF_up f (fun x hx => by simp at hx ⊢; omega)
  refine RC_cl1 R hk f1 ?_ (fun _ => rfl) rfl rfl rfl rfl (fun j hj => upf_n hj) (fun _ _ => rfl) (fun _ _ => rfl) (fun _ _ _ _ => rfl) (fun _ _ _ _ => rfl) (fun _ _ _ _ => rfl)
  obtain ⟨c0, _, c1⟩ := R.2.2.2.1 k hk
  have f8 := f.2.2.2.2.2.2.2.1
  have f9 := f.2.2.2.2.2.2.2.2
  unfold CR
  rw [f8 (36 + 4 * k) (by simp <;> omega), f8 (39 + 4 * k) (by simp <;> omega), f9 (36 + 4 * k) (by simp <;> omega)]
  refine ⟨c0, ⟨L, W⟩, fun z => ?_⟩
  obtain ⟨d1, d2, d3, d4⟩ := c1 z
  refine ⟨?_, d2, d3, d4⟩
  show ROW h' _ _ 4096 (upf (sD A) k L k)
  rw [upf_s]
  exact W
theorem wrL_0 {L : List Int8} {o : Nat} : wrL L o [] = L := by
  unfold wrL
  have : (fun i => if o ≤ i ∧ i < o + ([] : List Int8).length then ([] : List Int8).getD (i - o) 0 else L.getD i 0) = fun i => L.getD i 0 := by
    funext i
    rw [if_neg (by simp <;> omega)]
  rw [this]
  exact ofF_getD
theorem wrL_s {L M : List Int8} {o j : Nat} (hj : j < M.length) (ho : o + M.length ≤ L.length) : (wrL L o (M.take j)).set (o + j) (M.getD j 0) = wrL L o (M.take (j + 1)) := by
  apply List.ext_getElem
  · rw [List.length_set, wrL_len, wrL_len]
  · intro i h1 h2
    have hi : i < L.length := by rw [wrL_len] at h2; exact h2
    have lt : ∀ n, n ≤ M.length → (M.take n).length = n := fun n hn => by rw [List.length_take]; omega
    have g : ∀ n, (wrL L o (M.take n))[i]? = some (if o ≤ i ∧ i < o + (M.take n).length then (M.take n).getD (i - o) 0 else L.getD i 0) := by
      intro n
      unfold wrL ofF
      simp [hi]
    have g1 := g (j + 1)
    have g0 := g j
    rw [lt _ (by omega)] at g1 g0
    rw [List.getElem?_eq_getElem (by rw [wrL_len]; exact hi)] at g1 g0
    have g1' := Option.some.inj g1
    have g0' := Option.some.inj g0
    rw [List.getElem_set, g1']
    by_cases e : o + j = i
    · rw [if_pos e, if_pos (by omega), getD_take (by omega), show i - o = j by omega]
    · rw [if_neg e, g0']
      by_cases e2 : o ≤ i ∧ i < o + j
      · rw [if_pos e2, if_pos (by omega), getD_take (by omega), getD_take (by omega)]
      · rw [if_neg e2, if_neg (by omega)]
theorem c_writeBlock (R : RC h A) {a o : Nat} {w m : List Int8} (ha : a < 4) (hth : sB A 18 a ≠ 0) (M : ROW h 133 134 104 (w ++ m)) (hw : w.length = 4) (hm : 9 ≤ m.length) (ho : o + (m.drop 9).length ≤ (sD A a).length) (K : ∀ h', HF [37 + 4 * a, 38 + 4 * a] h h' → RC h' (sB A, sW A, sV A, upf (sD A) a (wrL (sD A a) o (m.drop 9)), A.2.2.2.2) → Q none h') : pz_M (d + 2) mX0_writeBlock [.ref 132, .ref (36 + 4 * a), .int (nI o)] h Q := by
  have hl : (w ++ m).length = 4 + m.length := by rw [List.length_append]; omega
  have eml : (m.drop 9).length = m.length - 9 := List.length_drop
  have M8 := M.2.2.2.2.2.2.2.1
  obtain ⟨_, CRa⟩ := CL_of R ha
  obtain ⟨rd, _⟩ := CRa.2.2 hth
  have rd8 := rd.2.2.2.2.2.2.2.1
  simp only [enX0_writeBlock, uX0_writeBlock_0, uX0_writeBlock_2, uX0_writeBlock_4, uX0_writeBlock_4o, uX0_writeBlock_4f, uX0_writeBlock_5, uX0_writeBlock_8, uX0_writeBlock_11, uX0_writeBlock_14, uX0_writeBlock_14o, uX0_writeBlock_14f, uX0_writeBlock_15, uX0_writeBlock_18, uX0_writeBlock_19, uX0_writeBlock_20, uX0_writeBlock_21, uX0_writeBlock_23, uX0_writeBlock_24, uX0_writeBlock_24o, uX0_writeBlock_24f, uX0_writeBlock_25, uX0_writeBlock_28, uX0_writeBlock_29, uX0_writeBlock_32, uX0_writeBlock_35, uX0_writeBlock_36, uX0_writeBlock_39, uX0_writeBlock_42, pq_C_sI, pq_C_sJ, pq_C_sR, pq_C_sA, pq_L_sI, pq_L_sJ, pq_L_sR, pq_L_sA, pq_I_sI, pq_I_sJ, pq_I_sR, pq_I_sA, pq_J_sI, pq_J_sJ, pq_J_sR, pq_J_sA, pq_R_sI, pq_R_sJ, pq_R_sR, pq_R_sA, pq_N_sI, pq_N_sJ, pq_N_sR, pq_N_sA, pq_S_sI, pq_S_sJ, pq_S_sR, pq_S_sA, pz_rf_s, pz_cut_i, pz_cut_r, pz_cut_n, pz_cut_f, pz_cut_u, pz_cut_o, true_and, and_true, true_or, or_true, Option.toList_some, Option.toList_none, List.cons_append, List.nil_append, Nat.add_left_cancel_iff, Nat.left_eq_add, Nat.add_eq_left, Nat.reduceEqDiff, if_true, if_false, ite_true, ite_false, false_and, and_false, false_or, or_false, reduceIte, reduceCtorEq, and_self, z_4, z_5, z_7, z_8, z_10, z_16, z_20, z_64, not_false_eq_true]
  refine wp_up (m.drop 9).length (fun j ls h' => ls = [.ref 132, .ref (36 + 4 * a), .int (nI o), .int (nI (13 + j))] ∧ HF [37 + 4 * a, 38 + 4 * a] h h' ∧ ROW h' (37 + 4 * a) (38 + 4 * a) 4096 (wrL (sD A a) o ((m.drop 9).take j))) ?_ ?_ _ _ ⟨rfl, HF_refl, by rw [List.take_zero, wrL_0]; exact rd⟩
  · rintro j ls h' hj ⟨rfl, F, W⟩ K'
    have C' := CO_fr R.1 F
    obtain ⟨a1, a2, a3, a4, a5, a6, a7, a8⟩ := C'.2.2.2.2.2.2.2.2
    obtain ⟨c1, c2, c3, c4, c5⟩ := (C'.2.2.2.2.2.2.1 a ha).2
    have e37 : 36 + 4 * a + 1 = 37 + 4 * a := by omega
    rw [e37] at c2
    have M' := ROW_fr M F (by simp <;> omega) (by simp <;> omega)
    have M1 := M'.1
    have W1 := W.1
    have ea : atL (w ++ m) (nI (13 + j)) = nI (ub ((m.drop 9).getD j 0)) := by
      unfold atL
      rw [vI_of (by omega) (by omega)]
      dsimp only
      rw [getD_drop, show 13 + j = w.length + (9 + j) by omega, getD_app2]
    have es : nI o + nI (13 + j) - 13 = nI (o + j) := by
      rw [nI_add, show nI (o + (13 + j)) - 13 = nI (o + (13 + j) - 13) from pk_sub (b := 13) (by omega), show o + (13 + j) - 13 = o + j by omega]
    rw [uX0_writeBlock_3]
    simp only [enX0_writeBlock, uX0_writeBlock_0, uX0_writeBlock_2, uX0_writeBlock_4, uX0_writeBlock_4o, uX0_writeBlock_4f, uX0_writeBlock_5, uX0_writeBlock_8, uX0_writeBlock_11, uX0_writeBlock_14, uX0_writeBlock_14o, uX0_writeBlock_14f, uX0_writeBlock_15, uX0_writeBlock_18, uX0_writeBlock_19, uX0_writeBlock_20, uX0_writeBlock_21, uX0_writeBlock_23, uX0_writeBlock_24, uX0_writeBlock_24o, uX0_writeBlock_24f, uX0_writeBlock_25, uX0_writeBlock_28, uX0_writeBlock_29, uX0_writeBlock_32, uX0_writeBlock_35, uX0_writeBlock_36, uX0_writeBlock_39, uX0_writeBlock_42, pq_C_sI, pq_C_sJ, pq_C_sR, pq_C_sA, pq_L_sI, pq_L_sJ, pq_L_sR, pq_L_sA, pq_I_sI, pq_I_sJ, pq_I_sR, pq_I_sA, pq_J_sI, pq_J_sJ, pq_J_sR, pq_J_sA, pq_R_sI, pq_R_sJ, pq_R_sR, pq_R_sA, pq_N_sI, pq_N_sJ, pq_N_sR, pq_N_sA, pq_S_sI, pq_S_sJ, pq_S_sR, pq_S_sA, pz_rf_s, pz_cut_i, pz_cut_r, pz_cut_n, pz_cut_f, pz_cut_u, pz_cut_o, true_and, and_true, true_or, or_true, Option.toList_some, Option.toList_none, List.cons_append, List.nil_append, Nat.add_left_cancel_iff, Nat.left_eq_add, Nat.add_eq_left, Nat.reduceEqDiff, if_true, if_false, ite_true, ite_false, false_and, and_false, false_or, or_false, reduceIte, reduceCtorEq, and_self, z_4, z_5, z_7, z_8, z_10, z_16, z_20, z_64, not_false_eq_true, a1, a4, M1, c_size M', hl, c1, c2, es, c_at M', ea, W1]
    rw [if_neg (nI_ge (by omega) (by omega))]
    refine c_change W (fun h2 F2 W2 => ?_)
    rw [wrL_len, vI_of (by omega) (by omega)] at W2
    dsimp only at W2
    rw [ub_8, wrL_s hj ho] at W2
    simp only [enX0_writeBlock, uX0_writeBlock_0, uX0_writeBlock_2, uX0_writeBlock_4, uX0_writeBlock_4o, uX0_writeBlock_4f, uX0_writeBlock_5, uX0_writeBlock_8, uX0_writeBlock_11, uX0_writeBlock_14, uX0_writeBlock_14o, uX0_writeBlock_14f, uX0_writeBlock_15, uX0_writeBlock_18, uX0_writeBlock_19, uX0_writeBlock_20, uX0_writeBlock_21, uX0_writeBlock_23, uX0_writeBlock_24, uX0_writeBlock_24o, uX0_writeBlock_24f, uX0_writeBlock_25, uX0_writeBlock_28, uX0_writeBlock_29, uX0_writeBlock_32, uX0_writeBlock_35, uX0_writeBlock_36, uX0_writeBlock_39, uX0_writeBlock_42, pq_C_sI, pq_C_sJ, pq_C_sR, pq_C_sA, pq_L_sI, pq_L_sJ, pq_L_sR, pq_L_sA, pq_I_sI, pq_I_sJ, pq_I_sR, pq_I_sA, pq_J_sI, pq_J_sJ, pq_J_sR, pq_J_sA, pq_R_sI, pq_R_sJ, pq_R_sR, pq_R_sA, pq_N_sI, pq_N_sJ, pq_N_sR, pq_N_sA, pq_S_sI, pq_S_sJ, pq_S_sR, pq_S_sA, pz_rf_s, pz_cut_i, pz_cut_r, pz_cut_n, pz_cut_f, pz_cut_u, pz_cut_o, true_and, and_true, true_or, or_true, Option.toList_some, Option.toList_none, List.cons_append, List.nil_append, Nat.add_left_cancel_iff, Nat.left_eq_add, Nat.add_eq_left, Nat.reduceEqDiff, if_true, if_false, ite_true, ite_false, false_and, and_false, false_or, or_false, reduceIte, reduceCtorEq, and_self, z_4, z_5, z_7, z_8, z_10, z_16, z_20, z_64, not_false_eq_true, nI_1]
    exact K' _ _ ⟨rfl, HF_trans F (HF_up F2 (fun x hx => by simp at hx ⊢; omega)), W2⟩
  · rintro ls h' ⟨rfl, F, W⟩
    have C' := CO_fr R.1 F
    obtain ⟨a1, a2, a3, a4, a5, a6, a7, a8⟩ := C'.2.2.2.2.2.2.2.2
    have M' := ROW_fr M F (by simp <;> omega) (by simp <;> omega)
    have M1 := M'.1
    rw [uX0_writeBlock_3]
    simp only [enX0_writeBlock, uX0_writeBlock_0, uX0_writeBlock_2, uX0_writeBlock_4, uX0_writeBlock_4o, uX0_writeBlock_4f, uX0_writeBlock_5, uX0_writeBlock_8, uX0_writeBlock_11, uX0_writeBlock_14, uX0_writeBlock_14o, uX0_writeBlock_14f, uX0_writeBlock_15, uX0_writeBlock_18, uX0_writeBlock_19, uX0_writeBlock_20, uX0_writeBlock_21, uX0_writeBlock_23, uX0_writeBlock_24, uX0_writeBlock_24o, uX0_writeBlock_24f, uX0_writeBlock_25, uX0_writeBlock_28, uX0_writeBlock_29, uX0_writeBlock_32, uX0_writeBlock_35, uX0_writeBlock_36, uX0_writeBlock_39, uX0_writeBlock_42, pq_C_sI, pq_C_sJ, pq_C_sR, pq_C_sA, pq_L_sI, pq_L_sJ, pq_L_sR, pq_L_sA, pq_I_sI, pq_I_sJ, pq_I_sR, pq_I_sA, pq_J_sI, pq_J_sJ, pq_J_sR, pq_J_sA, pq_R_sI, pq_R_sJ, pq_R_sR, pq_R_sA, pq_N_sI, pq_N_sJ, pq_N_sR, pq_N_sA, pq_S_sI, pq_S_sJ, pq_S_sR, pq_S_sA, pz_rf_s, pz_cut_i, pz_cut_r, pz_cut_n, pz_cut_f, pz_cut_u, pz_cut_o, true_and, and_true, true_or, or_true, Option.toList_some, Option.toList_none, List.cons_append, List.nil_append, Nat.add_left_cancel_iff, Nat.left_eq_add, Nat.add_eq_left, Nat.reduceEqDiff, if_true, if_false, ite_true, ite_false, false_and, and_false, false_or, or_false, reduceIte, reduceCtorEq, and_self, z_4, z_5, z_7, z_8, z_10, z_16, z_20, z_64, not_false_eq_true, a1, a4, M1, c_size M', hl]
    rw [if_pos (nI_le (by omega) (by omega))]
    rw [List.take_length] at W
    exact K h' F (RC_D R ha F W)
end
