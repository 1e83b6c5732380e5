/-! ===== the class: heedBitfield ===== -/
def bitC (A : St) (a b p : Nat) (m : List Int8) : Int32 × St :=
  if bitOk A m p (sB A 25 (5 * a + b) = 0) (8 * (m.length - 1)) = true then (0, (pz_u1 (sB A) 30 (put (sB A 30) (64 * (5 * a + b)) p (bitF m)), A.2)) else (5, A)
theorem bitOk_iff {A : St} {m : List Int8} {p : Nat} {f : Prop} [Decidable f] : ∀ n, bitOk A m p f n = true ↔ (f ∧ ∀ i, i < n → (i < p ∨ mbit m 1 i = 0))
  | 0 => by simp [bitOk]
  | n + 1 => by
    unfold bitOk
    rw [Bool.and_eq_true, bitOk_iff n, decide_eq_true_eq]
    constructor
    · rintro ⟨⟨h1, h2⟩, h3⟩
      refine ⟨h1, fun i hi => ?_⟩
      by_cases e : i = n
      · subst e; exact h3
      · exact h2 i (by omega)
    · rintro ⟨h1, h2⟩
      exact ⟨⟨h1, fun i hi => h2 i (by omega)⟩, h2 n (by omega)⟩
section
variable {d : Nat} {h : PzH} {Q : Option Value → PzH → Prop} {A : St} {l c p : Nat}
theorem c_heedBitfield (R : RC h A) (I : OI A l c p) {a b : Nat} {w m : List Int8} (ha : a < 5) (hb : b < 5) (hab : a ≠ b) (M : ROW h 133 134 104 (w ++ m)) (hw : w.length = 4) (hm : m.length = 1 + (p + 7) / 8) (K : ∀ h', HC h h' → RC h' (bitC A a b p m).2 → Q (some (.int (bitC A a b p m).1)) h') : pz_M (d + 2) mX0_heedBitfield [.ref 132, .ref (lkA (5 * a + b))] h Q := by
  obtain ⟨a1, a2, a3, a4, a5, a6, a7, a8⟩ := ACT_of R
  obtain ⟨⟨k1, k2, k3, k4, k5⟩, L⟩ := LN_of R ha hb hab
  obtain ⟨t, ht, tr, tc, T⟩ := TS_of R
  have n1 := R.1.2.2.2.2.2.1.1
  have t6 := I.1.1.2.2.2.2.2.1
  have lin := lkA_in (k := 5 * a + b) (by omega) (by omega)
  have M1 := M.1
  have hl : (w ++ m).length = 4 + m.length := by rw [List.length_append]; omega
  have r5 := L.2.2.2.2.1
  unfold bitC at K
  have iff := bitOk_iff (A := A) (m := m) (p := p) (f := sB A 25 (5 * a + b) = 0) (8 * (m.length - 1))
  simp only [enX0_heedBitfield, uX0_heedBitfield_0, uX0_heedBitfield_1, uX0_heedBitfield_2, uX0_heedBitfield_3, uX0_heedBitfield_7, uX0_heedBitfield_9, uX0_heedBitfield_9o, uX0_heedBitfield_9f, uX0_heedBitfield_10, uX0_heedBitfield_13, uX0_heedBitfield_16, uX0_heedBitfield_17, uX0_heedBitfield_18, uX0_heedBitfield_19, uX0_heedBitfield_22, uX0_heedBitfield_22o, uX0_heedBitfield_22f, uX0_heedBitfield_23, uX0_heedBitfield_26, uX0_heedBitfield_27, uX0_heedBitfield_29, uX0_heedBitfield_31, uX0_heedBitfield_32, uX0_heedBitfield_33, uX0_heedBitfield_36, uX0_heedBitfield_38, uX0_heedBitfield_40, uX0_heedBitfield_42, uX0_heedBitfield_43, uX0_heedBitfield_44, uX0_heedBitfield_45, uX0_heedBitfield_46, uX0_heedBitfield_47, uX0_heedBitfield_50, uX0_heedBitfield_51, uX0_heedBitfield_54, uX0_heedBitfield_55, uX0_heedBitfield_57, uX0_heedBitfield_59, uX0_heedBitfield_62, uX0_heedBitfield_62o, uX0_heedBitfield_62f, uX0_heedBitfield_63, uX0_heedBitfield_66, uX0_heedBitfield_69, uX0_heedBitfield_71, uX0_heedBitfield_72, uX0_heedBitfield_75, uX0_heedBitfield_78, uX0_heedBitfield_79, uX0_heedBitfield_80, uX0_heedBitfield_82, uX0_heedBitfield_85, uX0_heedBitfield_86, uX0_heedBitfield_87, uX0_heedBitfield_89, uX0_heedBitfield_90, uX0_heedBitfield_91, uX0_heedBitfield_92, uX0_heedBitfield_95, uX0_heedBitfield_98, uX0_heedBitfield_98o, uX0_heedBitfield_98f, uX0_heedBitfield_99, uX0_heedBitfield_102, uX0_heedBitfield_105, uX0_heedBitfield_106, uX0_heedBitfield_107, uX0_heedBitfield_107o, uX0_heedBitfield_107f, uX0_heedBitfield_108, uX0_heedBitfield_109, uX0_heedBitfield_112, uX0_heedBitfield_113, pq_C_sI, pq_C_sJ, pq_C_sR, pq_C_sA, pq_L_sI, pq_L_sJ, pq_L_sR, pq_L_sA, pq_I_sI, pq_I_sJ, pq_I_sR, pq_I_sA, pq_J_sI, pq_J_sJ, pq_J_sR, pq_J_sA, pq_R_sI, pq_R_sJ, pq_R_sR, pq_R_sA, pq_N_sI, pq_N_sJ, pq_N_sR, pq_N_sA, pq_S_sI, pq_S_sJ, pq_S_sR, pq_S_sA, pz_rf_s, pz_cut_i, pz_cut_r, pz_cut_n, pz_cut_f, pz_cut_u, pz_cut_o, true_and, and_true, true_or, or_true, Option.toList_some, Option.toList_none, List.cons_append, List.nil_append, Nat.add_left_cancel_iff, Nat.left_eq_add, Nat.add_eq_left, Nat.reduceEqDiff, if_true, if_false, ite_true, ite_false, false_and, and_false, false_or, or_false, reduceIte, reduceCtorEq, and_self, z_4, z_5, z_7, z_8, z_10, z_16, z_20, z_64, not_false_eq_true]
  refine wp_up (8 * (m.length - 1)) (fun i ls h' => h' = h ∧ (∀ j, j < i → (j < p ∨ mbit m 1 j = 0)) ∧ ∃ (y : Int64) (v5 : Value), (∀ q, q < 64 → y.toBitVec.getLsbD q = decide (q < i ∧ mbit m 1 q ≠ 0)) ∧ ls = [.ref 132, .ref (lkA (5 * a + b)), .long y, .retAddr 0, .int (nI i), v5]) ?_ ?_ _ _ ⟨rfl, fun j hj => by omega, 0, .retAddr 0, fun q hq => by
    show (0#64).getLsbD q = _
    simp, rfl⟩
  · rintro i ls h' hi ⟨rfl, hok, y, v5, hy, rfl⟩ K'
    obtain ⟨mb1, mb2⟩ := mbit_c (i := i) hw (by omega) (show i / 8 + 1 < m.length by omega)
    have ip : ∀ {Q : Option Value → PzH → Prop}, pz_M (d + 1) mX8_isPiece [.ref t, .long (nI i).toInt64] h' Q ↔ Q (some (.int (if i < p then 1 else 0))) h' := fun {Q} => by
      rw [nI_l (by omega), c_isPiece tc T I.1.1 (by omega)]
    have e8 : (8 : Int32) = nI 8 := rfl
    have ediv : nI i / 8 = nI (i / 8) := by rw [e8, pk_div (by omega) (by decide) (by decide)]
    have erem : nI i - nI (i / 8) * 8 = nI (i % 8) := by rw [e8, pk_mul, pk_remd]
    have e5 : (5 : Int32) + nI (i / 8) = nI (5 + i / 8) := nI_add 5 _
    have esz : (8 : Int32) * (nI (4 + m.length) - 5) = nI (8 * (m.length - 1)) := by
      rw [show nI (4 + m.length) - 5 = nI (4 + m.length - 5) from pk_sub (b := 5) (by omega), e8, pk_mul, show 4 + m.length - 5 = m.length - 1 by omega]
    rw [uX0_heedBitfield_5]
    simp only [enX0_heedBitfield, uX0_heedBitfield_0, uX0_heedBitfield_1, uX0_heedBitfield_2, uX0_heedBitfield_3, uX0_heedBitfield_7, uX0_heedBitfield_9, uX0_heedBitfield_9o, uX0_heedBitfield_9f, uX0_heedBitfield_10, uX0_heedBitfield_13, uX0_heedBitfield_16, uX0_heedBitfield_17, uX0_heedBitfield_18, uX0_heedBitfield_19, uX0_heedBitfield_22, uX0_heedBitfield_22o, uX0_heedBitfield_22f, uX0_heedBitfield_23, uX0_heedBitfield_26, uX0_heedBitfield_27, uX0_heedBitfield_29, uX0_heedBitfield_31, uX0_heedBitfield_32, uX0_heedBitfield_33, uX0_heedBitfield_36, uX0_heedBitfield_38, uX0_heedBitfield_40, uX0_heedBitfield_42, uX0_heedBitfield_43, uX0_heedBitfield_44, uX0_heedBitfield_45, uX0_heedBitfield_46, uX0_heedBitfield_47, uX0_heedBitfield_50, uX0_heedBitfield_51, uX0_heedBitfield_54, uX0_heedBitfield_55, uX0_heedBitfield_57, uX0_heedBitfield_59, uX0_heedBitfield_62, uX0_heedBitfield_62o, uX0_heedBitfield_62f, uX0_heedBitfield_63, uX0_heedBitfield_66, uX0_heedBitfield_69, uX0_heedBitfield_71, uX0_heedBitfield_72, uX0_heedBitfield_75, uX0_heedBitfield_78, uX0_heedBitfield_79, uX0_heedBitfield_80, uX0_heedBitfield_82, uX0_heedBitfield_85, uX0_heedBitfield_86, uX0_heedBitfield_87, uX0_heedBitfield_89, uX0_heedBitfield_90, uX0_heedBitfield_91, uX0_heedBitfield_92, uX0_heedBitfield_95, uX0_heedBitfield_98, uX0_heedBitfield_98o, uX0_heedBitfield_98f, uX0_heedBitfield_99, uX0_heedBitfield_102, uX0_heedBitfield_105, uX0_heedBitfield_106, uX0_heedBitfield_107, uX0_heedBitfield_107o, uX0_heedBitfield_107f, uX0_heedBitfield_108, uX0_heedBitfield_109, uX0_heedBitfield_112, uX0_heedBitfield_113, pq_C_sI, pq_C_sJ, pq_C_sR, pq_C_sA, pq_L_sI, pq_L_sJ, pq_L_sR, pq_L_sA, pq_I_sI, pq_I_sJ, pq_I_sR, pq_I_sA, pq_J_sI, pq_J_sJ, pq_J_sR, pq_J_sA, pq_R_sI, pq_R_sJ, pq_R_sR, pq_R_sA, pq_N_sI, pq_N_sJ, pq_N_sR, pq_N_sA, pq_S_sI, pq_S_sJ, pq_S_sR, pq_S_sA, pz_rf_s, pz_cut_i, pz_cut_r, pz_cut_n, pz_cut_f, pz_cut_u, pz_cut_o, true_and, and_true, true_or, or_true, Option.toList_some, Option.toList_none, List.cons_append, List.nil_append, Nat.add_left_cancel_iff, Nat.left_eq_add, Nat.add_eq_left, Nat.reduceEqDiff, if_true, if_false, ite_true, ite_false, false_and, and_false, false_or, or_false, reduceIte, reduceCtorEq, and_self, z_4, z_5, z_7, z_8, z_10, z_16, z_20, z_64, not_false_eq_true, a1, a2, a4, n1, tr, tc, M1, c_size M, hl, esz, ediv, erem, e5, c_at M, mb1, ip, nI_1]
    rw [if_neg (nI_ge hi (by omega))]
    rcases mb2 with z | z
    · simp only [z, if_true]
      refine K' _ _ ⟨rfl, fun j hj => ?_, y, _, fun q hq => ?_, rfl⟩
      · by_cases e : j = i
        · subst e; exact Or.inr z
        · exact hok j (by omega)
      · rw [hy q hq]
        refine decide_eq_decide.mpr ⟨fun u => ⟨by omega, u.2⟩, fun u => ⟨?_, u.2⟩⟩
        by_cases e : q = i
        · subst e; exact absurd z u.2
        · omega
    · have z0 : ¬ (1 : Int32) = 0 := by decide
      simp only [z, z0, if_false]
      by_cases q : i < p
      · rw [if_pos q, if_pos z0]
        have es : (1 : Int64) <<< ((nI i).toInt64 &&& 63) = lN (2 ^ i) := by
          have := wb_shl 1 (k := i) (by omega)
          rw [Nat.one_mul] at this
          exact this
        rw [es]
        refine K' _ _ ⟨rfl, fun j hj => ?_, _, _, fun x hx => ?_, rfl⟩
        · by_cases e : j = i
          · subst e; exact Or.inl q
          · exact hok j (by omega)
        · rw [bt_or (by omega) hx, hy x hx]
          by_cases e : x = i
          · subst e
            simp [z]
          · rw [decide_eq_false e, Bool.or_false]
            exact decide_eq_decide.mpr ⟨fun u => ⟨by omega, u.2⟩, fun u => ⟨by omega, u.2⟩⟩
      · rw [if_neg q, if_neg (fun u => u rfl)]
        rw [if_neg (fun u => by
          have := (iff.mp u).2 i hi
          rcases this with v | v
          · exact q v
          · rw [z] at v; exact z0 v)] at K
        exact K h' HC_refl R
  · rintro ls h' ⟨rfl, hok, y, v5, hy, rfl⟩
    have esz : (8 : Int32) * (nI (4 + m.length) - 5) = nI (8 * (m.length - 1)) := by
      rw [show nI (4 + m.length) - 5 = nI (4 + m.length - 5) from pk_sub (b := 5) (by omega), show (8 : Int32) = nI 8 from rfl, pk_mul, show 4 + m.length - 5 = m.length - 1 by omega]
    rw [uX0_heedBitfield_5]
    simp only [enX0_heedBitfield, uX0_heedBitfield_0, uX0_heedBitfield_1, uX0_heedBitfield_2, uX0_heedBitfield_3, uX0_heedBitfield_7, uX0_heedBitfield_9, uX0_heedBitfield_9o, uX0_heedBitfield_9f, uX0_heedBitfield_10, uX0_heedBitfield_13, uX0_heedBitfield_16, uX0_heedBitfield_17, uX0_heedBitfield_18, uX0_heedBitfield_19, uX0_heedBitfield_22, uX0_heedBitfield_22o, uX0_heedBitfield_22f, uX0_heedBitfield_23, uX0_heedBitfield_26, uX0_heedBitfield_27, uX0_heedBitfield_29, uX0_heedBitfield_31, uX0_heedBitfield_32, uX0_heedBitfield_33, uX0_heedBitfield_36, uX0_heedBitfield_38, uX0_heedBitfield_40, uX0_heedBitfield_42, uX0_heedBitfield_43, uX0_heedBitfield_44, uX0_heedBitfield_45, uX0_heedBitfield_46, uX0_heedBitfield_47, uX0_heedBitfield_50, uX0_heedBitfield_51, uX0_heedBitfield_54, uX0_heedBitfield_55, uX0_heedBitfield_57, uX0_heedBitfield_59, uX0_heedBitfield_62, uX0_heedBitfield_62o, uX0_heedBitfield_62f, uX0_heedBitfield_63, uX0_heedBitfield_66, uX0_heedBitfield_69, uX0_heedBitfield_71, uX0_heedBitfield_72, uX0_heedBitfield_75, uX0_heedBitfield_78, uX0_heedBitfield_79, uX0_heedBitfield_80, uX0_heedBitfield_82, uX0_heedBitfield_85, uX0_heedBitfield_86, uX0_heedBitfield_87, uX0_heedBitfield_89, uX0_heedBitfield_90, uX0_heedBitfield_91, uX0_heedBitfield_92, uX0_heedBitfield_95, uX0_heedBitfield_98, uX0_heedBitfield_98o, uX0_heedBitfield_98f, uX0_heedBitfield_99, uX0_heedBitfield_102, uX0_heedBitfield_105, uX0_heedBitfield_106, uX0_heedBitfield_107, uX0_heedBitfield_107o, uX0_heedBitfield_107f, uX0_heedBitfield_108, uX0_heedBitfield_109, uX0_heedBitfield_112, uX0_heedBitfield_113, pq_C_sI, pq_C_sJ, pq_C_sR, pq_C_sA, pq_L_sI, pq_L_sJ, pq_L_sR, pq_L_sA, pq_I_sI, pq_I_sJ, pq_I_sR, pq_I_sA, pq_J_sI, pq_J_sJ, pq_J_sR, pq_J_sA, pq_R_sI, pq_R_sJ, pq_R_sR, pq_R_sA, pq_N_sI, pq_N_sJ, pq_N_sR, pq_N_sA, pq_S_sI, pq_S_sJ, pq_S_sR, pq_S_sA, pz_rf_s, pz_cut_i, pz_cut_r, pz_cut_n, pz_cut_f, pz_cut_u, pz_cut_o, true_and, and_true, true_or, or_true, Option.toList_some, Option.toList_none, List.cons_append, List.nil_append, Nat.add_left_cancel_iff, Nat.left_eq_add, Nat.add_eq_left, Nat.reduceEqDiff, if_true, if_false, ite_true, ite_false, false_and, and_false, false_or, or_false, reduceIte, reduceCtorEq, and_self, z_4, z_5, z_7, z_8, z_10, z_16, z_20, z_64, not_false_eq_true, a1, a4, M1, c_size M, hl, esz, k1, r5]
    rw [if_pos (nI_le (Nat.le_refl _) (by omega))]
    by_cases q : sB A 25 (5 * a + b) = 0
    · rw [if_pos q]
      rw [if_pos (iff.mpr ⟨q, hok⟩)] at K
      refine K _ (HC_HF (cs := [lkA (5 * a + b)]) (HF_sJ (by simp)) (fun x hx => by simp at hx; omega)) (RC_J R ha hb hab (fun x hx => ?_) (fun j hj x hx => put_out (by omega)))
      rw [hy x hx]
      show _ = decide (put (sB A 30) (64 * (5 * a + b)) p (bitF m) (64 * (5 * a + b) + x) ≠ 0)
      by_cases e : x < p
      · rw [put_in e]
        unfold bitF
        obtain ⟨_, mb2⟩ := mbit_c (i := x) hw (by omega) (show x / 8 + 1 < m.length by omega)
        rcases mb2 with z | z
        · rw [z]; simp
        · rw [z]
          have : x < 8 * (m.length - 1) := by omega
          simp [this]
      · rw [put_out (by omega)]
        have z0 : sB A 30 (64 * (5 * a + b) + x) = 0 := Classical.byContradiction (fun u => e ((I.2.1 a b ha hb).2.2 x hx u))
        rw [z0, decide_eq_false (fun u => by
          rcases hok x u.1 with v | v
          · exact e v
          · exact u.2 v)]
        simp
    · rw [if_neg q]
      rw [if_neg (fun u => q (iff.mp u).1)] at K
      exact K h' HC_refl R
end
