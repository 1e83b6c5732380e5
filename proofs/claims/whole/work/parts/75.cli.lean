/-! ===== the reference: connect, client ===== -/
/-- one of all who is there -/
def exB (B : Tb) (a : Int32) : Option Nat := match vI a 5 with
  | some x => if x = 4 ∨ B 18 x ≠ 0 then some x else none
  | none => none
theorem exB_some {B : Tb} {a : Int32} {x : Nat} (h : exB B a = some x) : x < 5 ∧ a = nI x ∧ (x = 4 ∨ B 18 x ≠ 0) := by
  unfold exB at h
  cases ea : vI a 5 with
  | none => rw [ea] at h; exact absurd h (by simp)
  | some u =>
    rw [ea] at h
    dsimp only at h
    by_cases q : u = 4 ∨ B 18 u ≠ 0
    · rw [if_pos q] at h
      have := Option.some.inj h
      subst this
      obtain ⟨a1, a2⟩ := vI_some (by decide) ea
      exact ⟨a1, a2, q⟩
    · rw [if_neg q] at h; exact absurd h (by simp)
def prA (A : St) (a b : Nat) : St := (fo (fo (sB A) (5 * a + b)) (5 * b + a), upf (upf (sW A) (5 * a + b) []) (5 * b + a) [], sV A, sD A, upf (upf (sL A) (5 * a + b) []) (5 * b + a) [], sF A)
def jnA (A : St) (a b : Nat) : St := (pz_u2 (pz_u2 (sB A) 23 (5 * a + b) 1) 23 (5 * b + a) 1, A.2)
def conA (A : St) (a b : Int32) : Int32 × St := match exB (sB A) a, exB (sB A) b with
  | some x, some y => if x = y ∨ sB A 23 (5 * x + y) ≠ 0 then (0, A) else (1, greA (greA (jnA (prA A x y) x y) x y) y x)
  | _, _ => (0, A)
section
variable {g : Tb} {A : St} {l : List Int8}
theorem RG_pr {a b : Nat} (h : RG g A) : RG (fo (fo g (5 * a + b)) (5 * b + a)) (prA A a b) := by
  obtain ⟨⟨h1, h2, h3, h4, h5, h6, h7, h8, h9, h10, h11⟩, h12⟩ := h
  refine ⟨⟨h1, h2, FLE_fo (FLE_fo h3), h4, h5, h6, h7, ?_, h9, h10, h11⟩, SLS_fo (SLS_fo h12)⟩
  rw [fo_34, fo_34]
  exact WRS_fo (WRS_fo h8)
theorem RM_fl2 {r k : Nat} {v : Int32} (h : RM g A l) (hr : r ∈ FLr) : RM (pz_u2 g r k v) (pz_u2 (sB A) r k v, A.2) l := by
  have h0 : r ≠ 0 := by rintro rfl; revert hr; decide
  have nn : ∀ a, a ∉ FLr → a ≠ 0 → pz_u2 g r k v a = g a := fun a ha _ => gu_r (fun q => ha (q ▸ hr))
  have n0 : ∀ j, pz_u2 g r k v 0 j = g 0 j := fun j => by rw [gu_22, if_neg (fun q => h0 q.1.symm)]
  obtain ⟨⟨⟨h1, h2, h3, h4, h5, h6, h7, h8, h9, ⟨h10, h10'⟩, h11, h11'⟩, h12⟩, h13, h14⟩ := h
  refine ⟨⟨⟨?_, ?_, FLE_u2 h3, ?_, ?_, ?_, ?_, ?_, ?_, ⟨?_, ?_⟩, ?_, ?_⟩, ?_⟩, ?_, ?_⟩
  · rw [n0, nn 1 (by decide) (by decide)]; exact h1
  · rw [n0, nn 2 (by decide) (by decide)]; exact h2
  · rw [nn 14 (by decide) (by decide)]; exact h4
  · rw [nn 13 (by decide) (by decide)]; exact h5
  · rw [nn 15 (by decide) (by decide)]; exact h6
  · rw [nn 19 (by decide) (by decide)]; exact h7
  · rw [nn 33 (by decide) (by decide), nn 34 (by decide) (by decide)]; exact h8
  · rw [nn 11 (by decide) (by decide), nn 12 (by decide) (by decide)]; exact h9
  · rw [nn 9 (by decide) (by decide)]; exact h10
  · rw [nn 10 (by decide) (by decide)]; exact h10'
  · rw [nn 36 (by decide) (by decide)]; exact h11
  · rw [nn 37 (by decide) (by decide)]; exact h11'
  · rw [nn 32 (by decide) (by decide)]
    show SLS (g 32) (pz_u2 (sB A) r k v 0 16) (sL A)
    rw [gu_22, if_neg (fun q => h0 q.1.symm)]
    exact h12
  · rw [n0]; exact h13
  · rw [nn 35 (by decide) (by decide)]; exact h14
theorem HW_snd {a b : Nat} (hw : HW A) : HW (sndA A a b l) := by
  intro j hj
  unfold sndA
  by_cases q : (sW A (5 * a + b)).length + l.length ≤ 4000
  · rw [if_pos q]
    show (upf (sW A) _ _ j).length ≤ 4000
    by_cases e : j = 5 * a + b
    · subst e; rw [upf_s, List.length_append]; exact q
    · rw [upf_n e]; exact hw j hj
  · rw [if_neg q]
    show (upf (upf (sW A) _ _) _ _ j).length ≤ 4000
    unfold upf
    by_cases e : j = 5 * b + a
    · rw [if_pos e]; simp
    · rw [if_neg e]
      by_cases e2 : j = 5 * a + b
      · rw [if_pos e2]; simp
      · rw [if_neg e2]; exact hw j hj
theorem sV_snd {a b : Nat} : sV (sndA A a b l) = sV A := by
  unfold sndA
  by_cases q : (sW A (5 * a + b)).length + l.length ≤ 4000
  · rw [if_pos q]; rfl
  · rw [if_neg q]; rfl
theorem HW_gre {a b : Nat} (hw : HW A) : HW (greA A a b) := by
  unfold greA
  by_cases q : a = 4
  · rw [if_pos q]; exact hw
  · rw [if_neg q]; exact HW_snd hw
theorem sV_gre {a b : Nat} : sV (greA A a b) = sV A := by
  unfold greA
  by_cases q : a = 4
  · rw [if_pos q]
  · rw [if_neg q]; exact sV_snd
theorem HW_pr {a b : Nat} (hw : HW A) : HW (prA A a b) := by
  intro j hj
  show (upf (upf (sW A) _ _) _ _ j).length ≤ 4000
  unfold upf
  by_cases e : j = 5 * b + a
  · rw [if_pos e]; simp
  · rw [if_neg e]
    by_cases e2 : j = 5 * a + b
    · rw [if_pos e2]; simp
    · rw [if_neg e2]; exact hw j hj
end
section
variable {d : Nat} {h : PzH} {Q : Option Value → PzH → Prop} {mo : Nat} {g : Tb} {A : St} {l : List Int8}
theorem g_isThere (H : MO h mo) {a : Int32} : pz_M (d + 2) mX10_isThere [.ref mo, .int a] (mh h mo g) Q ↔ Q (some (.int (if (exB g a).isSome then 1 else 0))) (mh h mo g) := by
  simp only [enX10_isThere, uX10_isThere_0, uX10_isThere_1, uX10_isThere_2, uX10_isThere_5, uX10_isThere_6, uX10_isThere_7, uX10_isThere_10, uX10_isThere_13, uX10_isThere_13o, uX10_isThere_13f, uX10_isThere_14, uX10_isThere_17, uX10_isThere_18, uX10_isThere_19, uX10_isThere_22, uX10_isThere_23, uX10_isThere_26, uX10_isThere_27, mo_C H, mo_R_there H, mo_C_there H, mo_L_there H, pq_C_sI, pq_C_sJ, pq_C_sR, pq_C_sA, pq_L_sI, pq_L_sJ, pq_L_sR, pq_L_sA, pq_I_sI, pq_I_sJ, pq_I_sR, pq_I_sA, pq_J_sI, pq_J_sJ, pq_J_sR, pq_J_sA, pq_R_sI, pq_R_sJ, pq_R_sR, pq_R_sA, pq_N_sI, pq_N_sJ, pq_N_sR, pq_N_sA, pq_S_sI, pq_S_sJ, pq_S_sR, pq_S_sA, pz_rf_s, pz_cut_i, pz_cut_r, pz_cut_n, pz_cut_f, pz_cut_u, pz_cut_o, true_and, and_true, true_or, or_true, Option.toList_some, Option.toList_none, List.cons_append, List.nil_append, Nat.add_left_cancel_iff, Nat.left_eq_add, Nat.add_eq_left, Nat.reduceEqDiff, if_true, if_false, ite_true, ite_false, false_and, and_false, false_or, or_false, reduceIte, reduceCtorEq, and_self, mh_C, mh_L, mh_R, mh_J, mh_I0, mh_I, mh_Ir, mh_sI0, mh_sI, mh_sA, gu_11, gu_22, gu_r, gu_21s, gu_21c, gu_22s, gu_11s, gu_11c, gu_22c, Nat.reduceLeDiff, Nat.reduceLT, ne_eq, not_false_eq_true, not_true_eq_false, Nat.reduceEqDiff, Nat.lt_irrefl, eq_self, z_4, z_5, z_7, z_8, z_10, z_16, z_20, z_64, g_isIn]
  unfold exB
  by_cases q : a = 4
  · subst q
    rw [if_pos rfl, show (4 : Int32) = nI 4 from rfl, vI_of (n := 5) (by decide) (by decide)]
    simp
  · rw [if_neg q, show (4 : Int32) = nI 4 from rfl, vI_is]
    cases e : vI a 4 with
    | none =>
      cases e5 : vI a 5 with
      | none => simp
      | some x =>
        exfalso
        obtain ⟨x1, rfl⟩ := vI_some (by decide) e5
        have x4 : x ≠ 4 := fun z => q (by subst z; rfl)
        rw [vI_of (n := 4) (by decide) (by omega)] at e
        exact absurd e (by simp)
    | some x =>
      obtain ⟨x1, rfl⟩ := vI_some (by decide) e
      rw [vI_of (n := 5) (by decide) (by omega)]
      simp (disch := omega) only [Option.isSome_some, if_true, show ¬ (1 : Int32) = 0 by decide, if_false, nI_clamp, pz_in_nI, true_and]
      by_cases z : g 18 x = 0
      · simp [z, show ¬ x = 4 by omega]
      · simp [z]
theorem FLE_ex {g B : Tb} (h : FLE g B) (a : Int32) : exB g a = exB B a := by
  unfold exB
  rw [FLE_row h (show 18 ∈ FLr by decide)]
theorem g_connect (H : MO h mo) (R : RM g A []) (hw : HW A) (hn : ∀ x, x < 4 → sB A 18 x ≠ 0 → (sV A 2).length = 20) {a b : Int32} (K : ∀ g', RM g' (conA A a b).2 [] → Q (some (.int (conA A a b).1)) (mh h mo g')) : pz_M (d + 6) mX10_connect [.ref mo, .int a, .int b] (mh h mo g) Q := by
  have h3 := RM_fl R
  simp only [enX10_connect, uX10_connect_0, uX10_connect_0o, uX10_connect_0f, uX10_connect_1, uX10_connect_2, uX10_connect_5, uX10_connect_8, uX10_connect_8o, uX10_connect_8f, uX10_connect_9, uX10_connect_10, uX10_connect_13, uX10_connect_16, uX10_connect_17, uX10_connect_18, uX10_connect_21, uX10_connect_21o, uX10_connect_21f, uX10_connect_22, uX10_connect_23, uX10_connect_24, uX10_connect_27, uX10_connect_30, uX10_connect_31, uX10_connect_32, uX10_connect_32o, uX10_connect_32f, uX10_connect_33, uX10_connect_34, uX10_connect_35, uX10_connect_38, uX10_connect_38o, uX10_connect_38f, uX10_connect_39, uX10_connect_42, uX10_connect_43, uX10_connect_44, uX10_connect_45, uX10_connect_46, uX10_connect_47, uX10_connect_48, uX10_connect_49, uX10_connect_49o, uX10_connect_49f, uX10_connect_50, uX10_connect_53, uX10_connect_54, uX10_connect_55, uX10_connect_56, uX10_connect_57, uX10_connect_58, uX10_connect_59, uX10_connect_60, uX10_connect_60o, uX10_connect_60f, uX10_connect_61, uX10_connect_62, uX10_connect_63, uX10_connect_66, uX10_connect_66o, uX10_connect_66f, uX10_connect_67, uX10_connect_68, uX10_connect_69, uX10_connect_72, uX10_connect_73, mo_C H, mo_R_joined H, mo_C_joined H, mo_L_joined H, pq_C_sI, pq_C_sJ, pq_C_sR, pq_C_sA, pq_L_sI, pq_L_sJ, pq_L_sR, pq_L_sA, pq_I_sI, pq_I_sJ, pq_I_sR, pq_I_sA, pq_J_sI, pq_J_sJ, pq_J_sR, pq_J_sA, pq_R_sI, pq_R_sJ, pq_R_sR, pq_R_sA, pq_N_sI, pq_N_sJ, pq_N_sR, pq_N_sA, pq_S_sI, pq_S_sJ, pq_S_sR, pq_S_sA, pz_rf_s, pz_cut_i, pz_cut_r, pz_cut_n, pz_cut_f, pz_cut_u, pz_cut_o, true_and, and_true, true_or, or_true, Option.toList_some, Option.toList_none, List.cons_append, List.nil_append, Nat.add_left_cancel_iff, Nat.left_eq_add, Nat.add_eq_left, Nat.reduceEqDiff, if_true, if_false, ite_true, ite_false, false_and, and_false, false_or, or_false, reduceIte, reduceCtorEq, and_self, mh_C, mh_L, mh_R, mh_J, mh_I0, mh_I, mh_Ir, mh_sI0, mh_sI, mh_sA, gu_11, gu_22, gu_r, gu_21s, gu_21c, gu_22s, gu_11s, gu_11c, gu_22c, Nat.reduceLeDiff, Nat.reduceLT, ne_eq, not_false_eq_true, not_true_eq_false, Nat.reduceEqDiff, Nat.lt_irrefl, eq_self, z_4, z_5, z_7, z_8, z_10, z_16, z_20, z_64, g_isThere H, g_areJoined H, FLE_aj h3, FLE_ex h3]
  unfold conA at K
  cases ea : exB (sB A) a with
  | none =>
    rw [ea] at K
    simp only [Option.isSome_none, Bool.false_eq_true, if_false, if_true]
    exact K _ R
  | some x =>
    cases eb : exB (sB A) b with
    | none =>
      rw [ea, eb] at K
      simp only [Option.isSome_none, Option.isSome_some, Bool.false_eq_true, if_false, if_true, show ¬ (1 : Int32) = 0 by decide]
      exact K _ R
    | some y =>
      rw [ea, eb] at K
      obtain ⟨x1, rfl, x3⟩ := exB_some ea
      obtain ⟨y1, rfl, y3⟩ := exB_some eb
      simp only [Option.isSome_some, if_true, show ¬ (1 : Int32) = 0 by decide, if_false, ajB_no x1 y1]
      dsimp only at K
      by_cases exy : x = y
      · rw [if_pos (Or.inl exy)] at K
        rw [if_pos (by rw [exy])]
        exact K _ R
      · rw [if_neg (show ¬ nI x = nI y from fun z => exy ((nI_eq (by omega) (by omega)).mp z))]
        by_cases q : sB A 23 (5 * x + y) = 0
        · rw [if_neg (fun z => z.elim exy (fun w => w q))] at K
          rw [if_pos q]
          simp only [Option.isSome_none, Bool.false_eq_true, if_false, if_true, g_parts H x1 y1]
          simp only [enX10_connect, uX10_connect_0, uX10_connect_0o, uX10_connect_0f, uX10_connect_1, uX10_connect_2, uX10_connect_5, uX10_connect_8, uX10_connect_8o, uX10_connect_8f, uX10_connect_9, uX10_connect_10, uX10_connect_13, uX10_connect_16, uX10_connect_17, uX10_connect_18, uX10_connect_21, uX10_connect_21o, uX10_connect_21f, uX10_connect_22, uX10_connect_23, uX10_connect_24, uX10_connect_27, uX10_connect_30, uX10_connect_31, uX10_connect_32, uX10_connect_32o, uX10_connect_32f, uX10_connect_33, uX10_connect_34, uX10_connect_35, uX10_connect_38, uX10_connect_38o, uX10_connect_38f, uX10_connect_39, uX10_connect_42, uX10_connect_43, uX10_connect_44, uX10_connect_45, uX10_connect_46, uX10_connect_47, uX10_connect_48, uX10_connect_49, uX10_connect_49o, uX10_connect_49f, uX10_connect_50, uX10_connect_53, uX10_connect_54, uX10_connect_55, uX10_connect_56, uX10_connect_57, uX10_connect_58, uX10_connect_59, uX10_connect_60, uX10_connect_60o, uX10_connect_60f, uX10_connect_61, uX10_connect_62, uX10_connect_63, uX10_connect_66, uX10_connect_66o, uX10_connect_66f, uX10_connect_67, uX10_connect_68, uX10_connect_69, uX10_connect_72, uX10_connect_73, mo_C H, mo_R_joined H, mo_C_joined H, mo_L_joined H, pq_C_sI, pq_C_sJ, pq_C_sR, pq_C_sA, pq_L_sI, pq_L_sJ, pq_L_sR, pq_L_sA, pq_I_sI, pq_I_sJ, pq_I_sR, pq_I_sA, pq_J_sI, pq_J_sJ, pq_J_sR, pq_J_sA, pq_R_sI, pq_R_sJ, pq_R_sR, pq_R_sA, pq_N_sI, pq_N_sJ, pq_N_sR, pq_N_sA, pq_S_sI, pq_S_sJ, pq_S_sR, pq_S_sA, pz_rf_s, pz_cut_i, pz_cut_r, pz_cut_n, pz_cut_f, pz_cut_u, pz_cut_o, true_and, and_true, true_or, or_true, Option.toList_some, Option.toList_none, List.cons_append, List.nil_append, Nat.add_left_cancel_iff, Nat.left_eq_add, Nat.add_eq_left, Nat.reduceEqDiff, if_true, if_false, ite_true, ite_false, false_and, and_false, false_or, or_false, reduceIte, reduceCtorEq, and_self, mh_C, mh_L, mh_R, mh_J, mh_I0, mh_I, mh_Ir, mh_sI0, mh_sI, mh_sA, gu_11, gu_22, gu_r, gu_21s, gu_21c, gu_22s, gu_11s, gu_11c, gu_22c, Nat.reduceLeDiff, Nat.reduceLT, ne_eq, not_false_eq_true, not_true_eq_false, Nat.reduceEqDiff, Nat.lt_irrefl, eq_self, z_4, z_5, z_7, z_8, z_10, z_16, z_20, z_64, show (5 : Int32) = nI 5 from rfl, pk_mul, nI_add]
          simp (disch := omega) only [nI_clamp, pz_in_nI, true_and, nar_b1]
          have hn' : (sV A 2).length = 20 := by
            rcases x3 with x4 | x3
            · rcases y3 with y4 | y3
              · exact absurd (x4.trans y4.symm) exy
              · exact hn y (by
                  by_cases y4 : y = 4
                  · exact absurd (x4.trans y4.symm) exy
                  · omega) y3
            · by_cases x4 : x = 4
              · rcases y3 with y4 | y3
                · exact absurd (x4.trans y4.symm) exy
                · exact hn y (by omega) y3
              · exact hn x (by omega) x3
          have R1 : RM (pz_u2 (pz_u2 (fo (fo g (5 * x + y)) (5 * y + x)) 23 (5 * x + y) 1) 23 (5 * y + x) 1) (jnA (prA A x y) x y) [] := RM_fl2 (RM_fl2 ⟨RG_pr R.1, R.2.1, R.2.2⟩ (by decide)) (by decide)
          have hw1 : HW (jnA (prA A x y) x y) := HW_pr hw
          refine g_greets H R1 x1 y1 hw1 hn' (fun g2 R2 => ?_)
          simp only [enX10_connect, uX10_connect_0, uX10_connect_0o, uX10_connect_0f, uX10_connect_1, uX10_connect_2, uX10_connect_5, uX10_connect_8, uX10_connect_8o, uX10_connect_8f, uX10_connect_9, uX10_connect_10, uX10_connect_13, uX10_connect_16, uX10_connect_17, uX10_connect_18, uX10_connect_21, uX10_connect_21o, uX10_connect_21f, uX10_connect_22, uX10_connect_23, uX10_connect_24, uX10_connect_27, uX10_connect_30, uX10_connect_31, uX10_connect_32, uX10_connect_32o, uX10_connect_32f, uX10_connect_33, uX10_connect_34, uX10_connect_35, uX10_connect_38, uX10_connect_38o, uX10_connect_38f, uX10_connect_39, uX10_connect_42, uX10_connect_43, uX10_connect_44, uX10_connect_45, uX10_connect_46, uX10_connect_47, uX10_connect_48, uX10_connect_49, uX10_connect_49o, uX10_connect_49f, uX10_connect_50, uX10_connect_53, uX10_connect_54, uX10_connect_55, uX10_connect_56, uX10_connect_57, uX10_connect_58, uX10_connect_59, uX10_connect_60, uX10_connect_60o, uX10_connect_60f, uX10_connect_61, uX10_connect_62, uX10_connect_63, uX10_connect_66, uX10_connect_66o, uX10_connect_66f, uX10_connect_67, uX10_connect_68, uX10_connect_69, uX10_connect_72, uX10_connect_73, mo_C H, mo_R_joined H, mo_C_joined H, mo_L_joined H, pq_C_sI, pq_C_sJ, pq_C_sR, pq_C_sA, pq_L_sI, pq_L_sJ, pq_L_sR, pq_L_sA, pq_I_sI, pq_I_sJ, pq_I_sR, pq_I_sA, pq_J_sI, pq_J_sJ, pq_J_sR, pq_J_sA, pq_R_sI, pq_R_sJ, pq_R_sR, pq_R_sA, pq_N_sI, pq_N_sJ, pq_N_sR, pq_N_sA, pq_S_sI, pq_S_sJ, pq_S_sR, pq_S_sA, pz_rf_s, pz_cut_i, pz_cut_r, pz_cut_n, pz_cut_f, pz_cut_u, pz_cut_o, true_and, and_true, true_or, or_true, Option.toList_some, Option.toList_none, List.cons_append, List.nil_append, Nat.add_left_cancel_iff, Nat.left_eq_add, Nat.add_eq_left, Nat.reduceEqDiff, if_true, if_false, ite_true, ite_false, false_and, and_false, false_or, or_false, reduceIte, reduceCtorEq, and_self, mh_C, mh_L, mh_R, mh_J, mh_I0, mh_I, mh_Ir, mh_sI0, mh_sI, mh_sA, gu_11, gu_22, gu_r, gu_21s, gu_21c, gu_22s, gu_11s, gu_11c, gu_22c, Nat.reduceLeDiff, Nat.reduceLT, ne_eq, not_false_eq_true, not_true_eq_false, Nat.reduceEqDiff, Nat.lt_irrefl, eq_self, z_4, z_5, z_7, z_8, z_10, z_16, z_20, z_64]
          refine g_greets H R2 y1 x1 (HW_gre hw1) (by rw [sV_gre]; exact hn') (fun g3 R3 => ?_)
          simp only [enX10_connect, uX10_connect_0, uX10_connect_0o, uX10_connect_0f, uX10_connect_1, uX10_connect_2, uX10_connect_5, uX10_connect_8, uX10_connect_8o, uX10_connect_8f, uX10_connect_9, uX10_connect_10, uX10_connect_13, uX10_connect_16, uX10_connect_17, uX10_connect_18, uX10_connect_21, uX10_connect_21o, uX10_connect_21f, uX10_connect_22, uX10_connect_23, uX10_connect_24, uX10_connect_27, uX10_connect_30, uX10_connect_31, uX10_connect_32, uX10_connect_32o, uX10_connect_32f, uX10_connect_33, uX10_connect_34, uX10_connect_35, uX10_connect_38, uX10_connect_38o, uX10_connect_38f, uX10_connect_39, uX10_connect_42, uX10_connect_43, uX10_connect_44, uX10_connect_45, uX10_connect_46, uX10_connect_47, uX10_connect_48, uX10_connect_49, uX10_connect_49o, uX10_connect_49f, uX10_connect_50, uX10_connect_53, uX10_connect_54, uX10_connect_55, uX10_connect_56, uX10_connect_57, uX10_connect_58, uX10_connect_59, uX10_connect_60, uX10_connect_60o, uX10_connect_60f, uX10_connect_61, uX10_connect_62, uX10_connect_63, uX10_connect_66, uX10_connect_66o, uX10_connect_66f, uX10_connect_67, uX10_connect_68, uX10_connect_69, uX10_connect_72, uX10_connect_73, mo_C H, mo_R_joined H, mo_C_joined H, mo_L_joined H, pq_C_sI, pq_C_sJ, pq_C_sR, pq_C_sA, pq_L_sI, pq_L_sJ, pq_L_sR, pq_L_sA, pq_I_sI, pq_I_sJ, pq_I_sR, pq_I_sA, pq_J_sI, pq_J_sJ, pq_J_sR, pq_J_sA, pq_R_sI, pq_R_sJ, pq_R_sR, pq_R_sA, pq_N_sI, pq_N_sJ, pq_N_sR, pq_N_sA, pq_S_sI, pq_S_sJ, pq_S_sR, pq_S_sA, pz_rf_s, pz_cut_i, pz_cut_r, pz_cut_n, pz_cut_f, pz_cut_u, pz_cut_o, true_and, and_true, true_or, or_true, Option.toList_some, Option.toList_none, List.cons_append, List.nil_append, Nat.add_left_cancel_iff, Nat.left_eq_add, Nat.add_eq_left, Nat.reduceEqDiff, if_true, if_false, ite_true, ite_false, false_and, and_false, false_or, or_false, reduceIte, reduceCtorEq, and_self, mh_C, mh_L, mh_R, mh_J, mh_I0, mh_I, mh_Ir, mh_sI0, mh_sI, mh_sA, gu_11, gu_22, gu_r, gu_21s, gu_21c, gu_22s, gu_11s, gu_11c, gu_22c, Nat.reduceLeDiff, Nat.reduceLT, ne_eq, not_false_eq_true, not_true_eq_false, Nat.reduceEqDiff, Nat.lt_irrefl, eq_self, z_4, z_5, z_7, z_8, z_10, z_16, z_20, z_64]
          exact K g3 R3
        · rw [if_pos (Or.inr q)] at K
          rw [if_neg q]
          simp only [Option.isSome_some, if_true, show ¬ (1 : Int32) = 0 by decide, if_false]
          exact K _ R
end
