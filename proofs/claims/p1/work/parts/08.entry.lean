/-! ===== a method's entry ===== -/
theorem pz_ar_at (base : Nat) (sa : Nat → Nat) : ∀ (as : List Value), (lg_sl (as.map (pz_lv base sa))).length = (pz_ar as).length ∧ ∀ i : Nat, pz_lg (pz_ar as) i ≠ .retAddr 0 → (lg_sl (as.map (pz_lv base sa)))[i]? = some (.val (pz_lv base sa (pz_lg (pz_ar as) i)))
  | [] => ⟨rfl, fun i h => absurd rfl h⟩
  | v :: r => by
    obtain ⟨e, f⟩ := pz_ar_at base sa r
    have one : ∀ w : Value, w.category = 1 → pz_ar (w :: r) = w :: pz_ar r → (lg_sl ((w :: r).map (pz_lv base sa))).length = (pz_ar (w :: r)).length ∧ ∀ i : Nat, pz_lg (pz_ar (w :: r)) i ≠ .retAddr 0 → (lg_sl ((w :: r).map (pz_lv base sa)))[i]? = some (.val (pz_lv base sa (pz_lg (pz_ar (w :: r)) i))) := by
      intro w hc ew
      have el : lg_sl ((w :: r).map (pz_lv base sa)) = .val (pz_lv base sa w) :: lg_sl (r.map (pz_lv base sa)) := by
        simp [lg_sl, pz_lv_cat, hc]
      rw [ew, el]
      refine ⟨by simp [e], fun i hi => ?_⟩
      cases i with
      | zero => rfl
      | succ i => exact f i hi
    have two : ∀ w : Value, w.category = 2 → pz_ar (w :: r) = w :: .retAddr 0 :: pz_ar r → (lg_sl ((w :: r).map (pz_lv base sa))).length = (pz_ar (w :: r)).length ∧ ∀ i : Nat, pz_lg (pz_ar (w :: r)) i ≠ .retAddr 0 → (lg_sl ((w :: r).map (pz_lv base sa)))[i]? = some (.val (pz_lv base sa (pz_lg (pz_ar (w :: r)) i))) := by
      intro w hc ew
      have el : lg_sl ((w :: r).map (pz_lv base sa)) = .val (pz_lv base sa w) :: .second :: lg_sl (r.map (pz_lv base sa)) := by
        simp [lg_sl, pz_lv_cat, hc]
      rw [ew, el]
      refine ⟨by simp [e], fun i hi => ?_⟩
      match i, hi with
      | 0, _ => rfl
      | 1, hi => exact absurd rfl hi
      | i + 2, hi => exact f i hi
    cases v with
    | long x => exact two _ rfl rfl
    | double x => exact two _ rfl rfl
    | int x => exact one _ rfl rfl
    | float x => exact one _ rfl rfl
    | null => exact one _ rfl rfl
    | ref x => exact one _ rfl rfl
    | retAddr x => exact one _ rfl rfl
theorem pz_lg_app : ∀ (l : List Value) (n i : Nat), pz_lg (l ++ List.replicate n (.retAddr 0)) i = pz_lg l i
  | [], n, i => by
    induction n generalizing i with
    | zero => rfl
    | succ n ih =>
      cases i with
      | zero => rfl
      | succ i => exact ih i
  | v :: l, n, 0 => rfl
  | v :: l, n, i + 1 => pz_lg_app l n i
theorem pz_entry (base : Nat) (sa : Nat → Nat) (m : PzM) (as : List Value) (h : (pz_ar as).length ≤ m.2.2.2.1) : pz_lh base sa m.2.2.2.1 (pz_en m as) ((lg_sl (as.map (pz_lv base sa)) ++ List.replicate (m.2.2.2.1 - (lg_sl (as.map (pz_lv base sa))).length) Slot.unset).toArray) := by
  obtain ⟨e, f⟩ := pz_ar_at base sa as
  obtain ⟨g1, g2, -⟩ := lv_entry (as.map (pz_lv base sa)) (n := m.2.2.2.1) (by rw [e]; exact h)
  refine ⟨g1, g2, fun i hi => ?_⟩
  unfold pz_en at hi ⊢
  rw [pz_lg_app] at hi ⊢
  have q := f i hi
  have hl : i < (lg_sl (as.map (pz_lv base sa))).length := (List.getElem?_eq_some_iff.mp q).1
  rw [List.getElem?_toArray, List.getElem?_append_left hl]
  exact q
