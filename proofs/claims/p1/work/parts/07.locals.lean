/-! ===== locals of the pure machine and the machine's ===== -/
def pz_lv (base : Nat) (sa : Nat → Nat) (v : Value) : Value := match v with
  | .ref a => .ref (base + a)
  | .float k => .ref (sa k.toNat)
  | v => v
theorem pz_lv_cat (base : Nat) (sa : Nat → Nat) (v : Value) : (pz_lv base sa v).category = v.category := by cases v <;> rfl
theorem pz_lv_sum (base : Nat) (sa : Nat → Nat) : ∀ l : List Value, ((l.map (pz_lv base sa)).map fun v => v.category).sum = (l.map fun v => v.category).sum
  | [] => rfl
  | v :: l => by
    simp only [List.map_cons, List.sum_cons]
    rw [pz_lv_sum base sa l, pz_lv_cat]
def pz_lh (base : Nat) (sa : Nat → Nat) (nL : Nat) (ls : List Value) (mls : Array Slot) : Prop := mls.size = nL ∧ lv_wf mls ∧ ∀ i : Nat, pz_lg ls i ≠ .retAddr 0 → mls[i]? = some (.val (pz_lv base sa (pz_lg ls i)))
def pz_la (base : Nat) (sa : Nat → Nat) (ls : List Value) : List (Nat × Value) := (List.range ls.length).filterMap (fun i => if pz_lg ls i = .retAddr 0 then none else some (i, pz_lv base sa (pz_lg ls i)))
theorem pz_lg_out : ∀ (l : List Value) (i : Nat), l.length ≤ i → pz_lg l i = .retAddr 0
  | [], _, _ => rfl
  | _ :: l, 0, h => by simp at h
  | _ :: l, n + 1, h => by
    show pz_lg l n = _
    exact pz_lg_out l n (by simpa using h)
theorem pz_la_mem {base : Nat} {sa : Nat → Nat} {ls : List Value} {j : Nat} (h : pz_lg ls j ≠ .retAddr 0) : (j, pz_lv base sa (pz_lg ls j)) ∈ pz_la base sa ls := by
  have hj : j < ls.length := by
    rcases Nat.lt_or_ge j ls.length with q | q
    · exact q
    · exact absurd (pz_lg_out ls j q) h
  refine List.mem_filterMap.mpr ⟨j, List.mem_range.mpr hj, ?_⟩
  rw [if_neg h]
theorem pz_lh_has {base : Nat} {sa : Nat → Nat} {nL : Nat} {ls : List Value} {mls : Array Slot} (h : pz_lh base sa nL ls mls) : lv_has mls nL (pz_la base sa ls) := by
  refine ⟨h.1, h.2.1, fun q hq => ?_⟩
  obtain ⟨i, -, hi⟩ := List.mem_filterMap.mp hq
  by_cases hu : pz_lg ls i = .retAddr 0
  · rw [if_pos hu] at hi; cases hi
  · rw [if_neg hu] at hi
    cases hi
    exact h.2.2 i hu
theorem pz_cut_ne {v : Value} (h : pz_cut v ≠ .retAddr 0) : pz_cut v = v ∧ ¬ v.category = 2 := by
  cases v <;> first | exact ⟨rfl, by decide⟩ | exact absurd rfl h | exact ⟨rfl, by simp [Value.category]⟩
theorem pz_l1_get : ∀ (ls : List Value) (i : Nat) (v : Value) (j : Nat), pz_lg (pz_l1 ls i v) j ≠ .retAddr 0 → (j = i ∧ pz_lg (pz_l1 ls i v) j = v) ∨ (j ≠ i ∧ pz_lg (pz_l1 ls i v) j = pz_lg ls j ∧ ¬ (j + 1 = i ∧ (pz_lg ls j).category = 2))
  | [], _, _, _, h => absurd rfl h
  | _ :: l, 0, v, 0, _ => Or.inl ⟨rfl, rfl⟩
  | _ :: l, 0, v, j + 1, _ => Or.inr ⟨by omega, rfl, by omega⟩
  | [a], 1, v, 0, h => by
    obtain ⟨e, hc⟩ := pz_cut_ne (v := a) h
    exact Or.inr ⟨by omega, e, fun q => hc q.2⟩
  | [a], 1, v, j + 1, h => absurd rfl h
  | a :: b :: l, 1, v, 0, h => by
    obtain ⟨e, hc⟩ := pz_cut_ne (v := a) h
    exact Or.inr ⟨by omega, e, fun q => hc q.2⟩
  | a :: b :: l, 1, v, 1, _ => Or.inl ⟨rfl, rfl⟩
  | a :: b :: l, 1, v, j + 2, _ => Or.inr ⟨by omega, rfl, by omega⟩
  | a :: l, i + 2, v, 0, _ => Or.inr ⟨by omega, rfl, by omega⟩
  | a :: l, i + 2, v, j + 1, h => by
    rcases pz_l1_get l (i + 1) v j h with ⟨e1, e2⟩ | ⟨e1, e2, e3⟩
    · exact Or.inl ⟨by omega, e2⟩
    · exact Or.inr ⟨by omega, e2, fun q => e3 ⟨by omega, q.2⟩⟩
theorem pz_un_get : ∀ (ls : List Value) (k j : Nat), pz_lg (pz_un ls k) j ≠ .retAddr 0 → j ≠ k ∧ pz_lg (pz_un ls k) j = pz_lg ls j
  | [], _, _, h => absurd rfl h
  | _ :: l, 0, 0, h => absurd rfl h
  | _ :: l, 0, j + 1, _ => ⟨by omega, rfl⟩
  | _ :: l, k + 1, 0, _ => ⟨by omega, rfl⟩
  | _ :: l, k + 1, j + 1, h => by
    obtain ⟨e1, e2⟩ := pz_un_get l k j h
    exact ⟨by omega, e2⟩
theorem pz_lh_1 {base : Nat} {sa : Nat → Nat} {nL i : Nat} {ls : List Value} {v : Value} {mls' : Array Slot} (h : lv_has mls' nL ((i, pz_lv base sa v) :: (pz_la base sa ls).filter (fun q => !(q.1 == i) && !(q.1 + 1 == i && q.2.category == 2)))) : pz_lh base sa nL (pz_l1 ls i v) mls' := by
  refine ⟨h.1, h.2.1, fun j hj => ?_⟩
  rcases pz_l1_get ls i v j hj with ⟨e1, e2⟩ | ⟨e1, e2, e3⟩
  · rw [e2, e1]
    exact h.2.2 (i, pz_lv base sa v) List.mem_cons_self
  · rw [e2] at hj ⊢
    refine h.2.2 (j, pz_lv base sa (pz_lg ls j)) (List.mem_cons_of_mem _ (List.mem_filter.mpr ⟨pz_la_mem hj, ?_⟩))
    simp only [Bool.and_eq_true, Bool.not_eq_true', beq_eq_false_iff_ne, Bool.and_eq_false_imp, beq_iff_eq, pz_lv_cat]
    refine ⟨e1, fun q => ?_⟩
    exact fun r => e3 ⟨q, r⟩
theorem pz_lh_2 {base : Nat} {sa : Nat → Nat} {nL i : Nat} {ls : List Value} {v : Value} {mls' : Array Slot} (h : lv_has mls' nL ((i, pz_lv base sa v) :: (pz_la base sa ls).filter (fun q => !(q.1 == i) && (!(q.1 == i + 1) && !(q.1 + 1 == i && q.2.category == 2))))) : pz_lh base sa nL (pz_l2 ls i v) mls' := by
  refine ⟨h.1, h.2.1, fun j hj => ?_⟩
  obtain ⟨f1, f2⟩ := pz_un_get _ _ _ hj
  have hj' : pz_lg (pz_l1 ls i v) j ≠ .retAddr 0 := by rw [← f2]; exact hj
  show mls'[j]? = some (.val (pz_lv base sa (pz_lg (pz_un (pz_l1 ls i v) (i + 1)) j)))
  rw [f2]
  rcases pz_l1_get ls i v j hj' with ⟨e1, e2⟩ | ⟨e1, e2, e3⟩
  · rw [e2, e1]
    exact h.2.2 (i, pz_lv base sa v) List.mem_cons_self
  · rw [e2] at hj' ⊢
    refine h.2.2 (j, pz_lv base sa (pz_lg ls j)) (List.mem_cons_of_mem _ (List.mem_filter.mpr ⟨pz_la_mem hj', ?_⟩))
    simp only [Bool.and_eq_true, Bool.not_eq_true', beq_eq_false_iff_ne, Bool.and_eq_false_imp, beq_iff_eq, pz_lv_cat]
    exact ⟨e1, f1, fun q r => e3 ⟨q, r⟩⟩
