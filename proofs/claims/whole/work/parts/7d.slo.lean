/-! ===== the reference: slots ===== -/
theorem sO_pos {x : Int32} (h : ¬ x < 0) : sO x = [x.toNatClampNeg] := if_neg h
theorem sO_neg {x : Int32} (h : x < 0) : sO x = [] := if_pos h
section
variable {s : Nat → Int32} {k i : Nat}
theorem slo_mem {v : Nat} : v ∈ slo s k ↔ ∃ i, i < 4 ∧ ¬ s (4 * k + i) < 0 ∧ v = (s (4 * k + i)).toNatClampNeg := by
  have one : ∀ x : Int32, v ∈ sO x ↔ ¬ x < 0 ∧ v = x.toNatClampNeg := by
    intro x
    by_cases h : x < 0
    · rw [sO_neg h]; simp [h]
    · rw [sO_pos h]; simp [h]
  unfold slo
  simp only [List.mem_append, one]
  constructor
  · rintro (h | h | h | h)
    · exact ⟨0, by decide, h⟩
    · exact ⟨1, by decide, h⟩
    · exact ⟨2, by decide, h⟩
    · exact ⟨3, by decide, h⟩
  · rintro ⟨i, hi, h⟩
    have hc : i = 0 ∨ i = 1 ∨ i = 2 ∨ i = 3 := by omega
    rcases hc with rfl | rfl | rfl | rfl
    · exact Or.inl h
    · exact Or.inr (Or.inl h)
    · exact Or.inr (Or.inr (Or.inl h))
    · exact Or.inr (Or.inr (Or.inr h))
theorem upd_n {f : Nat → Int32} {a b : Nat} {x : Int32} (h : b ≠ a) : upd f a x b = f b := pk_un h
theorem upd_s {f : Nat → Int32} {a : Nat} {x : Int32} : upd f a x a = x := pk_us
theorem slo_un {j : Nat} {x : Int32} (h : j ≠ k) (hi : i < 4) : slo (upd s (4 * k + i) x) j = slo s j := by
  unfold slo
  rw [upd_n (by omega), upd_n (by omega), upd_n (by omega), upd_n (by omega)]
/-- a slot that changes from x to y -/
theorem slo_ch {x : Int32} {l1 l2 : List Nat} (hi : i < 4) (h1 : sO (s (4 * k + i)) = l1) (h2 : sO x = l2) (e : ∀ a b : List Nat, (a ++ (l1 ++ b)).Perm (l1 ++ (a ++ b))) (e2 : ∀ a b : List Nat, (a ++ (l2 ++ b)).Perm (l2 ++ (a ++ b))) : ∃ r : List Nat, (slo s k).Perm (l1 ++ r) ∧ (slo (upd s (4 * k + i) x) k).Perm (l2 ++ r) := by
  have hc : i = 0 ∨ i = 1 ∨ i = 2 ∨ i = 3 := by omega
  rcases hc with rfl | rfl | rfl | rfl
  · refine ⟨sO (s (4 * k + 1)) ++ (sO (s (4 * k + 2)) ++ sO (s (4 * k + 3))), ?_, ?_⟩
    · unfold slo
      rw [Nat.add_zero] at h1
      rw [h1]
    · unfold slo
      rw [Nat.add_zero, upd_s, upd_n (by omega), upd_n (by omega), upd_n (by omega), h2]
  · refine ⟨sO (s (4 * k)) ++ (sO (s (4 * k + 2)) ++ sO (s (4 * k + 3))), ?_, ?_⟩
    · unfold slo
      rw [h1]
      exact e _ _
    · unfold slo
      rw [upd_s, upd_n (by omega), upd_n (by omega), upd_n (by omega), h2]
      exact e2 _ _
  · refine ⟨sO (s (4 * k)) ++ (sO (s (4 * k + 1)) ++ sO (s (4 * k + 3))), ?_, ?_⟩
    · unfold slo
      rw [h1]
      exact ((e _ _).append_left _).trans (e _ _)
    · unfold slo
      rw [upd_s, upd_n (by omega), upd_n (by omega), upd_n (by omega), h2]
      exact ((e2 _ _).append_left _).trans (e2 _ _)
  · refine ⟨sO (s (4 * k)) ++ (sO (s (4 * k + 1)) ++ sO (s (4 * k + 2))), ?_, ?_⟩
    · unfold slo
      rw [h1]
      have := ((e (sO (s (4 * k + 2))) []).append_left (sO (s (4 * k + 1)))).append_left (sO (s (4 * k)))
      rw [List.append_nil, List.append_nil] at this
      exact this.trans (((e _ _).append_left _).trans (e _ _))
    · unfold slo
      rw [upd_s, upd_n (by omega), upd_n (by omega), upd_n (by omega), h2]
      have := ((e2 (sO (s (4 * k + 2))) []).append_left (sO (s (4 * k + 1)))).append_left (sO (s (4 * k)))
      rw [List.append_nil, List.append_nil] at this
      exact this.trans (((e2 _ _).append_left _).trans (e2 _ _))
theorem pm_1 {v : Nat} (a b : List Nat) : (a ++ ([v] ++ b)).Perm ([v] ++ (a ++ b)) := List.perm_middle
theorem pm_0 (a b : List Nat) : (a ++ ([] ++ b)).Perm ([] ++ (a ++ b)) := List.Perm.refl _
theorem slo_del {L : List Nat} (hi : i < 4) (h : ¬ s (4 * k + i) < 0) (P : (slo s k).Perm L) : (slo (upd s (4 * k + i) (-1)) k).Perm (L.erase (s (4 * k + i)).toNatClampNeg) := by
  obtain ⟨r, r1, r2⟩ := slo_ch (x := -1) hi (sO_pos h) (sO_neg (by decide)) pm_1 pm_0
  refine r2.trans ?_
  have := (r1.symm.trans P).erase (s (4 * k + i)).toNatClampNeg
  simpa using this
theorem slo_add {v : Nat} {L : List Nat} (hi : i < 4) (h : s (4 * k + i) < 0) (hv : v < 2 ^ 31) (P : (slo s k).Perm L) : (slo (upd s (4 * k + i) (nI v)) k).Perm (v :: L) := by
  obtain ⟨r, r1, r2⟩ := slo_ch (x := nI v) (l2 := [v]) hi (sO_neg h) (by rw [sO_pos (nI_pos hv), nI_clamp hv]) pm_0 pm_1
  exact r2.trans ((r1.symm.trans P).cons v)
end
theorem SLS_up {s : Nat → Int32} {m : Int32} {L : Nat → List Nat} {k i : Nat} {x : Int32} {l : List Nat} (S : SLS s m L) (hi : i < 4) (h : m ≠ 0 → (slo (upd s (4 * k + i) x) k).Perm l) : SLS (upd s (4 * k + i) x) m (upf L k l) := by
  intro hm j hj
  by_cases q : j = k
  · subst q; rw [upf_s]; exact h hm
  · rw [upf_n q, slo_un q hi]; exact S hm j hj
/-- the block that a PIECE is, of those that are asked -/
abbrev gvP (l c p : Nat) (m : List Int8) (v : Nat) : Prop := v / 16 = be32 m 1 ∧ 64 * (v % 16) = be32 m 5 ∧ bsz l c p (v / 16) (v % 16) = m.length - 9
def gvF (L : List Nat) (l c p : Nat) (m : List Int8) : Option Nat := L.find? (fun v => decide (gvP l c p m v))
theorem gvP_u {l c p : Nat} {m : List Int8} {v w : Nat} (h1 : gvP l c p m v) (h2 : gvP l c p m w) : v = w := by
  obtain ⟨a1, a2, _⟩ := h1
  obtain ⟨b1, b2, _⟩ := h2
  omega
theorem gvF_some {L : List Nat} {l c p : Nat} {m : List Int8} {v : Nat} (h : v ∈ L) (hv : gvP l c p m v) : gvF L l c p m = some v := by
  unfold gvF
  cases e : L.find? (fun v => decide (gvP l c p m v)) with
  | none =>
    have := List.find?_eq_none.mp e v h
    simp only [decide_eq_true_eq] at this
    exact absurd hv this
  | some w =>
    have := List.find?_some e
    simp only [decide_eq_true_eq] at this
    rw [gvP_u this hv]
theorem gvF_none {L : List Nat} {l c p : Nat} {m : List Int8} (h : ∀ v, v ∈ L → ¬ gvP l c p m v) : gvF L l c p m = none := by
  unfold gvF
  rw [List.find?_eq_none]
  intro v hv
  simp only [decide_eq_true_eq]
  exact h v hv
theorem gvF_mem {L : List Nat} {l c p : Nat} {m : List Int8} {v : Nat} (h : gvF L l c p m = some v) : v ∈ L ∧ gvP l c p m v := by
  unfold gvF at h
  have h2 := List.find?_some h
  simp only [decide_eq_true_eq] at h2
  exact ⟨List.mem_of_find?_eq_some h, h2⟩
