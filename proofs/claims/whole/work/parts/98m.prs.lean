/-! ===== the text that make writes is METAINFO ===== -/
/-- these bytes lie there -/
def AT (x : Nat → Nat) : Nat → List Nat → Prop
  | _, [] => True
  | p, a :: s => x p = a ∧ AT x (p + 1) s
theorem AT_app {x : Nat → Nat} : ∀ {a b : List Nat} {p : Nat}, AT x p (a ++ b) → AT x p a ∧ AT x (p + a.length) b
  | [], _, _, h => ⟨trivial, h⟩
  | a :: s, b, p, h => by
    obtain ⟨h1, h2⟩ := h
    obtain ⟨h3, h4⟩ := AT_app (a := s) (b := b) h2
    refine ⟨⟨h1, h3⟩, ?_⟩
    rw [List.length_cons, show p + (s.length + 1) = p + 1 + s.length by omega]
    exact h4
theorem AT_tx : ∀ (w u : List Int8), AT (tx (u ++ w)) u.length (w.map ub)
  | [], _ => trivial
  | b :: w, u => by
    refine ⟨?_, ?_⟩
    · unfold tx
      rw [if_pos (by simp), List.getD_eq_getElem?_getD, List.getElem?_append_right (Nat.le_refl _), Nat.sub_self]
      rfl
    · have := AT_tx w (u ++ [b])
      rw [List.append_assoc, List.length_append] at this
      exact this
def dN (v : Nat) : List Nat := (List.range (lg v + 1)).map (fun i => 48 + v / 10 ^ (lg v - i) % 10)
theorem ub_dg : ∀ d, d < 10 → ub (nI (48 + d)).toInt8 = 48 + d := by decide +kernel
theorem dN_ub {v : Nat} : (decL v).map ub = dN v := by
  unfold decL ofF dN
  rw [List.map_map]
  apply List.map_congr_left
  intro i _
  exact ub_dg _ (Nat.mod_lt _ (by decide))
theorem dN_len {v : Nat} : (dN v).length = (decL v).length := by rw [← dN_ub, List.length_map]
section
variable {x : Nat → Nat} {n p : Nat}
theorem dN_1 {v : Nat} (h : v < 10) : dN v = [48 + v] := by
  unfold dN lg
  rw [if_pos h]
  simp [List.range_succ]
  omega
theorem dN_2 {v : Nat} (h : ¬ v < 10) (h2 : v < 100) : dN v = [48 + v / 10, 48 + v % 10] := by
  unfold dN lg
  rw [if_neg h, if_pos h2]
  simp [List.range_succ]
  omega
theorem dN_3 {v : Nat} (h : ¬ v < 100) (h2 : v < 1000) : dN v = [48 + v / 100, 48 + v / 10 % 10, 48 + v % 10] := by
  unfold dN lg
  rw [if_neg (by omega), if_neg h, if_pos h2]
  simp [List.range_succ]
  omega
theorem dN_4 {v : Nat} (h : ¬ v < 1000) (h2 : v < 10000) : dN v = [48 + v / 1000, 48 + v / 100 % 10, 48 + v / 10 % 10, 48 + v % 10] := by
  unfold dN lg
  rw [if_neg (by omega), if_neg (by omega), if_neg h]
  simp [List.range_succ]
  omega
/-- digits, and what is read of them -/
theorem dN_rd {v k : Nat} (hv : v < 10000) (h : AT x p (dN v)) (he : ¬ dg (x (p + (dN v).length))) : dg (x p) ∧ dgq x p (k + 4) = p + (dN v).length ∧ vlk x p (dN v).length = v := by
  by_cases h1 : v < 10
  · rw [dN_1 h1] at h he ⊢
    obtain ⟨a1, _⟩ := h
    simp only [List.length_cons, List.length_nil, Nat.zero_add] at he ⊢
    have d1 : dg (x p) := by rw [a1]; exact ⟨by omega, by omega⟩
    refine ⟨d1, ?_, ?_⟩
    · unfold dgq
      rw [if_pos d1]
      split
      · rfl
      · rw [rn, if_pos d1, rn, if_neg he]
    · simp only [vlk, Nat.add_zero, a1]
      omega
  · by_cases h2 : v < 100
    · rw [dN_2 h1 h2] at h he ⊢
      obtain ⟨a1, a2, _⟩ := h
      simp only [List.length_cons, List.length_nil, Nat.zero_add] at he ⊢
      have d1 : dg (x p) := by rw [a1]; exact ⟨by omega, by omega⟩
      have d2 : dg (x (p + 1)) := by rw [a2]; exact ⟨by omega, by omega⟩
      refine ⟨d1, ?_, ?_⟩
      · unfold dgq
        rw [if_pos d1, if_neg (by omega), rn, if_pos d1, rn, if_pos d2, rn, if_neg he]
      · simp only [vlk, Nat.add_zero, Nat.zero_add, a1, a2]
        omega
    · by_cases h3 : v < 1000
      · rw [dN_3 h2 h3] at h he ⊢
        obtain ⟨a1, a2, a3, _⟩ := h
        simp only [List.length_cons, List.length_nil, Nat.zero_add] at he ⊢
        have d1 : dg (x p) := by rw [a1]; exact ⟨by omega, by omega⟩
        have d2 : dg (x (p + 1)) := by rw [a2]; exact ⟨by omega, by omega⟩
        have d3 : dg (x (p + 1 + 1)) := by rw [a3]; exact ⟨by omega, by omega⟩
        refine ⟨d1, ?_, ?_⟩
        · unfold dgq
          rw [if_pos d1, if_neg (by omega), rn, if_pos d1, rn, if_pos d2, rn, if_pos d3, rn, if_neg he]
        · simp only [vlk, Nat.add_zero, Nat.zero_add, a1, a2, show p + 2 = p + 1 + 1 from rfl, a3]
          omega
      · rw [dN_4 h3 hv] at h he ⊢
        obtain ⟨a1, a2, a3, a4, _⟩ := h
        simp only [List.length_cons, List.length_nil, Nat.zero_add] at he ⊢
        have d1 : dg (x p) := by rw [a1]; exact ⟨by omega, by omega⟩
        have d2 : dg (x (p + 1)) := by rw [a2]; exact ⟨by omega, by omega⟩
        have d3 : dg (x (p + 1 + 1)) := by rw [a3]; exact ⟨by omega, by omega⟩
        have d4 : dg (x (p + 1 + 1 + 1)) := by rw [a4]; exact ⟨by omega, by omega⟩
        refine ⟨d1, ?_, ?_⟩
        · unfold dgq
          rw [if_pos d1, if_neg (by omega), rn, if_pos d1, rn, if_pos d2, rn, if_pos d3, rn, if_pos d4]
          cases k with
          | zero => rfl
          | succ k => rw [rn, if_neg he]
        · simp only [vlk, Nat.add_zero, Nat.zero_add, a1, a2, show p + 2 = p + 1 + 1 from rfl, a3, show p + 3 = p + 1 + 1 + 1 from rfl, a4]
          omega
/-- a string -/
theorem AT_str {v e : Nat} (hv : v < 10000) (h : AT x p (dN v)) (h2 : x e = 58) (ee : e = p + (dN v).length) (hn : e + 1 + v ≤ n) : dg (x p) ∧ stE x p = e ∧ stN x p = v ∧ stEnd x p = e + 1 + v ∧ stF x n p = none := by
  subst ee
  obtain ⟨r1, r2, r3⟩ := dN_rd (k := 0) hv h (by rw [h2]; decide)
  have e1 : stE x p = p + (dN v).length := r2
  have e2 : stN x p = v := by
    unfold stN
    rw [e1, Nat.add_sub_cancel_left]
    exact r3
  have e3 : stEnd x p = p + (dN v).length + 1 + v := by unfold stEnd; rw [e1, e2]
  refine ⟨r1, e1, e2, e3, ?_⟩
  unfold stF dgo
  rw [show dgq x p 4 = p + (dN v).length from r2, h2, decide_eq_true r1, decide_eq_true rfl, e3, if_pos (show (true && true) = true from rfl), if_pos hn]
/-- a number -/
theorem AT_num {v e : Nat} (hv : v < 10000) (h0 : x p = 105) (h : AT x (p + 1) (dN v)) (h2 : x e = 101) (ee : e = p + 1 + (dN v).length) : nuF x p = none ∧ nuEnd x p = e + 1 ∧ natO x (some p) = some v := by
  subst ee
  obtain ⟨r1, r2, r3⟩ := dN_rd (k := 5) hv h (by rw [h2]; decide)
  have n45 : ¬ x (p + 1) = 45 := by omega
  have eq : nuQ x p = p + 1 := if_neg n45
  have e2 : nuEnd x p = p + 1 + (dN v).length + 1 := by unfold nuEnd; rw [eq, r2]
  refine ⟨?_, e2, ?_⟩
  · unfold nuF dgo
    rw [if_neg (fun z => n45 z.1), eq, r2, h2, decide_eq_true r1, decide_eq_true rfl]
    rfl
  · rw [natO_s, if_pos ⟨h0, n45⟩, e2, show p + 1 + (dN v).length + 1 - 1 - (p + 1) = (dN v).length by omega, r3]
theorem pv_str {f dp : Nat} (h : dg (x p)) (h2 : stF x n p = none) : pv x n (f + 1) none dp p = .ok (stEnd x p) := by rw [pv, if_pos h, h2]
theorem pv_num {f dp : Nat} (h : x p = 105) (h2 : nuF x p = none) : pv x n (f + 1) none dp p = .ok (nuEnd x p) := by rw [pv, if_neg (by rw [h]; decide), if_pos h, h2]
theorem pv_dic {f dp : Nat} (h : x p = 100) (hd : dp < 8) : pv x n (f + 1) none dp p = pv x n f (some (true, none)) (dp + 1) (p + 1) := by
  rw [pv, if_neg (by rw [h]; decide), if_neg (by omega), if_pos ⟨Or.inr h, hd⟩, decide_eq_true h]
theorem pv_key {f dp e : Nat} {k : Option Nat} (h : dg (x p)) (h2 : stF x n p = none) (h3 : rsk x k p = true) (h4 : pv x n f none dp (stEnd x p) = .ok e) : pv x n (f + 1) (some (true, k)) dp p = pv x n f (some (true, some p)) dp e := by
  rw [pv, if_neg (by omega), if_pos rfl, h2]
  dsimp only
  rw [if_pos h3, h4]
theorem pv_fin {f dp : Nat} {k : Option Nat} {b : Bool} (h : x p = 101) : pv x n (f + 1) (some (b, k)) dp p = .ok (p + 1) := by rw [pv, if_pos h]
theorem fnd_n {f k e : Nat} (h : dg (x p)) (h2 : isK x p k = false) (h3 : bhd x n (stEnd x p) = e) : fnd x n k (f + 1) p = fnd x n k f e := by
  rw [fnd, if_neg (by omega), h2, h3]
  rfl
theorem fnd_y {f k : Nat} (h : dg (x p)) (h2 : isK x p k = true) : fnd x n k (f + 1) p = some (stEnd x p) := by
  rw [fnd, if_neg (by omega), if_pos h2]
theorem fnd_e {f k : Nat} (h : x p = 101) : fnd x n k (f + 1) p = none := by rw [fnd, if_pos h]
end
