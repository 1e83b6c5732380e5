/-! ===== the pure heap and the machine's heap ===== -/
def pz_ce (base : Nat) (cT : Nat → ClassId) (h : PzH) (a : Nat) : va_E :=
  if pz_C h a < 100 then .inr (pz_C h a, (List.range (pz_nf (pz_C h a))).map (fun k => pz_lv base (fun _ => 0) (pz_fv h a k (pz_fk (pz_C h a) k))))
  else if pz_C h a < 110 then .inl (cT (pz_C h a), pz_L h a, .inl (pz_I h a))
  else .inl (cT (pz_C h a), pz_L h a, .inr (.inr (.inr (.inr (fun i => (pz_R h a i).map (fun q => base + q))))))
def pz_ws (base : Nat) (cT : Nat → ClassId) (h : PzH) : va_W := (List.range (pz_N h)).map (fun a => (base + a, pz_ce base cT h a))
theorem pz_ws_at {base : Nat} {cT : Nat → ClassId} {h : PzH} {a : Nat} (ha : a < pz_N h) : (pz_ws base cT h)[a]? = some (base + a, pz_ce base cT h a) := by
  unfold pz_ws
  rw [List.getElem?_map, List.getElem?_range ha]
  rfl
theorem pz_ws_out {base : Nat} {cT : Nat → ClassId} {h : PzH} {a : Nat} {q : Nat × va_E} (e : (pz_ws base cT h)[a]? = some q) : a < pz_N h ∧ q = (base + a, pz_ce base cT h a) := by
  have hl : a < pz_N h := by
    have := (List.getElem?_eq_some_iff.mp e).1
    simpa [pz_ws] using this
  exact ⟨hl, (Option.some.inj ((pz_ws_at hl).symm.trans e)).symm⟩
theorem pz_ws_D {base : Nat} {cT : Nat → ClassId} {h : PzH} : va_D (fun q => base ≤ q) (pz_ws base cT h) := by
  refine ⟨fun i j p q hp hq e => ?_, fun k q hk => ?_⟩
  · obtain ⟨-, rfl⟩ := pz_ws_out hp
    obtain ⟨-, rfl⟩ := pz_ws_out hq
    have : base + i = base + j := e
    omega
  · obtain ⟨-, rfl⟩ := pz_ws_out hk
    exact Nat.le_add_right _ _
/-- one cell is another one: the list with that one set -/
theorem pz_ws_set {base : Nat} {cT : Nat → ClassId} {h h' : PzH} {a : Nat} {x : va_E} (hn : pz_N h' = pz_N h) (ho : ∀ b, b ≠ a → pz_ce base cT h' b = pz_ce base cT h b) (hx : pz_ce base cT h' a = x) : (pz_ws base cT h).set a (base + a, x) = pz_ws base cT h' := by
  apply List.ext_getElem?
  intro b
  rw [List.getElem?_set]
  by_cases hb : b < pz_N h
  · rw [pz_ws_at (h := h') (by rw [hn]; exact hb)]
    by_cases hab : a = b
    · subst hab
      rw [if_pos rfl, if_pos (by simpa [pz_ws] using hb), hx]
    · rw [if_neg hab, pz_ws_at hb, ho b (fun q => hab q.symm)]
  · have e1 : (pz_ws base cT h)[b]? = none := List.getElem?_eq_none (by simp [pz_ws]; omega)
    have e2 : (pz_ws base cT h')[b]? = none := List.getElem?_eq_none (by simp [pz_ws, hn]; omega)
    rw [e1, e2]
    by_cases hab : a = b
    · rw [if_pos hab, if_neg (by simp [pz_ws]; omega)]
    · rw [if_neg hab]
theorem pz_ws_app {base : Nat} {cT : Nat → ClassId} {h h' : PzH} {x : va_E} (hn : pz_N h' = pz_N h + 1) (ho : ∀ b, b < pz_N h → pz_ce base cT h' b = pz_ce base cT h b) (hx : pz_ce base cT h' (pz_N h) = x) : pz_ws base cT h ++ [(base + pz_N h, x)] = pz_ws base cT h' := by
  unfold pz_ws
  rw [hn, List.range_succ, List.map_append]
  simp only [List.map_cons, List.map_nil, hx]
  congr 1
  apply List.map_congr_left
  intro b hb
  rw [ho b (List.mem_range.mp hb)]
/-- the pure heap h is what the machine's heap H holds from base on -/
def pz_HH (D : va_G) (cT : Nat → ClassId) (base : Nat) (h : PzH) (H : Heap) : Prop := H.size = base + pz_N h ∧ va_P D vwCl (pz_ws base cT h) H ∧ (∀ a, pz_N h ≤ a → pz_C h a = 999) ∧ ∀ a, pz_C h a = 101 → ∀ i, fits .byte (.int (pz_I h a i)) = true
def pz_tys (cT : Nat → ClassId) : List (ClassId × FieldType) := [(cT 100, .int), (cT 101, .byte), (cT 102, .boolean), (cT 110, .object "SwarmDesk$Client"), (cT 111, .object "SwarmDesk$Link")]
section REL
variable {D : va_G} {cT : Nat → ClassId} {base : Nat} {h : PzH} {H : Heap}
theorem pz_HH.lt (hh : pz_HH D cT base h H) {a : Nat} (ha : pz_C h a < 999) : a < pz_N h := by
  rcases Nat.lt_or_ge a (pz_N h) with q | q
  · exact q
  · have := hh.2.2.1 a q
    omega
theorem pz_HH.at (hh : pz_HH D cT base h H) {a : Nat} (ha : pz_C h a < 999) : (pz_ws base cT h)[a]? = some (base + a, pz_ce base cT h a) := pz_ws_at (hh.lt ha)
theorem pz_ce_o {a ci : Nat} (hc : pz_C h a = ci) (hl : ci < 100) : pz_ce base cT h a = .inr (ci, (List.range (pz_nf ci)).map (fun k => pz_lv base (fun _ => 0) (pz_fv h a k (pz_fk ci k)))) := by
  unfold pz_ce
  rw [hc, if_pos hl]
theorem pz_ce_p {a t : Nat} (hc : pz_C h a = t) (hl : 100 ≤ t) (hu : t < 110) : pz_ce base cT h a = .inl (cT t, pz_L h a, .inl (pz_I h a)) := by
  unfold pz_ce
  rw [hc, if_neg (by omega), if_pos hu]
theorem pz_ce_r {a t : Nat} (hc : pz_C h a = t) (hl : 110 ≤ t) : pz_ce base cT h a = .inl (cT t, pz_L h a, .inr (.inr (.inr (.inr (fun i => (pz_R h a i).map (fun q => base + q)))))) := by
  unfold pz_ce
  rw [hc, if_neg (by omega), if_neg (by omega)]
/-- a field's value, by its kind -/
theorem pz_fv_set_I {a k kd : Nat} {x : Int32} (hk : kd = 0 ∨ kd = 1) (b j jd : Nat) (hj : b = a → j = k → jd = kd) : pz_fv (pz_sI h a k x) b j jd = if b = a ∧ j = k then .int x else pz_fv h b j jd := by
  by_cases q : b = a ∧ j = k
  · rw [if_pos q]
    obtain ⟨rfl, rfl⟩ := q
    have := hj rfl rfl
    subst this
    rcases hk with rfl | rfl <;> simp [pz_fv, pz_I, pz_sI, pz_u2]
  · rw [if_neg q]
    unfold pz_fv pz_I pz_J pz_R pz_sI pz_u2
    split <;> simp [q]
theorem pz_fv_set_J {a k : Nat} {x : Int64} (b j jd : Nat) (hj : b = a → j = k → jd = 2) : pz_fv (pz_sJ h a k x) b j jd = if b = a ∧ j = k then .long x else pz_fv h b j jd := by
  by_cases q : b = a ∧ j = k
  · rw [if_pos q]
    obtain ⟨rfl, rfl⟩ := q
    have := hj rfl rfl
    subst this
    simp [pz_fv, pz_J, pz_sJ, pz_u2]
  · rw [if_neg q]
    unfold pz_fv pz_I pz_J pz_R pz_sJ pz_u2
    split <;> simp [q]
theorem pz_fv_set_R {a k : Nat} {x : Option Nat} (b j jd : Nat) (hj : b = a → j = k → jd = 3) : pz_fv (pz_sR h a k x) b j jd = if b = a ∧ j = k then pz_rf x else pz_fv h b j jd := by
  by_cases q : b = a ∧ j = k
  · rw [if_pos q]
    obtain ⟨rfl, rfl⟩ := q
    have := hj rfl rfl
    subst this
    simp [pz_fv, pz_R, pz_sR, pz_u2]
  · rw [if_neg q]
    unfold pz_fv pz_I pz_J pz_R pz_sR pz_u2
    split <;> simp [q]
end REL
