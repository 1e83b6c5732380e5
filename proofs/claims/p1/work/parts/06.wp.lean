/-! ===== the pure machine: what a run comes to (a least fixed point, so that only what ends counts) ===== -/
def pz_SP (CALL : PzM → List Value → PzH → (Option Value → PzH → Prop) → Prop) (m : PzM) (Q : Option Value → PzH → Prop) (P : PzS → Prop) (s : PzS) : Prop := match pz_st m s.1 s.2.1 s.2.2.1 s.2.2.2 with
  | some (.inl s') => P s'
  | some (.inr (.inl (v, h))) => Q v h
  | some (.inr (.inr (c, as, h, pc, ls, rest))) => CALL c as h (fun r h' => P (pc, ls, r.toList ++ rest, h'))
  | none => False
def pz_W (CALL : PzM → List Value → PzH → (Option Value → PzH → Prop) → Prop) (m : PzM) (Q : Option Value → PzH → Prop) (s : PzS) : Prop := ∀ P : PzS → Prop, (∀ s, pz_SP CALL m Q P s → P s) → P s
/-- a method from its beginning, at most d calls deep -/
def pz_M : Nat → PzM → List Value → PzH → (Option Value → PzH → Prop) → Prop
  | 0, _, _, _, _ => False
  | d + 1, m, as, h, Q => pz_W (pz_M d) m Q (0, pz_en m as, [], h)
def pz_mono (CALL : PzM → List Value → PzH → (Option Value → PzH → Prop) → Prop) : Prop := ∀ (c : PzM) (as : List Value) (h : PzH) (Q Q' : Option Value → PzH → Prop), (∀ v h', Q v h' → Q' v h') → CALL c as h Q → CALL c as h Q'
section PZ
variable {CALL : PzM → List Value → PzH → (Option Value → PzH → Prop) → Prop} {m : PzM} {Q Q' : Option Value → PzH → Prop} {P P' : PzS → Prop} {s : PzS}
theorem pz_SP_mono (hC : pz_mono CALL) (hQ : ∀ v h, Q v h → Q' v h) (hP : ∀ s, P s → P' s) (h : pz_SP CALL m Q P s) : pz_SP CALL m Q' P' s := by
  unfold pz_SP at h ⊢
  cases e : pz_st m s.1 s.2.1 s.2.2.1 s.2.2.2 with
  | none => rw [e] at h; exact h.elim
  | some r =>
    rw [e] at h
    match r, h with
    | .inl s', h => exact hP _ h
    | .inr (.inl (v, h1)), h => exact hQ _ _ h
    | .inr (.inr (c, as, h1, pc, ls, rest)), h => exact hC _ _ _ _ _ (fun _ _ q => hP _ q) h
theorem pz_W_mono (hC : pz_mono CALL) (hQ : ∀ v h, Q v h → Q' v h) (h : pz_W CALL m Q s) : pz_W CALL m Q' s :=
  fun P hP => h P (fun s hs => hP s (pz_SP_mono hC hQ (fun _ q => q) hs))
theorem pz_W_in (hC : pz_mono CALL) (h : pz_SP CALL m Q (pz_W CALL m Q) s) : pz_W CALL m Q s :=
  fun P hP => hP s (pz_SP_mono hC (fun _ _ q => q) (fun _ q => q P hP) h)
theorem pz_W_out (hC : pz_mono CALL) (h : pz_W CALL m Q s) : pz_SP CALL m Q (pz_W CALL m Q) s :=
  h (fun s => pz_SP CALL m Q (pz_W CALL m Q) s) (fun _ hs => pz_SP_mono hC (fun _ _ q => q) (fun _ q => pz_W_in hC q) hs)
theorem pz_W_iff (hC : pz_mono CALL) : pz_W CALL m Q s ↔ pz_SP CALL m Q (pz_W CALL m Q) s := ⟨pz_W_out hC, pz_W_in hC⟩
end PZ
theorem pz_M_mono : ∀ d : Nat, pz_mono (pz_M d)
  | 0 => fun _ _ _ _ _ _ h => h.elim
  | d + 1 => fun _ _ _ _ _ hQ h => pz_W_mono (pz_M_mono d) hQ h
/-- the run has one end -/
theorem pz_M_det : ∀ (d : Nat) (m : PzM) (as : List Value) (h : PzH) (Q : Option Value → PzH → Prop), pz_M d m as h Q → ∃ v h', Q v h' ∧ pz_M d m as h (fun a b => a = v ∧ b = h')
  | 0, _, _, _, _, h => h.elim
  | d + 1, m, as, h0, Q, h => by
    have hC := pz_M_mono d
    refine h (fun s => ∃ v h', Q v h' ∧ pz_W (pz_M d) m (fun a b => a = v ∧ b = h') s) (fun s hs => ?_)
    unfold pz_SP at hs
    cases e : pz_st m s.1 s.2.1 s.2.2.1 s.2.2.2 with
    | none => rw [e] at hs; exact hs.elim
    | some r =>
      rw [e] at hs
      match r, hs with
      | .inl s', hs =>
        obtain ⟨v, h', q, w⟩ := hs
        exact ⟨v, h', q, pz_W_in hC (by unfold pz_SP; rw [e]; exact w)⟩
      | .inr (.inl (v, h1)), hs => exact ⟨v, h1, hs, pz_W_in hC (by unfold pz_SP; rw [e]; exact ⟨rfl, rfl⟩)⟩
      | .inr (.inr (c, as, h1, pc, ls, rest)), hs =>
        obtain ⟨r1, h2, ⟨v, h', q, w⟩, hc⟩ := pz_M_det d _ _ _ _ hs
        refine ⟨v, h', q, pz_W_in hC ?_⟩
        unfold pz_SP
        rw [e]
        exact hC _ _ _ _ _ (fun a b hab => by obtain ⟨rfl, rfl⟩ := hab; exact w) hc
theorem pz_M_both : ∀ (d : Nat) (m : PzM) (as : List Value) (h : PzH) (Q1 Q2 : Option Value → PzH → Prop), pz_M d m as h Q1 → pz_M d m as h Q2 → ∃ v h', Q1 v h' ∧ Q2 v h'
  | 0, _, _, _, _, _, h, _ => h.elim
  | d + 1, m, as, h0, Q1, Q2, h, g => by
    have hC := pz_M_mono d
    refine h (fun s => pz_W (pz_M d) m Q2 s → ∃ v h', Q1 v h' ∧ Q2 v h') (fun s hs g => ?_) g
    have g := pz_W_out hC g
    unfold pz_SP at hs g
    cases e : pz_st m s.1 s.2.1 s.2.2.1 s.2.2.2 with
    | none => rw [e] at hs; exact hs.elim
    | some r =>
      rw [e] at hs g
      match r, hs, g with
      | .inl s', hs, g => exact hs g
      | .inr (.inl (v, h1)), hs, g => exact ⟨v, h1, hs, g⟩
      | .inr (.inr (c, as, h1, pc, ls, rest)), hs, g =>
        obtain ⟨v, h', q1, q2⟩ := pz_M_both d _ _ _ _ _ hs g
        exact q1 q2
/-- a call that has this end: any wish for its end is a wish for this one -/
def pz_Runs (d : Nat) (m : PzM) (as : List Value) (h : PzH) (v : Option Value) (h' : PzH) : Prop := ∀ Q : Option Value → PzH → Prop, pz_M d m as h Q ↔ Q v h'
theorem pz_Runs_of {d : Nat} {m : PzM} {as : List Value} {h : PzH} {v : Option Value} {h' : PzH} (k : pz_M d m as h (fun a b => a = v ∧ b = h')) : pz_Runs d m as h v h' := fun Q =>
  ⟨fun g => by
    obtain ⟨a, b, ⟨rfl, rfl⟩, q⟩ := pz_M_both d m as h _ _ k g
    exact q, fun q => pz_M_mono d _ _ _ _ _ (fun a b hab => by obtain ⟨rfl, rfl⟩ := hab; exact q) k⟩
/-- a method at a place -/
def wp (d : Nat) (m : PzM) (pc : Nat) (ls st : List Value) (h : PzH) (Q : Option Value → PzH → Prop) : Prop := pz_W (pz_M d) m Q (pc, ls, st, h)
section WP
variable {d : Nat} {m : PzM} {pc : Nat} {ls st : List Value} {h : PzH} {Q : Option Value → PzH → Prop}
theorem wp_M {as : List Value} : pz_M (d + 1) m as h Q ↔ wp d m 0 (pz_en m as) [] h Q := Iff.rfl
theorem wp_go {pc' : Nat} {ls' st' : List Value} {h' : PzH} (e : pz_st m pc ls st h = some (.inl (pc', ls', st', h'))) : wp d m pc ls st h Q ↔ wp d m pc' ls' st' h' Q := by
  unfold wp
  rw [pz_W_iff (pz_M_mono d)]
  unfold pz_SP
  rw [e]
theorem wp_ret {v : Option Value} {h' : PzH} (e : pz_st m pc ls st h = some (.inr (.inl (v, h')))) : wp d m pc ls st h Q ↔ Q v h' := by
  unfold wp
  rw [pz_W_iff (pz_M_mono d)]
  unfold pz_SP
  rw [e]
theorem wp_call {c : PzM} {as : List Value} {h' : PzH} {pc' : Nat} {ls' rest : List Value} (e : pz_st m pc ls st h = some (.inr (.inr (c, as, h', pc', ls', rest)))) : wp d m pc ls st h Q ↔ pz_M d c as h' (fun r h2 => wp d m pc' ls' (r.toList ++ rest) h2 Q) := by
  unfold wp
  rw [pz_W_iff (pz_M_mono d)]
  unfold pz_SP
  rw [e]
theorem pz_st_of {i : Instr} {n : Nat} (e : decode m.2.2.1 pc = .ok (i, n)) : pz_st m pc ls st h = pz_ex m i n pc ls st h := by
  unfold pz_st
  rw [e]
end WP
