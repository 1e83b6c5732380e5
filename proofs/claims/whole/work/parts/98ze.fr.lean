/-! ===== the state at rest ===== -/
def A0 : St := (fun r j => if r = 0 ∧ j = 27 then -1 else 0, fun _ => [], fun _ => [], fun _ => [], fun _ => [], [])
section
variable {h : PzH}
theorem A0_B {r j : Nat} (hr : r ≠ 0) : sB A0 r j = 0 := if_neg (fun z => hr z.1)
theorem A0_0 {j : Nat} (hj : j ≠ 27) : sB A0 0 j = 0 := if_neg (fun z => hj z.2)
theorem GV_0 : GV A0 0 0 0 := by
  refine ⟨⟨⟨A0_0 (by decide), A0_0 (by decide), A0_0 (by decide), by decide, by decide, by decide, fun z => absurd z (by decide)⟩, fun j _ => by show ([] : List Int8).length ≤ 4000; decide, fun a _ => by show ([] : List Int8).length ≤ 4096; decide, fun a _ z => absurd (A0_B (by decide)) z, fun k _ v hv => absurd (show v ∈ ([] : List Nat) from hv) (by simp), ⟨fun a b _ _ => ⟨fun z => absurd (A0_B (by decide)) z, fun _ => ⟨A0_B (by decide), A0_B (by decide), A0_B (by decide), A0_B (by decide), fun q _ => A0_B (by decide), rfl, rfl⟩, fun q _ z => absurd (A0_B (by decide)) z⟩, fun a _ z => absurd (A0_B (by decide)) z⟩, fun k _ => Or.inl (A0_B (by decide))⟩, fun _ => ⟨rfl, rfl, fun x _ => A0_B (by decide)⟩, fun z => absurd (A0_0 (by decide)) z, by show ([] : List Int8).length ≤ 4096; decide, fun z => absurd (A0_0 (by decide)) z, A0_0 (by decide), by show ([] : List (Nat × Nat)).length ≤ 16; decide⟩
theorem RC_0 (D : DKF h) : RC h A0 := by
  obtain ⟨d1, d2, ⟨w1, w2, w3⟩, s, ⟨lo, l2, T15⟩, ⟨⟨n1, n2, n3, T28⟩, kf, lf⟩, ac, w4, w5⟩ := D
  refine ⟨⟨d1, s, lo, T15.1, T28.1, n1, fun k hk => ⟨(kf k hk).1, (kf k hk).2.1⟩, fun k hk h6 => ⟨(lf k hk h6).1, (lf k hk h6).2.1⟩, ac⟩, ⟨28, Or.inr rfl, n2, l2, ⟨T28.2.1.1, T28.2.1.2.1, T28.2.1.2.2.1, T28.2.1.2.2.2, fun j hj => absurd (show j < 0 from hj) (by omega), T28.2.2.1, T28.2.2.2⟩, ⟨_, T15.2.2.1⟩, ⟨_, T15.2.2.2⟩⟩, ⟨w1, w2, ?_, d2⟩, fun k hk => ⟨(kf k hk).2.2.1, ⟨[], ?_⟩, fun z => absurd (A0_B (by decide)) z⟩, fun a b ha hb hab => ?_, ⟨_, n3⟩, ⟨_, w4⟩, ⟨_, w5⟩⟩
  · rw [if_pos (A0_0 (by decide))]
    exact w3
  · have := (kf k hk).2.2.2
    rw [show 37 + 4 * k = 36 + 4 * k + 1 by omega, show 38 + 4 * k = 36 + 4 * k + 2 by omega]
    exact this
  · obtain ⟨r, T1, i0, i1, ⟨z3, z4, z5, z6, z7, z8, z9, z12, z13⟩, j, w⟩ := lf (5 * a + b) (by omega) (by omega)
    rw [show (5 * a + b) / 5 = a by omega] at i0
    rw [show (5 * a + b) % 5 = b by omega] at i1
    unfold LR
    refine ⟨i0, i1, ?_, ?_, ?_, ?_, ?_, ?_, ?_, ?_, ?_, ?_, ?_, w⟩
    · rw [z3, A0_B (by decide)]
    · rw [z4, A0_B (by decide)]
    · rw [z5, A0_B (by decide)]
    · rw [z6, if_pos (A0_B (by decide))]
    · rw [z7, if_pos (A0_B (by decide))]
    · rw [z8, A0_B (by decide)]
    · rw [z9, A0_B (by decide)]
    · rw [j]
      exact BTS_0 (fun q _ => A0_B (by decide))
    · rw [z12]; rfl
    · exact ⟨[], List.Perm.refl _, by simp, fun v hv => absurd hv (by simp), fun i hi => absurd hi (by simp)⟩
    · rw [z13, A0_B (by decide)]
end
