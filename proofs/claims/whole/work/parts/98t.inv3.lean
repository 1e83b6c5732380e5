/-! ===== what holds between the calls: load, make ===== -/
def LU (A : St) : Prop := ∀ a b, a < 5 → b < 5 → (a = b → sB A 23 (5 * a + b) = 0) ∧ (sB A 23 (5 * a + b) = 0 → sB A 24 (5 * a + b) = 0 ∧ sB A 25 (5 * a + b) = 0 ∧ sB A 28 (5 * a + b) = 0 ∧ sB A 29 (5 * a + b) = 0 ∧ (∀ q, q < 64 → sB A 30 (64 * (5 * a + b) + q) = 0) ∧ sW A (5 * a + b) = [] ∧ sL A (5 * a + b) = [])
section
variable {A B : St} {l c p : Nat}
theorem LU_of (I : LI A l c p) : LU A := fun a b ha hb => by
  obtain ⟨k1, k2, _⟩ := I.1 a b ha hb
  exact ⟨fun z => Decidable.not_not.mp (fun y => (k1 y).1 z), k2⟩
theorem LU_cl {a b : Nat} {w : Int32} (ha : a < 5) (hb : b < 5) (I : LU A) : LU (clA A a b w) := by
  intro x y hx hy
  obtain ⟨k1, k2⟩ := I x y hx hy
  rw [cl_v (r := 23) (j := 5 * x + y) (by decide), cl_v (r := 24) (by decide), cl_v (r := 25) (by decide), cl_v (r := 28) (by decide), cl_v (r := 29) (by decide), cl_30]
  show _ ∧ (_ → _ ∧ _ ∧ _ ∧ _ ∧ _ ∧ upf (upf (sW A) (5 * a + b) []) (5 * b + a) [] (5 * x + y) = [] ∧ upf (upf (sL A) (5 * a + b) []) (5 * b + a) [] (5 * x + y) = [])
  by_cases e1 : 5 * x + y = 5 * b + a
  · obtain ⟨rfl, rfl⟩ := k_inj hy ha e1
    simp only [if_true, upf_s, true_and, and_true, true_implies, implies_true]
    exact fun q hq => fil_in (by omega)
  · by_cases e2 : 5 * x + y = 5 * a + b
    · obtain ⟨rfl, rfl⟩ := k_inj hy hb e2
      simp only [if_true, upf_s, upf_n e1, ite_self, true_and, and_true, true_implies, implies_true]
      intro q hq
      rw [fil_out (by omega), fil_in (by omega)]
    · rw [if_neg e1, if_neg e2, if_neg e1, if_neg e2, if_neg e1, if_neg e2, if_neg e1, if_neg e2, if_neg e1, if_neg e2, upf_n e1, upf_n e2, upf_n e1, upf_n e2]
      refine ⟨k1, fun z => ?_⟩
      obtain ⟨z1, z2, z3, z4, z5, z6, z7⟩ := k2 z
      exact ⟨z1, z2, z3, z4, fun q hq => by rw [fil_out (by omega), fil_out (by omega)]; exact z5 q hq, z6, z7⟩
theorem LU_pa {a : Nat} (ha : a < 5) (I : LU A) : ∀ n, n ≤ 5 → LU (paA A a n)
  | 0, _ => I
  | n + 1, h => LU_cl ha (by omega) (LU_pa ha I n (by omega))
theorem HW_cl {a b : Nat} {w : Int32} (hw : HW A) : HW (clA A a b w) := fun j hj => by
  show (upf (upf (sW A) _ _) _ _ j).length ≤ 4000
  unfold upf
  split
  · simp
  · split
    · simp
    · exact hw j hj
theorem HW_pa {a : Nat} (hw : HW A) : ∀ n, HW (paA A a n)
  | 0 => hw
  | n + 1 => HW_cl (HW_pa hw n)
theorem d23_pa {a : Nat} : ∀ n, D23 A (paA A a n)
  | 0 => D23_refl
  | n + 1 => D23_trans (d23_pa n) d23_cl
theorem pa_z {a : Nat} : ∀ n b, b < n → sB (paA A a n) 23 (5 * a + b) = 0 ∧ sB (paA A a n) 23 (5 * b + a) = 0
  | 0, b, h => absurd h (by omega)
  | n + 1, b, h => by
    show sB (clA (paA A a n) a n 0) 23 (5 * a + b) = 0 ∧ sB (clA (paA A a n) a n 0) 23 (5 * b + a) = 0
    rw [cl_v (by decide), cl_v (by decide)]
    by_cases e : b = n
    · subst e
      exact ⟨by rw [if_pos rfl, ite_self], by rw [if_pos rfl]⟩
    · obtain ⟨i1, i2⟩ := pa_z (a := a) n b (by omega)
      rw [i1, i2, ite_self, ite_self, ite_self, ite_self]
      exact ⟨rfl, rfl⟩
theorem an_all (U : LU A) (hw : HW A) : ∀ n, n ≤ 4 → LU (anA A n) ∧ HW (anA A n) ∧ D23 A (anA A n) ∧ (∀ a, a < n → sB (anA A n) 18 a = 0) ∧ (∀ j, sB (anA A n) 0 j = if j = 16 then 1 else sB A 0 j) ∧ (∀ a, a < n → ∀ b, b < 5 → sB (anA A n) 23 (5 * a + b) = 0 ∧ sB (anA A n) 23 (5 * b + a) = 0)
  | 0, _ => by
    refine ⟨U, hw, d23_u2 (by decide), fun a ha => absurd ha (by omega), fun j => ?_, fun a ha => absurd ha (by omega)⟩
    show pz_u2 (sB A) 0 16 1 0 j = _
    rw [gu_22]
    simp only [true_and]
  | n + 1, hn => by
    obtain ⟨i1, i2, i3, i4, i5, i6⟩ := an_all U hw n (by omega)
    show LU (paA (pz_u2 (sB (anA A n)) 18 n 0, (anA A n).2) n 5) ∧ HW (paA (pz_u2 (sB (anA A n)) 18 n 0, (anA A n).2) n 5) ∧ D23 A (paA (pz_u2 (sB (anA A n)) 18 n 0, (anA A n).2) n 5) ∧ (∀ a, a < n + 1 → sB (paA (pz_u2 (sB (anA A n)) 18 n 0, (anA A n).2) n 5) 18 a = 0) ∧ (∀ j, sB (paA (pz_u2 (sB (anA A n)) 18 n 0, (anA A n).2) n 5) 0 j = if j = 16 then 1 else sB A 0 j) ∧ (∀ a, a < n + 1 → ∀ b, b < 5 → sB (paA (pz_u2 (sB (anA A n)) 18 n 0, (anA A n).2) n 5) 23 (5 * a + b) = 0 ∧ sB (paA (pz_u2 (sB (anA A n)) 18 n 0, (anA A n).2) n 5) 23 (5 * b + a) = 0)
    generalize anA A n = Z at i1 i2 i3 i4 i5 i6
    have u : LU (pz_u2 (sB Z) 18 n 0, Z.2) := i1
    have w : HW (pz_u2 (sB Z) 18 n 0, Z.2) := i2
    have d : D23 Z (pz_u2 (sB Z) 18 n 0, Z.2) := d23_u2 (by decide)
    have v : ∀ a, a < n + 1 → sB ((pz_u2 (sB Z) 18 n 0, Z.2) : St) 18 a = 0 := fun a ha => by
      show pz_u2 (sB Z) 18 n 0 18 a = 0
      rw [gu_22]
      by_cases e : a = n
      · rw [if_pos ⟨rfl, e⟩]
      · rw [if_neg (fun q => e q.2)]
        exact i4 a (by omega)
    have z0 : ∀ j, sB ((pz_u2 (sB Z) 18 n 0, Z.2) : St) 0 j = sB Z 0 j := fun _ => rfl
    have z23 : ∀ j, sB ((pz_u2 (sB Z) 18 n 0, Z.2) : St) 23 j = sB Z 23 j := fun _ => rfl
    generalize ((pz_u2 (sB Z) 18 n 0, Z.2) : St) = Y at u w d v z0 z23
    have dp := d23_pa (A := Y) (a := n) 5
    refine ⟨LU_pa (by omega) u 5 (Nat.le_refl _), HW_pa w 5, D23_trans i3 (D23_trans d dp), fun a ha => ?_, fun j => ?_, fun a ha b hb => ?_⟩
    · rw [pa_r (by decide)]
      exact v a ha
    · rw [pa_r (by decide), z0]
      exact i5 j
    · by_cases e : a = n
      · subst e
        exact pa_z 5 b hb
      · obtain ⟨q1, q2⟩ := i6 a (by omega) b hb
        refine ⟨?_, ?_⟩
        · rcases dp (5 * a + b) with y | y
          · rw [y, z23]; exact q1
          · exact y
        · rcases dp (5 * b + a) with y | y
          · rw [y, z23]; exact q2
          · exact y
theorem GV_an (U : LU A) (hw : HW A) (J : J1 A) (hd : ∀ a, a < 4 → (sD A a).length ≤ 4096) (T : TN A l c p) (hp : 1 ≤ p) (h2 : (sV A 2).length = 20) (h3 : (sV A 3).length = 20 * p) (h4 : (sV A 4).length ≤ 4096) (h17 : sB A 0 17 ≠ 0 → (sV A 4).length = l ∧ 1 ≤ l) (hF : sB A 0 21 = nI (sF A).length) (hF2 : (sF A).length ≤ 16) : GV (anA A 4) l c p := by
  obtain ⟨i1, i2, i3, i4, i5, i6⟩ := an_all U hw 4 (Nat.le_refl _)
  obtain ⟨v1, v2, v3⟩ := anA_V (A := A) 4
  generalize anA A 4 = Z at *
  have e0 : ∀ j, j ≠ 16 → sB Z 0 j = sB A 0 j := fun j hj => by rw [i5, if_neg hj]
  have e16 : sB Z 0 16 = 1 := by rw [i5, if_pos rfl]
  have z : ∀ a b, a < 5 → b < 5 → sB Z 23 (5 * a + b) = 0 := fun a b ha hb => by
    by_cases ha4 : a < 4
    · exact (i6 a ha4 b hb).1
    · by_cases hb4 : b < 4
      · exact (i6 b hb4 a ha).2
      · exact (i1 a b ha hb).1 (by omega)
  refine ⟨⟨?_, i2, ?_, ?_, ?_, ⟨fun a b ha hb => ?_, ?_⟩, J1_of J i3⟩, ?_⟩
  · unfold TN
    rw [e0 18 (by decide), e0 19 (by decide), e0 20 (by decide)]
    exact T
  · rw [v2]; exact hd
  · exact fun a ha h => absurd (i4 a ha) h
  · intro k hk v hv
    have := (i1 (k / 5) (k % 5) (by omega) (by omega)).2 (z _ _ (by omega) (by omega))
    rw [show 5 * (k / 5) + k % 5 = k by omega] at this
    rw [this.2.2.2.2.2.2] at hv
    exact absurd hv (by simp)
  · have y := (i1 a b ha hb).2 (z a b ha hb)
    exact ⟨fun h => absurd (z a b ha hb) h, fun _ => y, fun q hq h => absurd (y.2.2.2.2.1 q hq) h⟩
  · exact fun a ha h => absurd (i4 a ha) h
  · unfold GM
    rw [e16, v1, v3, e0 17 (by decide), e0 21 (by decide)]
    exact ⟨fun h => absurd h (by decide), fun _ => ⟨hp, h2, h3⟩, h4, h17, hF, hF2⟩
theorem flO_16 {x : Nat → Nat} {n : Nat} : ∀ F q (fs fs' : List (Nat × Nat)), fs.length ≤ 16 → flO x n F q fs = some fs' → fs'.length ≤ 16
  | 0, q, fs, fs', _, h => by simp [flO] at h
  | F + 1, q, fs, fs', hl, h => by
    unfold flO at h
    by_cases a1 : x q = 101
    · rw [if_pos a1] at h
      cases h
      exact hl
    · rw [if_neg a1] at h
      by_cases a2 : fs.length = 16
      · rw [if_pos a2] at h
        cases h
      · rw [if_neg a2] at h
        cases ef : fileO x n q with
        | none => rw [ef] at h; cases h
        | some y =>
          rw [ef] at h
          exact flO_16 F _ _ fs' (by rw [List.length_append]; simp; omega) h
theorem lenO_sp {x : Nat → Nat} {n i l : Nat} {fs : List (Nat × Nat)} (h : lenO x n i = some (l, fs)) : 1 ≤ l ∧ l ≤ 4096 ∧ fs.length ≤ 16 := by
  unfold lenO at h
  split at h
  · split at h
    · split at h
      · rename_i q
        cases h
        exact ⟨q.1, q.2, by simp⟩
      · cases h
    · cases h
  · split at h
    · split at h
      · rename_i fs' ef
        split at h
        · rename_i q
          cases h
          exact ⟨q.2.1, q.2.2, flO_16 _ _ _ _ (by simp) ef⟩
        · cases h
      · cases h
    · cases h
  · cases h
theorem metaR_sp {x : Nat → Nat} {n l c q i : Nat} {fs : List (Nat × Nat)} (h : metaR x n = .ok (l, c, fs, q, i)) : NRD l c fs := by
  unfold metaR at h
  split at h
  · cases h
  · split at h
    · split at h
      · split at h
        · cases h
        · split at h
          · rename_i hc
            split at h
            · cases h
            · rename_i el
              split at h
              · cases h
              · split at h
                · rename_i hn
                  cases h
                  obtain ⟨l1, l2, l3⟩ := lenO_sp el
                  exact ⟨l1, l2, hc.1, hc.2, hn.1, l3⟩
                · cases h
          · cases h
      · cases h
    · cases h
theorem shaL_len {m : List Int8} : (shaL m).length = 20 := ofF_len
theorem GV_lod (I : GV A l c p) : ∃ l' c' p', GV (lodA A).2 l' c' p' := by
  have I0 : ∀ v, GV (pz_u2 (sB A) 0 27 v, (stV A 0 []).2) l c p := fun v => GV_27 (GV_V (A := A) (i := 0) (m := []) I (Or.inl rfl))
  unfold lodA
  split
  · split
    · exact ⟨l, c, p, I0 _⟩
    · rename_i l' c' fs q i em
      obtain ⟨n1, n2, n3, n4, n5, n6⟩ := metaR_sp em
      obtain ⟨p1, p2, p3, p4⟩ := nPc_le n1 n3 ((nPc_64 (by omega) n1).mp n5)
      refine ⟨l', c', nPc l' c', GV_an (LU_of I.1.2.2.2.2.2.1) I.1.2.1 I.1.2.2.2.2.2.2 I.1.2.2.1 ⟨rfl, rfl, rfl, n2, n4, n5, fun _ => ⟨n3, p3, p4⟩⟩ p1 shaL_len ofF_len I.2.2.2.1 (fun z => absurd rfl z) rfl n6⟩
  · exact ⟨l, c, p, I0 _⟩
theorem GV_mak {v : Int32} (I : GV A l c p) : ∃ l' c' p', GV (makA A v).2 l' c' p' := by
  unfold makA
  split
  · rename_i ok
    obtain ⟨n1, n2, n3, n4, n5⟩ := ok
    have n0 : ¬ v < 0 := fun z => by
      have := Int32.le_iff_toInt_le.mp n3
      have := Int32.lt_iff_toInt_lt.mp z
      have e0 : (0 : Int32).toInt = 0 := by decide
      have e1 : (32 : Int32).toInt = 32 := by decide
      omega
    obtain ⟨k, hk, rfl⟩ := nI_of n0
    rw [nI_clamp hk] at n5 ⊢
    have c1 := (nI_leI (a := 32) (b := k) (by decide) (by omega)).mp n3
    have c2 := (nI_leI (a := k) (b := 1024) (by omega) (by decide)).mp n4
    obtain ⟨p1, p2, p3, p4⟩ := nPc_le n1 c1 n5
    exact ⟨(sV A 0).length, k, nPc (sV A 0).length k, GV_an (LU_of I.1.2.2.2.2.2.1) I.1.2.1 I.1.2.2.2.2.2.2 I.1.2.2.1 (TN_mk n1 n2 c1 c2 n5 rfl rfl rfl) p1 shaL_len (phL_len _) n2 (fun _ => ⟨rfl, n1⟩) rfl (by show ([] : List (Nat × Nat)).length ≤ 16; decide)⟩
  · exact ⟨l, c, p, GV_V I (Or.inl rfl)⟩
end
