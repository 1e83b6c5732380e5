/-! ===== what holds of the links and the clients ===== -/
def LK (A : St) (p a b : Nat) : Prop :=
  (sB A 23 (5 * a + b) ≠ 0 → a ≠ b ∧ (a = 4 ∨ sB A 18 a ≠ 0) ∧ sB A 23 (5 * b + a) ≠ 0) ∧
  (sB A 23 (5 * a + b) = 0 → sB A 24 (5 * a + b) = 0 ∧ sB A 25 (5 * a + b) = 0 ∧ sB A 28 (5 * a + b) = 0 ∧ sB A 29 (5 * a + b) = 0 ∧ (∀ q, q < 64 → sB A 30 (64 * (5 * a + b) + q) = 0) ∧ sW A (5 * a + b) = [] ∧ sL A (5 * a + b) = []) ∧
  (∀ q, q < 64 → sB A 30 (64 * (5 * a + b) + q) ≠ 0 → q < p)
def CK (A : St) (l c p a : Nat) : Prop := (∀ q, q < 64 → sB A 20 (64 * a + q) ≠ 0 → q < p) ∧ (∀ v, v < 1024 → sB A 21 (1024 * a + v) ≠ 0 → v / 16 < p ∧ v % 16 < nbl l c p (v / 16))
def LI (A : St) (l c p : Nat) : Prop := (∀ a b, a < 5 → b < 5 → LK A p a b) ∧ (∀ a, a < 4 → sB A 18 a ≠ 0 → CK A l c p a)
section
variable {A : St} {l c p : Nat}
theorem k_inj {a b x y : Nat} (hb : b < 5) (hy : y < 5) (h : 5 * a + b = 5 * x + y) : a = x ∧ b = y := by omega
/-- a flag of a link that is there changes -/
theorem LI_u2 {r k : Nat} {v : Int32} (I : LI A l c p) (hr : r ∈ [24, 25, 26, 27, 28, 29]) (hj : sB A 23 k ≠ 0) : LI (pz_u2 (sB A) r k v, A.2) l c p := by
  have n23 : r ≠ 23 := by rintro rfl; revert hr; decide
  have n18 : r ≠ 18 := by rintro rfl; revert hr; decide
  have n30 : r ≠ 30 := by rintro rfl; revert hr; decide
  have n20 : r ≠ 20 := by rintro rfl; revert hr; decide
  have n21 : r ≠ 21 := by rintro rfl; revert hr; decide
  have e : ∀ s, s ≠ r → sB ((pz_u2 (sB A) r k v, A.2) : St) s = sB A s := fun s hs => gu_r hs
  have e2 : ∀ s j, j ≠ k → sB ((pz_u2 (sB A) r k v, A.2) : St) s j = sB A s j := fun s j hjk => by
    show pz_u2 (sB A) r k v s j = _
    rw [gu_22, if_neg (fun q => hjk q.2)]
  refine ⟨fun a b ha hb => ?_, fun a ha h18 => ?_⟩
  · obtain ⟨k1, k2, k3⟩ := I.1 a b ha hb
    unfold LK
    rw [e 23 n23.symm, e 18 n18.symm, e 30 n30.symm]
    refine ⟨k1, fun z => ?_, k3⟩
    have hk : 5 * a + b ≠ k := fun q => hj (q ▸ z)
    rw [e2 24 _ hk, e2 25 _ hk, e2 28 _ hk, e2 29 _ hk]
    exact k2 z
  · unfold CK
    rw [e 18 n18.symm] at h18
    rw [e 20 n20.symm, e 21 n21.symm]
    exact I.2 a ha h18
theorem LI_22 {k : Nat} {v : Int32} (I : LI A l c p) : LI (pz_u2 (sB A) 22 k v, A.2) l c p := I
theorem fo_v {B : Tb} {k r j : Nat} (hr : r ∈ [23, 24, 25, 28, 29]) : fo B k r j = if j = k then 0 else B r j := by
  have hc : r = 23 ∨ r = 24 ∨ r = 25 ∨ r = 28 ∨ r = 29 := by simpa using hr
  unfold fo fo7
  by_cases e : j = k
  · subst e
    rcases hc with rfl | rfl | rfl | rfl | rfl <;> simp [gu_11, gu_22]
  · rcases hc with rfl | rfl | rfl | rfl | rfl <;> simp [gu_11, gu_22, e]
theorem fo_30 {B : Tb} {k : Nat} : fo B k 30 = fil (B 30) (64 * k) 64 0 := rfl
theorem cl_v {a b r j : Nat} {w : Int32} (hr : r ∈ [23, 24, 25, 28, 29]) : sB (clA A a b w) r j = if j = 5 * b + a then 0 else if j = 5 * a + b then 0 else sB A r j := by
  have h31 : r ≠ 31 := by rintro rfl; revert hr; decide
  show clG (sB A) a b w r j = _
  unfold clG
  rw [gu_22, if_neg (fun q => h31 q.1), gu_22, if_neg (fun q => h31 q.1), fo_v hr, fo_v hr]
theorem cl_30 {a b : Nat} {w : Int32} : sB (clA A a b w) 30 = fil (fil (sB A 30) (64 * (5 * a + b)) 64 0) (64 * (5 * b + a)) 64 0 := rfl
theorem cl_r {a b r : Nat} {w : Int32} (hr : r ∈ [18, 20, 21, 22]) : sB (clA A a b w) r = sB A r := by
  have hc : r = 18 ∨ r = 20 ∨ r = 21 ∨ r = 22 := by simpa using hr
  rcases hc with rfl | rfl | rfl | rfl <;> rfl
theorem LI_cl {a b : Nat} {w : Int32} (ha : a < 5) (hb : b < 5) (I : LI A l c p) : LI (clA A a b w) l c p := by
  refine ⟨fun x y hx hy => ?_, fun x hx h18 => ?_⟩
  · obtain ⟨k1, k2, k3⟩ := I.1 x y hx hy
    unfold LK
    rw [cl_v (r := 23) (j := 5 * x + y) (by decide), cl_v (r := 23) (j := 5 * y + x) (by decide), cl_v (r := 24) (by decide), cl_v (r := 25) (by decide), cl_v (r := 28) (by decide), cl_v (r := 29) (by decide), cl_30, cl_r (r := 18) (by decide)]
    show _ ∧ (_ → _ ∧ _ ∧ _ ∧ _ ∧ _ ∧ upf (upf (sW A) (5 * a + b) []) (5 * b + a) [] (5 * x + y) = [] ∧ upf (upf (sL A) (5 * a + b) []) (5 * b + a) [] (5 * x + y) = []) ∧ _
    by_cases e1 : 5 * x + y = 5 * b + a
    · obtain ⟨rfl, rfl⟩ := k_inj hy ha e1
      simp only [if_true, upf_s, ne_eq, not_true_eq_false, false_implies, true_and, and_true, true_implies]
      refine ⟨fun q hq => fil_in (by omega), fun q hq => ?_⟩
      rw [fil_in (by omega)]
      exact fun z => absurd rfl z
    · by_cases e2 : 5 * x + y = 5 * a + b
      · obtain ⟨rfl, rfl⟩ := k_inj hy hb e2
        simp only [if_true, upf_s, upf_n e1, ne_eq, not_true_eq_false, ite_self, false_implies, true_and, and_true, true_implies]
        refine ⟨fun q hq => ?_, fun q hq => ?_⟩
        · rw [fil_out (by omega), fil_in (by omega)]
        · rw [fil_out (by omega), fil_in (by omega)]
          exact fun z => absurd rfl z
      · rw [if_neg e1, if_neg e2, if_neg e1, if_neg e2, if_neg e1, if_neg e2, if_neg e1, if_neg e2, if_neg e1, if_neg e2, upf_n e1, upf_n e2, upf_n e1, upf_n e2]
        have e3 : ¬ 5 * y + x = 5 * b + a := fun q => by
          obtain ⟨rfl, rfl⟩ := k_inj hx ha q
          exact e2 rfl
        have e4 : ¬ 5 * y + x = 5 * a + b := fun q => by
          obtain ⟨rfl, rfl⟩ := k_inj hx hb q
          exact e1 rfl
        rw [if_neg e3, if_neg e4]
        have e30 : ∀ q, q < 64 → fil (fil (sB A 30) (64 * (5 * a + b)) 64 0) (64 * (5 * b + a)) 64 0 (64 * (5 * x + y) + q) = sB A 30 (64 * (5 * x + y) + q) := fun q hq => by
          rw [fil_out (by omega), fil_out (by omega)]
        refine ⟨k1, fun z => ?_, fun q hq => ?_⟩
        · obtain ⟨z1, z2, z3, z4, z5, z6, z7⟩ := k2 z
          exact ⟨z1, z2, z3, z4, fun q hq => by rw [e30 q hq]; exact z5 q hq, z6, z7⟩
        · rw [e30 q hq]
          exact k3 q hq
  · have := I.2 x hx (by rw [cl_r (r := 18) (by decide)] at h18; exact h18)
    unfold CK at this ⊢
    rw [cl_r (r := 20) (by decide), cl_r (r := 21) (by decide)]
    exact this
/-- what a link that is there has on its wire or asks -/
theorem LI_WL {W : Nat → List Int8} {D : Nat → List Int8} {L : Nat → List Nat} {V : Nat → List Int8} {F : List (Nat × Nat)} (I : LI A l c p) (hW : ∀ k, sB A 23 k = 0 → sW A k = [] → W k = []) (hL : ∀ k, sB A 23 k = 0 → sL A k = [] → L k = []) : LI (sB A, W, V, D, L, F) l c p := by
  refine ⟨fun a b ha hb => ?_, I.2⟩
  obtain ⟨k1, k2, k3⟩ := I.1 a b ha hb
  refine ⟨k1, fun z => ?_, k3⟩
  obtain ⟨z1, z2, z3, z4, z5, z6, z7⟩ := k2 z
  exact ⟨z1, z2, z3, z4, z5, hW _ z z6, hL _ z z7⟩
theorem LI_snd {a b : Nat} {m : List Int8} (ha : a < 5) (hb : b < 5) (I : LI A l c p) (hj : sB A 23 (5 * a + b) ≠ 0) : LI (sndA A a b m) l c p := by
  unfold sndA
  split
  · refine LI_WL I (fun k hk z => ?_) (fun k hk z => z)
    rw [upf_n (show k ≠ 5 * a + b from fun q => hj (by rw [← q]; exact hk))]
    exact z
  · exact LI_cl ha hb I
theorem LI_dr {k n : Nat} (I : LI A l c p) : LI (drA A k n) l c p := by
  refine LI_WL I (fun j hj z => ?_) (fun j hj z => z)
  by_cases e : j = k
  · subst e
    rw [upf_s, z]
    simp
  · rw [upf_n e]
    exact z
/-- the connection that a message came over is there, or all of it is gone -/
theorem LI_j {a b : Nat} (ha : a < 5) (hb : b < 5) (I : LI A l c p) (h : sB A 24 (5 * a + b) ≠ 0) : sB A 23 (5 * a + b) ≠ 0 := fun z => h ((I.1 a b ha hb).2.1 z).1
end
