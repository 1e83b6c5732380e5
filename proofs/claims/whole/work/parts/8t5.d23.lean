/-! ===== a link that is open: 1; closing alone changes that ===== -/
def D23 (A A' : St) : Prop := ∀ k, sB A' 23 k = sB A 23 k ∨ sB A' 23 k = 0
section
variable {A : St} {l c p : Nat}
theorem D23_refl : D23 A A := fun _ => Or.inl rfl
theorem D23_trans {B C : St} (h1 : D23 A B) (h2 : D23 B C) : D23 A C := fun k => by
  rcases h2 k with z | z
  · rcases h1 k with y | y
    · exact Or.inl (z.trans y)
    · exact Or.inr (z.trans y)
  · exact Or.inr z
theorem D23_of {B : St} (h : sB B 23 = sB A 23) : D23 A B := fun k => Or.inl (by rw [h])
theorem d23_cl {a b : Nat} {w : Int32} : D23 A (clA A a b w) := fun k => by
  rw [cl_v (by decide)]
  split
  · exact Or.inr rfl
  · split
    · exact Or.inr rfl
    · exact Or.inl rfl
theorem d23_snd {a b : Nat} {m : List Int8} : D23 A (sndA A a b m) := by
  unfold sndA
  split
  · exact D23_refl
  · exact d23_cl
theorem d23_u2 {r k : Nat} {v : Int32} (h : r ≠ 23) : D23 A (pz_u2 (sB A) r k v, A.2) := D23_of (gu_r (fun z => h z.symm))
theorem d23_u1 {r : Nat} {f : Nat → Int32} (h : r ≠ 23) : D23 A (pz_u1 (sB A) r f, A.2) := D23_of (by show pz_u1 (sB A) r f 23 = _; rw [gu_11, if_neg (fun z => h z.symm)])
theorem d23_inc {k : Nat} : D23 A (inc (sB A) k, A.2) := d23_u2 (by decide)
theorem d23_ha {a P : Nat} : ∀ n, D23 A (haN A a P n)
  | 0 => D23_refl
  | n + 1 => by
    have ih := d23_ha (a := a) (P := P) n
    unfold haN
    generalize haN A a P n = Z at ih
    split
    · exact ih
    · exact D23_trans ih d23_snd
theorem d23_gv1 {a k v : Nat} {m : List Int8} : D23 A (gv1 A a k v c m) := D23_of rfl
theorem d23_gv2C {a v : Nat} : D23 A (gv2C A a l c p v).2 := by
  unfold gv2C
  split
  · split
    · have h1 := d23_u2 (A := A) (r := 20) (k := 64 * a + v / 16) (v := 1) (by decide)
      have h2 := d23_ha (A := (pz_u2 (sB A) 20 (64 * a + v / 16) 1, A.2)) (a := a) (P := v / 16) 5
      generalize haN (pz_u2 (sB A) 20 (64 * a + v / 16) 1, A.2) a (v / 16) 5 = Z at h2
      exact D23_trans h1 h2
    · exact D23_of rfl
  · exact D23_refl
theorem d23_hdC {a b t : Nat} {m : List Int8} (ht : t ≤ 8) : D23 A (hdC A a b l c p m t).2 := by
  have hc : t = 0 ∨ t = 1 ∨ t = 2 ∨ t = 3 ∨ t = 4 ∨ t = 5 ∨ t = 6 ∨ t = 7 ∨ t = 8 := by omega
  rcases hc with rfl | rfl | rfl | rfl | rfl | rfl | rfl | rfl | rfl
  · exact D23_of rfl
  · exact d23_u2 (by decide)
  · exact d23_u2 (by decide)
  · exact d23_u2 (by decide)
  · show D23 A (havC A a b p m).2
    unfold havC
    split
    · exact d23_u1 (by decide)
    · exact D23_refl
  · show D23 A (bitC A a b p m).2
    unfold bitC
    split
    · exact d23_u1 (by decide)
    · exact D23_refl
  · show D23 A (reqC A a b l c p m).2
    unfold reqC
    split
    · split
      · exact D23_refl
      · exact D23_trans d23_inc d23_snd
    · exact D23_refl
  · show D23 A (givC A a b l c p m).2
    unfold givC
    cases gvF (sL A (5 * a + b)) l c p m with
    | none => exact d23_inc
    | some v => exact D23_trans d23_gv1 d23_gv2C
  · exact D23_refl
theorem d23_fn {r : Int32 × St} {a b : Nat} {t : Int32} (h : D23 A r.2) : D23 A (fnC r a b t).2 := by
  unfold fnC
  have h1 : D23 A (sp r.2 (5 * a + b)) := D23_trans h (d23_u2 (by decide))
  split
  · exact h1
  · exact D23_trans h1 d23_cl
theorem d23_hel {a b : Nat} : D23 A (helA A a b p).2 := by
  unfold helA
  have h1 : D23 A (drA A (5 * b + a) 68) := D23_of rfl
  split
  · unfold hl2
    split
    · exact D23_trans h1 (D23_trans (d23_u2 (r := 24) (k := 5 * a + b) (v := 1) (by decide)) d23_snd)
    · exact D23_trans h1 (d23_u2 (by decide))
  · exact D23_trans h1 d23_cl
theorem d23_hdl {a b t : Nat} {m : List Int8} {f : Prop} [Decidable f] (ht : t ≤ 8) : D23 A (hdl A a b l c p m f t).2 := by
  have hc : t = 0 ∨ t = 1 ∨ t = 2 ∨ t = 3 ∨ t = 4 ∨ t = 5 ∨ t = 6 ∨ t = 7 ∨ t = 8 := by omega
  rcases hc with rfl | rfl | rfl | rfl | rfl | rfl | rfl | rfl | rfl
  · exact D23_of rfl
  · exact d23_u2 (by decide)
  · exact d23_u2 (by decide)
  · exact d23_u2 (by decide)
  · show D23 A (if be32 m 1 < p then ((4 : Int32), ((pz_u2 (sB A) 30 (64 * (5 * a + b) + be32 m 1) 1, A.2) : St)) else (24, clA A a b 4)).2
    split
    · exact d23_u2 (by decide)
    · exact d23_cl
  · show D23 A (bitA A a b p m f).2
    unfold bitA
    split
    · exact d23_u1 (by decide)
    · exact d23_cl
  · show D23 A (reqA A a b l c p m).2
    unfold reqA
    split
    · split
      · exact D23_refl
      · exact D23_trans d23_inc d23_snd
    · exact d23_cl
  · show D23 A (givA A a b l c p m).2
    unfold givA
    cases gvF (sL A (5 * a + b)) l c p m with
    | none => exact d23_inc
    | some v =>
      dsimp only
      refine D23_trans (d23_gv1 (k := 5 * a + b) (c := c) (a := a) (v := v) (m := m)) ?_
      generalize gv1 A a (5 * a + b) v c m = A1
      show D23 A1 (gv2 A1 a b l c p v).2
      unfold gv2
      split
      · split
        · have h1 := d23_u2 (A := A1) (r := 20) (k := 64 * a + v / 16) (v := 1) (by decide)
          have h2 := d23_ha (A := (pz_u2 (sB A1) 20 (64 * a + v / 16) 1, A1.2)) (a := a) (P := v / 16) 5
          generalize haN (pz_u2 (sB A1) 20 (64 * a + v / 16) 1, A1.2) a (v / 16) 5 = Z at h2
          exact D23_trans h1 h2
        · refine D23_trans (B := (inc (pz_u1 (sB A1) 21 (fil (sB A1 21) (1024 * a + 16 * (v / 16)) 16 0)) (5 * a + 3), A1.2)) (D23_of rfl) d23_cl
      · exact D23_refl
  · exact D23_refl
theorem d23_tak {a b : Nat} : D23 A (takA A a b l c p).2 := by
  unfold takA
  split
  · exact d23_cl
  · split
    · exact D23_of rfl
    · refine D23_trans (B := drA A (5 * b + a) (4 + be32 (sW A (5 * b + a)) 0)) (D23_of rfl) ?_
      generalize drA A (5 * b + a) (4 + be32 (sW A (5 * b + a)) 0) = A1
      unfold tk2
      have h1 := d23_u2 (A := A1) (r := 25) (k := 5 * a + b) (v := 1) (by decide)
      split
      · exact h1
      · split
        · exact D23_trans h1 (d23_hdl (by omega))
        · exact D23_trans h1 d23_cl
theorem d23_ask {a b : Nat} : ∀ (r : Nat) (A : St), D23 A (askN a b l c p r A)
  | 0, A => D23_refl
  | r + 1, A => by
    unfold askN
    split
    · cases (nxt A a b l c p p).1 with
      | none => exact D23_refl
      | some v => exact D23_trans (B := adL A (5 * a + b) v) (D23_of rfl) (D23_trans d23_snd (d23_ask r _))
    · exact D23_refl
theorem d23_go1 {a b : Nat} : D23 A (go1 A a b l c p) := by
  unfold go1
  have O1 : D23 A (if sB A 24 (5 * a + b) = 0 then A else intA A a b p) := by
    split
    · exact D23_refl
    · unfold intA
      split
      · exact D23_refl
      · exact D23_trans (d23_u2 (by decide)) d23_snd
  generalize (if sB A 24 (5 * a + b) = 0 then A else intA A a b p) = A1 at O1
  have O2 : D23 A1 (if sB A1 24 (5 * a + b) = 0 then A1 else choA A1 a b) := by
    split
    · exact D23_refl
    · unfold choA
      split
      · exact D23_trans (d23_u2 (by decide)) d23_snd
      · split
        · exact D23_trans (d23_u2 (by decide)) d23_snd
        · exact D23_refl
  dsimp only
  generalize (if sB A1 24 (5 * a + b) = 0 then A1 else choA A1 a b) = A2 at O2
  refine D23_trans O1 (D23_trans O2 ?_)
  split
  · exact D23_refl
  · exact d23_ask 4 _
theorem d23_go {a : Nat} : ∀ n, D23 A (goN A a l c p n)
  | 0 => D23_refl
  | n + 1 => D23_trans (d23_go n) d23_go1
theorem d23_act {a b : Nat} : D23 A (actA A a b l c p).2 := by
  unfold actA
  by_cases q : sB A 24 (5 * a + b) = 0
  · rw [if_pos q]
    have h1 := d23_go (A := (helA A a b p).2) (a := a) (l := l) (c := c) (p := p) 5
    generalize goN (helA A a b p).2 a l c p 5 = Z at h1
    exact D23_trans d23_hel h1
  · rw [if_neg q]
    have h1 := d23_go (A := (takA A a b l c p).2) (a := a) (l := l) (c := c) (p := p) 5
    generalize goN (takA A a b l c p).2 a l c p 5 = Z at h1
    exact D23_trans d23_tak h1
theorem J1_of {B : St} (j : ∀ k, k < 25 → sB A 23 k = 0 ∨ sB A 23 k = 1) (h : D23 A B) : ∀ k, k < 25 → sB B 23 k = 0 ∨ sB B 23 k = 1 := fun k hk => by
  rcases h k with z | z
  · rw [z]; exact j k hk
  · exact Or.inl z
end
