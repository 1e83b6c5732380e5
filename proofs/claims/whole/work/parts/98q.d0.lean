/-! ===== acting keeps METAINFO, TAPE, OUT and CONTENT ===== -/
def dk (A : St) : (Nat → List Int8) × List (Nat × Nat) × (Nat → Int32) := (sV A, sF A, sB A 0)
def D0 (A A' : St) : Prop := dk A' = dk A
section
variable {A : St} {l c p : Nat}
theorem D0_refl : D0 A A := rfl
theorem D0_trans {B C : St} (h1 : D0 A B) (h2 : D0 B C) : D0 A C := h2.trans h1
theorem D0_of {B : St} (h : dk B = dk A) : D0 A B := h
theorem d0_cl {a b : Nat} {w : Int32} : D0 A (clA A a b w) := rfl
theorem d0_snd {a b : Nat} {m : List Int8} : D0 A (sndA A a b m) := by
  unfold sndA
  split
  · exact D0_refl
  · exact d0_cl
theorem d0_B {B : Tb} (h : B 0 = sB A 0) : D0 A (B, A.2) := by
  unfold D0 dk
  show (sV A, sF A, B 0) = _
  rw [h]
theorem d0_u2 {r k : Nat} {v : Int32} (h : r ≠ 0) : D0 A (pz_u2 (sB A) r k v, A.2) := d0_B (gu_r (fun z => h z.symm))
theorem d0_u1 {r : Nat} {f : Nat → Int32} (h : r ≠ 0) : D0 A (pz_u1 (sB A) r f, A.2) := d0_B (by rw [gu_11, if_neg (fun z => h z.symm)])
theorem d0_inc {k : Nat} : D0 A (inc (sB A) k, A.2) := d0_u2 (by decide)
theorem d0_ha {a P : Nat} : ∀ n, D0 A (haN A a P n)
  | 0 => D0_refl
  | n + 1 => by
    have ih := d0_ha (a := a) (P := P) n
    unfold haN
    generalize haN A a P n = Z at ih
    split
    · exact ih
    · exact D0_trans ih d0_snd
theorem d0_gv1 {a k v : Nat} {m : List Int8} : D0 A (gv1 A a k v c m) := D0_of rfl
theorem d0_gv2C {a v : Nat} : D0 A (gv2C A a l c p v).2 := by
  unfold gv2C
  split
  · split
    · have h1 := d0_u2 (A := A) (r := 20) (k := 64 * a + v / 16) (v := 1) (by decide)
      have h2 := d0_ha (A := (pz_u2 (sB A) 20 (64 * a + v / 16) 1, A.2)) (a := a) (P := v / 16) 5
      generalize haN (pz_u2 (sB A) 20 (64 * a + v / 16) 1, A.2) a (v / 16) 5 = Z at h2
      exact D0_trans h1 h2
    · exact D0_of rfl
  · exact D0_refl
theorem d0_hdC {a b t : Nat} {m : List Int8} (ht : t ≤ 8) : D0 A (hdC A a b l c p m t).2 := by
  have hc : t = 0 ∨ t = 1 ∨ t = 2 ∨ t = 3 ∨ t = 4 ∨ t = 5 ∨ t = 6 ∨ t = 7 ∨ t = 8 := by omega
  rcases hc with rfl | rfl | rfl | rfl | rfl | rfl | rfl | rfl | rfl
  · exact D0_of rfl
  · exact d0_u2 (by decide)
  · exact d0_u2 (by decide)
  · exact d0_u2 (by decide)
  · show D0 A (havC A a b p m).2
    unfold havC
    split
    · exact d0_u1 (by decide)
    · exact D0_refl
  · show D0 A (bitC A a b p m).2
    unfold bitC
    split
    · exact d0_u1 (by decide)
    · exact D0_refl
  · show D0 A (reqC A a b l c p m).2
    unfold reqC
    split
    · split
      · exact D0_refl
      · exact D0_trans d0_inc d0_snd
    · exact D0_refl
  · show D0 A (givC A a b l c p m).2
    unfold givC
    cases gvF (sL A (5 * a + b)) l c p m with
    | none => exact d0_inc
    | some v => exact D0_trans d0_gv1 d0_gv2C
  · exact D0_refl
theorem d0_fn {r : Int32 × St} {a b : Nat} {t : Int32} (h : D0 A r.2) : D0 A (fnC r a b t).2 := by
  unfold fnC
  have h1 : D0 A (sp r.2 (5 * a + b)) := D0_trans h (d0_u2 (by decide))
  split
  · exact h1
  · exact D0_trans h1 d0_cl
theorem d0_hel {a b : Nat} : D0 A (helA A a b p).2 := by
  unfold helA
  have h1 : D0 A (drA A (5 * b + a) 68) := D0_of rfl
  split
  · unfold hl2
    split
    · exact D0_trans h1 (D0_trans (d0_u2 (r := 24) (k := 5 * a + b) (v := 1) (by decide)) d0_snd)
    · exact D0_trans h1 (d0_u2 (by decide))
  · exact D0_trans h1 d0_cl
theorem d0_hdl {a b t : Nat} {m : List Int8} {f : Prop} [Decidable f] (ht : t ≤ 8) : D0 A (hdl A a b l c p m f t).2 := by
  have hc : t = 0 ∨ t = 1 ∨ t = 2 ∨ t = 3 ∨ t = 4 ∨ t = 5 ∨ t = 6 ∨ t = 7 ∨ t = 8 := by omega
  rcases hc with rfl | rfl | rfl | rfl | rfl | rfl | rfl | rfl | rfl
  · exact D0_of rfl
  · exact d0_u2 (by decide)
  · exact d0_u2 (by decide)
  · exact d0_u2 (by decide)
  · show D0 A (if be32 m 1 < p then ((4 : Int32), ((pz_u2 (sB A) 30 (64 * (5 * a + b) + be32 m 1) 1, A.2) : St)) else (24, clA A a b 4)).2
    split
    · exact d0_u2 (by decide)
    · exact d0_cl
  · show D0 A (bitA A a b p m f).2
    unfold bitA
    split
    · exact d0_u1 (by decide)
    · exact d0_cl
  · show D0 A (reqA A a b l c p m).2
    unfold reqA
    split
    · split
      · exact D0_refl
      · exact D0_trans d0_inc d0_snd
    · exact d0_cl
  · show D0 A (givA A a b l c p m).2
    unfold givA
    cases gvF (sL A (5 * a + b)) l c p m with
    | none => exact d0_inc
    | some v =>
      dsimp only
      refine D0_trans (d0_gv1 (k := 5 * a + b) (c := c) (a := a) (v := v) (m := m)) ?_
      generalize gv1 A a (5 * a + b) v c m = A1
      show D0 A1 (gv2 A1 a b l c p v).2
      unfold gv2
      split
      · split
        · have h1 := d0_u2 (A := A1) (r := 20) (k := 64 * a + v / 16) (v := 1) (by decide)
          have h2 := d0_ha (A := (pz_u2 (sB A1) 20 (64 * a + v / 16) 1, A1.2)) (a := a) (P := v / 16) 5
          generalize haN (pz_u2 (sB A1) 20 (64 * a + v / 16) 1, A1.2) a (v / 16) 5 = Z at h2
          exact D0_trans h1 h2
        · refine D0_trans (B := (inc (pz_u1 (sB A1) 21 (fil (sB A1 21) (1024 * a + 16 * (v / 16)) 16 0)) (5 * a + 3), A1.2)) (D0_of rfl) d0_cl
      · exact D0_refl
  · exact D0_refl
theorem d0_tak {a b : Nat} : D0 A (takA A a b l c p).2 := by
  unfold takA
  split
  · exact d0_cl
  · split
    · exact D0_of rfl
    · refine D0_trans (B := drA A (5 * b + a) (4 + be32 (sW A (5 * b + a)) 0)) (D0_of rfl) ?_
      generalize drA A (5 * b + a) (4 + be32 (sW A (5 * b + a)) 0) = A1
      unfold tk2
      have h1 := d0_u2 (A := A1) (r := 25) (k := 5 * a + b) (v := 1) (by decide)
      split
      · exact h1
      · split
        · exact D0_trans h1 (d0_hdl (by omega))
        · exact D0_trans h1 d0_cl
theorem d0_ask {a b : Nat} : ∀ (r : Nat) (A : St), D0 A (askN a b l c p r A)
  | 0, A => D0_refl
  | r + 1, A => by
    unfold askN
    split
    · cases (nxt A a b l c p p).1 with
      | none => exact D0_refl
      | some v => exact D0_trans (B := adL A (5 * a + b) v) (D0_of rfl) (D0_trans d0_snd (d0_ask r _))
    · exact D0_refl
theorem d0_go1 {a b : Nat} : D0 A (go1 A a b l c p) := by
  unfold go1
  have O1 : D0 A (if sB A 24 (5 * a + b) = 0 then A else intA A a b p) := by
    split
    · exact D0_refl
    · unfold intA
      split
      · exact D0_refl
      · exact D0_trans (d0_u2 (by decide)) d0_snd
  generalize (if sB A 24 (5 * a + b) = 0 then A else intA A a b p) = A1 at O1
  have O2 : D0 A1 (if sB A1 24 (5 * a + b) = 0 then A1 else choA A1 a b) := by
    split
    · exact D0_refl
    · unfold choA
      split
      · exact D0_trans (d0_u2 (by decide)) d0_snd
      · split
        · exact D0_trans (d0_u2 (by decide)) d0_snd
        · exact D0_refl
  dsimp only
  generalize (if sB A1 24 (5 * a + b) = 0 then A1 else choA A1 a b) = A2 at O2
  refine D0_trans O1 (D0_trans O2 ?_)
  split
  · exact D0_refl
  · exact d0_ask 4 _
theorem d0_go {a : Nat} : ∀ n, D0 A (goN A a l c p n)
  | 0 => D0_refl
  | n + 1 => D0_trans (d0_go n) d0_go1
theorem d0_act {a b : Nat} : D0 A (actA A a b l c p).2 := by
  unfold actA
  by_cases q : sB A 24 (5 * a + b) = 0
  · rw [if_pos q]
    have h1 := d0_go (A := (helA A a b p).2) (a := a) (l := l) (c := c) (p := p) 5
    generalize goN (helA A a b p).2 a l c p 5 = Z at h1
    exact D0_trans d0_hel h1
  · rw [if_neg q]
    have h1 := d0_go (A := (takA A a b l c p).2) (a := a) (l := l) (c := c) (p := p) 5
    generalize goN (takA A a b l c p).2 a l c p 5 = Z at h1
    exact D0_trans d0_tak h1
theorem d0_pm {n : Nat} {s : Nat × St} : ∀ k, D0 s.2 (pmR n l c p s k).2
  | 0 => D0_refl
  | k + 1 => by
    have ih := d0_pm (n := n) (s := s) k
    unfold pmR pm1
    generalize pmR n l c p s k = z at ih
    split
    · exact ih
    · exact D0_trans ih d0_act
end
