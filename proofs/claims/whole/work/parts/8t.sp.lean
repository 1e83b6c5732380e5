/-! ===== what the class does last against what the reference does first ===== -/
theorem gu_22n {g : Tb} {n a k j : Nat} {v w : Int32} (hn : a ≠ n) : pz_u2 (pz_u2 g n j v) a k w = pz_u2 (pz_u2 g a k w) n j v := by
  funext r i
  rw [gu_22, gu_22, gu_22, gu_22]
  by_cases e1 : r = a ∧ i = k
  · rw [if_pos e1, if_neg (fun z => hn (e1.1.symm.trans z.1)), if_pos e1]
  · rw [if_neg e1, if_neg e1]
theorem gu_2e {g : Tb} {n k : Nat} {v : Int32} (h : g n k = v) : pz_u2 g n k v = g := by
  funext r i
  rw [gu_22]
  by_cases e : r = n ∧ i = k
  · rw [if_pos e, e.1, e.2, h]
  · rw [if_neg e]
/-- something came: noted last, if the link is still there -/
def sp (A : St) (k : Nat) : St := (pz_u2 (sB A) 25 k (sB A 23 k), A.2)
theorem sp_1 {A : St} {k : Nat} (h : sB A 23 k = 1) : sp A k = (pz_u2 (sB A) 25 k 1, A.2) := by
  unfold sp
  rw [h]
def C25 (B B' : Tb) : Prop := ∀ s, s ≠ 25 → B s = B' s
theorem c25_u2 {B B' : Tb} {n k : Nat} {v : Int32} (h : C25 B B') : C25 (pz_u2 B n k v) (pz_u2 B' n k v) := fun s hs => by
  funext j
  rw [gu_22, gu_22, h s hs]
theorem c25_u1 {B B' : Tb} {n : Nat} {f f' : Nat → Int32} (h : C25 B B') (e : f = f') : C25 (pz_u1 B n f) (pz_u1 B' n f') := fun s hs => by
  rw [gu_11, gu_11, h s hs, e]
theorem c25_fo {B B' : Tb} {k : Nat} (h : C25 B B') : C25 (fo B k) (fo B' k) := by
  unfold fo fo7
  exact c25_u1 (c25_u1 (c25_u2 (c25_u2 (c25_u2 (c25_u2 (c25_u2 (c25_u2 (c25_u2 (c25_u2 h)))))))) (by rw [h 30 (by decide)])) (by rw [h 32 (by decide)])
theorem cl_25 {B : Tb} {a b r : Nat} {k : Nat} {v w : Int32} (hr : r ≠ 25) : clG (pz_u2 B 25 k v) a b w r = clG B a b w r := by
  have e : C25 (pz_u2 B 25 k v) B := fun s hs => gu_r hs
  exact (c25_u2 (c25_u2 (c25_fo (c25_fo e)))) r hr
theorem sp_cl {A : St} {k a b : Nat} {w : Int32} : clA (sp A k) a b w = sp (clA A a b w) k := by
  unfold sp
  refine Prod.ext ?_ rfl
  show clG (pz_u2 (sB A) 25 k (sB A 23 k)) a b w = pz_u2 (clG (sB A) a b w) 25 k (sB (clA A a b w) 23 k)
  funext r j
  by_cases hr : r = 25
  · subst hr
    have e1 := cl_v (A := (pz_u2 (sB A) 25 k (sB A 23 k), A.2)) (a := a) (b := b) (w := w) (r := 25) (j := j) (by decide)
    have e1' : clG (pz_u2 (sB A) 25 k (sB A 23 k)) a b w 25 j = if j = 5 * b + a then 0 else if j = 5 * a + b then 0 else pz_u2 (sB A) 25 k (sB A 23 k) 25 j := e1
    have e2 := cl_v (A := A) (a := a) (b := b) (w := w) (r := 25) (j := j) (by decide)
    have e2' : clG (sB A) a b w 25 j = if j = 5 * b + a then 0 else if j = 5 * a + b then 0 else sB A 25 j := e2
    rw [e1', gu_22, gu_22, e2', cl_v (by decide)]
    by_cases z : j = k
    · subst z
      simp
    · simp [z]
  · rw [cl_25 hr, gu_22, if_neg (fun y => hr y.1)]
/-- closing wipes it out -/
theorem cl_sp {A : St} {a b : Nat} {w : Int32} : clA (sp A (5 * a + b)) a b w = clA A a b w := by
  rw [sp_cl]
  unfold sp
  have e1 := cl_v (A := A) (a := a) (b := b) (w := w) (r := 25) (j := 5 * a + b) (by decide)
  have e2 := cl_v (A := A) (a := a) (b := b) (w := w) (r := 23) (j := 5 * a + b) (by decide)
  refine Prod.ext ?_ rfl
  refine gu_2e ?_
  rw [e1, e2]
  split
  · rfl
  · rw [if_pos rfl, if_pos rfl]
theorem cl_dr {A : St} {a b n : Nat} {w : Int32} : clA (drA A (5 * b + a) n) a b w = clA A a b w := by
  unfold clA drA
  refine Prod.ext rfl (Prod.ext ?_ rfl)
  show upf (upf (upf (sW A) (5 * b + a) _) (5 * a + b) []) (5 * b + a) [] = upf (upf (sW A) (5 * a + b) []) (5 * b + a) []
  funext j
  unfold upf
  by_cases e : j = 5 * b + a
  · rw [if_pos e, if_pos e]
  · rw [if_neg e, if_neg e, if_neg e]
theorem sp_snd {A : St} {k a b : Nat} {l : List Int8} : sndA (sp A k) a b l = sp (sndA A a b l) k := by
  unfold sndA
  by_cases q : (sW A (5 * a + b)).length + l.length ≤ 4000
  · rw [if_pos q, if_pos (show (sW (sp A k) (5 * a + b)).length + l.length ≤ 4000 from q)]
    rfl
  · rw [if_neg q, if_neg (show ¬ (sW (sp A k) (5 * a + b)).length + l.length ≤ 4000 from q)]
    exact sp_cl
theorem sp_r {A : St} {k r : Nat} (h : r ≠ 25) : sB (sp A k) r = sB A r := gu_r h
theorem sp_ha {A : St} {k a P : Nat} : ∀ n, haN (sp A k) a P n = sp (haN A a P n) k
  | 0 => rfl
  | n + 1 => by
    have ih := sp_ha (A := A) (k := k) (a := a) (P := P) n
    unfold haN
    rw [ih, sp_r (by decide), sp_snd]
    by_cases q : sB (haN A a P n) 24 (5 * a + n) = 0
    · rw [if_pos q, if_pos q]
    · rw [if_neg q, if_neg q]
theorem sp_u2 {A : St} {k r j : Nat} {v : Int32} (h23 : r ≠ 23) (h25 : r ≠ 25) : ((pz_u2 (sB (sp A k)) r j v, (sp A k).2) : St) = sp (pz_u2 (sB A) r j v, A.2) k := by
  unfold sp
  refine Prod.ext ?_ rfl
  show pz_u2 (pz_u2 (sB A) 25 k (sB A 23 k)) r j v = pz_u2 (pz_u2 (sB A) r j v) 25 k (pz_u2 (sB A) r j v 23 k)
  rw [gu_22n h25, gu_r (show (23 : Nat) ≠ r from fun z => h23 z.symm)]
theorem sp_u1 {A : St} {k r : Nat} {f : Nat → Int32} (h23 : r ≠ 23) (h25 : r ≠ 25) : ((pz_u1 (sB (sp A k)) r f, (sp A k).2) : St) = sp (pz_u1 (sB A) r f, A.2) k := by
  unfold sp
  refine Prod.ext ?_ rfl
  show pz_u1 (pz_u2 (sB A) 25 k (sB A 23 k)) r f = pz_u2 (pz_u1 (sB A) r f) 25 k (pz_u1 (sB A) r f 23 k)
  rw [gu_21c (fun z => h25 z.symm), gu_11, if_neg (fun z => h23 z.symm)]
theorem sp_inc {A : St} {k j : Nat} : ((inc (sB (sp A k)) j, (sp A k).2) : St) = sp (inc (sB A) j, A.2) k := by
  unfold inc
  rw [sp_r (show (22 : Nat) ≠ 25 by decide)]
  exact sp_u2 (by decide) (by decide)
/-- what the class answers to a message, and the state that it leaves -/
def hdC (A : St) (a b l c p : Nat) (m : List Int8) : Nat → Int32 × St
  | 0 => (0, (pz_u2 (sB A) 27 (5 * a + b) 1, sW A, sV A, sD A, upf (sL A) (5 * a + b) [], sF A))
  | 1 => (0, (pz_u2 (sB A) 27 (5 * a + b) 0, A.2))
  | 2 => (0, (pz_u2 (sB A) 29 (5 * a + b) 1, A.2))
  | 3 => (0, (pz_u2 (sB A) 29 (5 * a + b) 0, A.2))
  | 4 => havC A a b p m
  | 5 => bitC A a b p m
  | 6 => reqC A a b l c p m
  | 7 => givC A a b l c p m
  | _ => (0, A)
def fnC (r : Int32 × St) (a b : Nat) (t : Int32) : Int32 × St := if r.1 = 0 then (t, sp r.2 (5 * a + b)) else (20 + r.1, clA (sp r.2 (5 * a + b)) a b r.1)
theorem bitOk_A {A A' : St} {m : List Int8} {p n : Nat} {f : Prop} [Decidable f] : bitOk A m p f n = bitOk A' m p f n := by
  rw [Bool.eq_iff_iff, bitOk_iff, bitOk_iff]
theorem sp_gv1 {A : St} {K a k v c : Nat} {m : List Int8} : gv1 (sp A K) a k v c m = sp (gv1 A a k v c m) K := by
  have e1 := sp_u2 (A := A) (k := K) (r := 21) (j := 1024 * a + v) (v := 1) (by decide) (by decide)
  have e2 := sp_inc (A := (pz_u2 (sB A) 21 (1024 * a + v) 1, A.2)) (k := K) (j := 5 * a + 1)
  rw [← e1] at e2
  have e3 := congrArg Prod.fst e2
  unfold gv1
  refine Prod.ext e3 rfl
theorem sp_gv2 {A : St} {a b l c p v : Nat} : gv2 (sp A (5 * a + b)) a b l c p v = fnC (gv2C A a l c p v) a b 7 := by
  unfold gv2 gv2C
  rw [sp_r (show (21 : Nat) ≠ 25 by decide)]
  have e1 : dkL (sp A (5 * a + b)) a (v / 16 * c) (psz l c p (v / 16)) = dkL A a (v / 16 * c) (psz l c p (v / 16)) := rfl
  have e2 : hhL (sp A (5 * a + b)) (v / 16) = hhL A (v / 16) := rfl
  rw [e1, e2]
  by_cases q1 : allN (fun k => sB A 21 (1024 * a + 16 * (v / 16) + k) ≠ 0) (nbl l c p (v / 16)) = true
  · rw [if_pos q1, if_pos q1]
    by_cases q2 : shaL (dkL A a (v / 16 * c) (psz l c p (v / 16))) = hhL A (v / 16)
    · rw [if_pos q2, if_pos q2, sp_u2 (by decide) (by decide), sp_ha]
      generalize haN (pz_u2 (sB A) 20 (64 * a + v / 16) 1, A.2) a (v / 16) 5 = Z
      unfold fnC
      rw [if_pos rfl]
    · rw [if_neg q2, if_neg q2]
      unfold fnC
      rw [if_neg (show ¬ (7 : Int32) = 0 by decide)]
      have e3 := sp_u1 (A := A) (k := 5 * a + b) (r := 21) (f := fil (sB A 21) (1024 * a + 16 * (v / 16)) 16 0) (by decide) (by decide)
      have e4 := sp_inc (A := (pz_u1 (sB A) 21 (fil (sB A 21) (1024 * a + 16 * (v / 16)) 16 0), A.2)) (k := 5 * a + b) (j := 5 * a + 3)
      rw [← e3] at e4
      refine Prod.ext rfl ?_
      exact congrArg (fun Z => clA Z a b 7) e4
  · rw [if_neg q1, if_neg q1]
    unfold fnC
    rw [if_pos rfl]
theorem fnC_0 {X : St} {a b : Nat} {t : Int32} : fnC (0, X) a b t = (t, sp X (5 * a + b)) := if_pos rfl
theorem fnC_n {X : St} {a b : Nat} {t r : Int32} (h : ¬ r = 0) : fnC (r, X) a b t = (20 + r, clA (sp X (5 * a + b)) a b r) := if_neg h
theorem fn_hdl {A : St} {a b l c p t : Nat} {m : List Int8} (ht : t ≤ 8) : hdl (sp A (5 * a + b)) a b l c p m (sB A 25 (5 * a + b) = 0) t = fnC (hdC A a b l c p m t) a b (nI t) := by
  have hc : t = 0 ∨ t = 1 ∨ t = 2 ∨ t = 3 ∨ t = 4 ∨ t = 5 ∨ t = 6 ∨ t = 7 ∨ t = 8 := by omega
  rcases hc with rfl | rfl | rfl | rfl | rfl | rfl | rfl | rfl | rfl
  · show _ = fnC (0, (pz_u2 (sB A) 27 (5 * a + b) 1, sW A, sV A, sD A, upf (sL A) (5 * a + b) [], sF A)) a b (nI 0)
    rw [fnC_0]
    have e := congrArg Prod.fst (sp_u2 (A := A) (k := 5 * a + b) (r := 27) (j := 5 * a + b) (v := 1) (by decide) (by decide))
    exact Prod.ext rfl (Prod.ext e rfl)
  · show ((1 : Int32), ((pz_u2 (sB (sp A (5 * a + b))) 27 (5 * a + b) 0, (sp A (5 * a + b)).2) : St)) = fnC (0, (pz_u2 (sB A) 27 (5 * a + b) 0, A.2)) a b (nI 1)
    rw [fnC_0, sp_u2 (by decide) (by decide)]
    rfl
  · show ((2 : Int32), ((pz_u2 (sB (sp A (5 * a + b))) 29 (5 * a + b) 1, (sp A (5 * a + b)).2) : St)) = fnC (0, (pz_u2 (sB A) 29 (5 * a + b) 1, A.2)) a b (nI 2)
    rw [fnC_0, sp_u2 (by decide) (by decide)]
    rfl
  · show ((3 : Int32), ((pz_u2 (sB (sp A (5 * a + b))) 29 (5 * a + b) 0, (sp A (5 * a + b)).2) : St)) = fnC (0, (pz_u2 (sB A) 29 (5 * a + b) 0, A.2)) a b (nI 3)
    rw [fnC_0, sp_u2 (by decide) (by decide)]
    rfl
  · show (if be32 m 1 < p then ((4 : Int32), ((pz_u2 (sB (sp A (5 * a + b))) 30 (64 * (5 * a + b) + be32 m 1) 1, (sp A (5 * a + b)).2) : St)) else (24, clA (sp A (5 * a + b)) a b 4)) = fnC (havC A a b p m) a b (nI 4)
    unfold havC
    by_cases q : be32 m 1 < p
    · rw [if_pos q, if_pos q, fnC_0, sp_u2 (by decide) (by decide), gu_2to1 (n := 30)]
      rfl
    · rw [if_neg q, if_neg q, fnC_n (by decide)]
      rfl
  · show bitA (sp A (5 * a + b)) a b p m (sB A 25 (5 * a + b) = 0) = fnC (bitC A a b p m) a b (nI 5)
    unfold bitA bitC
    rw [bitOk_A (A' := A)]
    by_cases q : bitOk A m p (sB A 25 (5 * a + b) = 0) (8 * (m.length - 1)) = true
    · rw [if_pos q, if_pos q, fnC_0, sp_r (show (30 : Nat) ≠ 25 by decide), sp_u1 (by decide) (by decide)]
      rfl
    · rw [if_neg q, if_neg q, fnC_n (by decide)]
      rfl
  · show reqA (sp A (5 * a + b)) a b l c p m = fnC (reqC A a b l c p m) a b (nI 6)
    unfold reqA reqC
    rw [sp_r (show (26 : Nat) ≠ 25 by decide), sp_r (show (20 : Nat) ≠ 25 by decide)]
    by_cases q : be32 m 1 < p ∧ 1 ≤ be32 m 9 ∧ be32 m 9 ≤ 64 ∧ be32 m 5 + be32 m 9 ≤ psz l c p (be32 m 1)
    · rw [if_pos q, if_pos q]
      by_cases q2 : sB A 26 (5 * a + b) ≠ 0 ∨ sB A 20 (64 * a + be32 m 1) = 0
      · rw [if_pos q2, if_pos q2, fnC_0]
        rfl
      · rw [if_neg q2, if_neg q2, fnC_0, sp_inc, sp_snd]
        rfl
    · rw [if_neg q, if_neg q, fnC_n (by decide)]
      rfl
  · show givA (sp A (5 * a + b)) a b l c p m = fnC (givC A a b l c p m) a b (nI 7)
    unfold givA givC
    rw [show sL (sp A (5 * a + b)) = sL A from rfl]
    cases gvF (sL A (5 * a + b)) l c p m with
    | none =>
      dsimp only
      rw [sp_inc, fnC_0]
      rfl
    | some v =>
      dsimp only
      rw [sp_gv1, sp_gv2]
      rfl
  · show ((8 : Int32), sp A (5 * a + b)) = fnC (0, A) a b (nI 8)
    rw [fnC_0]
    rfl
