/-! ===== what holds stays ===== -/
def OI (A : St) (l c p : Nat) : Prop := OA A l c p ∧ LI A l c p
def actA (A : St) (a b l c p : Nat) : Int32 × St := if sB A 24 (5 * a + b) = 0 then ((helA A a b p).1, goN (helA A a b p).2 a l c p 5) else ((takA A a b l c p).1, goN (takA A a b l c p).2 a l c p 5)
section
variable {A : St} {l c p : Nat}
theorem OI_cl {a b : Nat} {w : Int32} (ha : a < 5) (hb : b < 5) (I : OI A l c p) : OI (clA A a b w) l c p := ⟨OA_cl I.1, LI_cl ha hb I.2⟩
theorem OI_snd {a b : Nat} {m : List Int8} (ha : a < 5) (hb : b < 5) (I : OI A l c p) (hj : sB A 23 (5 * a + b) ≠ 0) : OI (sndA A a b m) l c p := ⟨OA_snd I.1, LI_snd ha hb I.2 hj⟩
theorem OI_u2 {r k : Nat} {v : Int32} (I : OI A l c p) (hr : r ∈ [24, 25, 26, 27, 28, 29]) (hj : sB A 23 k ≠ 0) : OI (pz_u2 (sB A) r k v, A.2) l c p := ⟨OA_u2 I.1 (by rintro rfl; revert hr; decide) (by rintro rfl; revert hr; decide), LI_u2 I.2 hr hj⟩
theorem OI_22 {k : Nat} {v : Int32} (I : OI A l c p) : OI (pz_u2 (sB A) 22 k v, A.2) l c p := ⟨OA_u2 I.1 (by decide) (by decide), LI_22 I.2⟩
theorem OI_dr {k n : Nat} (hk : k < 25) (I : OI A l c p) : OI (drA A k n) l c p := ⟨OA_dr I.1 hk, LI_dr I.2⟩
/-- what is told of pieces changes, of a link that is there -/
theorem OI_30 {f : Nat → Int32} {k : Nat} (I : OI A l c p) (hj : sB A 23 k ≠ 0) (ho : ∀ j, j ≠ k → ∀ q, q < 64 → f (64 * j + q) = sB A 30 (64 * j + q)) (hi : ∀ q, q < 64 → f (64 * k + q) ≠ 0 → q < p) : OI (pz_u1 (sB A) 30 f, A.2) l c p := by
  refine ⟨OA_B I.1 (fun _ => rfl) (fun _ => rfl), fun a b ha hb => ?_, I.2.2⟩
  obtain ⟨k1, k2, k3⟩ := I.2.1 a b ha hb
  refine ⟨k1, fun z => ?_, fun q hq => ?_⟩
  · obtain ⟨z1, z2, z3, z4, z5, z6, z7⟩ := k2 z
    have hk : 5 * a + b ≠ k := fun q => hj (by rw [← q]; exact z)
    exact ⟨z1, z2, z3, z4, fun q hq => (ho _ hk q hq).trans (z5 q hq), z6, z7⟩
  · show f (64 * (5 * a + b) + q) ≠ 0 → q < p
    by_cases e : 5 * a + b = k
    · rw [e]; exact hi q hq
    · rw [ho _ e q hq]; exact k3 q hq
theorem OI_20 {a P : Nat} (I : OI A l c p) (hP : P < p) : OI (pz_u2 (sB A) 20 (64 * a + P) 1, A.2) l c p := by
  have t6 := I.1.1.2.2.2.2.2.1
  refine ⟨OA_u2 I.1 (by decide) (by decide), I.2.1, fun x hx h18 => ?_⟩
  obtain ⟨c1, c2⟩ := I.2.2 x hx h18
  refine ⟨fun q hq hz => ?_, c2⟩
  have hz' : pz_u2 (sB A) 20 (64 * a + P) 1 20 (64 * x + q) ≠ 0 := hz
  rw [gu_22] at hz'
  by_cases e : 64 * x + q = 64 * a + P
  · omega
  · rw [if_neg (fun z => e z.2)] at hz'
    exact c1 q hq hz'
theorem OI_21 {f : Nat → Int32} (I : OI A l c p) (h : ∀ x v, x < 4 → v < 1024 → f (1024 * x + v) ≠ 0 → sB A 21 (1024 * x + v) ≠ 0 ∨ (v / 16 < p ∧ v % 16 < nbl l c p (v / 16))) : OI (pz_u1 (sB A) 21 f, A.2) l c p := by
  refine ⟨OA_B I.1 (fun _ => rfl) (fun _ => rfl), I.2.1, fun x hx h18 => ?_⟩
  obtain ⟨c1, c2⟩ := I.2.2 x hx h18
  refine ⟨c1, fun v hv hz => ?_⟩
  rcases h x v hx hv hz with z | z
  · exact c2 v hv z
  · exact z
theorem nbl_of {P k : Nat} (h : 64 * k < psz l c p P) : k < nbl l c p P := by
  unfold nbl
  omega
theorem OI_gv1 {a b v : Nat} {m : List Int8} (I : OI A l c p) (ha : a < 4) (hv : v ∈ sL A (5 * a + b)) (hb : b < 5) : OI (gv1 A a (5 * a + b) v c m) l c p := by
  obtain ⟨v1, v2⟩ := I.1.2.2.2.2.2.2.1 _ (show 5 * a + b < 25 by omega) v hv
  have t6 := I.1.1.2.2.2.2.2.1
  have I1 : OI (pz_u1 (sB A) 21 (upd (sB A 21) (1024 * a + v) 1), A.2) l c p := OI_21 I (fun x w hx hw hz => by
    unfold upd at hz
    by_cases e : 1024 * x + w = 1024 * a + v
    · right
      have : w = v := by omega
      subst this
      exact ⟨v1, nbl_of v2⟩
    · rw [if_neg e] at hz
      exact Or.inl hz)
  rw [← gu_2to1 (n := 21)] at I1
  have I2 := OI_22 (k := 5 * a + 1) (v := sB A 22 (5 * a + 1) + 1) I1
  refine ⟨OA_gv1 I.1, ?_⟩
  refine LI_WL I2.2 (fun k hk z => z) (fun k hk z => ?_)
  have z' : sL A k = [] := z
  by_cases e : k = 5 * a + b
  · subst e
    rw [upf_s, z']
    rfl
  · rw [upf_n e]
    exact z'
theorem OI_ha {a P : Nat} (ha : a < 4) (I : OI A l c p) : ∀ n, n ≤ 5 → OI (haN A a P n) l c p
  | 0, _ => I
  | n + 1, h => by
    have ih := OI_ha (P := P) ha I n (by omega)
    unfold haN
    by_cases q : sB (haN A a P n) 24 (5 * a + n) = 0
    · rw [if_pos q]; exact ih
    · rw [if_neg q]
      exact OI_snd (by omega) (by omega) ih (LI_j (by omega) (by omega) ih.2 q)
theorem OI_gv2 {a b v : Nat} (ha : a < 4) (hb : b < 5) (I : OI A l c p) (hv : v / 16 < p) : OI (gv2 A a b l c p v).2 l c p := by
  unfold gv2
  by_cases q1 : allN (fun k => sB A 21 (1024 * a + 16 * (v / 16) + k) ≠ 0) (nbl l c p (v / 16)) = true
  · rw [if_pos q1]
    by_cases q2 : shaL (dkL A a (v / 16 * c) (psz l c p (v / 16))) = hhL A (v / 16)
    · rw [if_pos q2]
      have I1 := OI_20 (a := a) I hv
      have I2 := OI_ha (P := v / 16) ha I1 5 (Nat.le_refl 5)
      generalize haN (pz_u2 (sB A) 20 (64 * a + v / 16) 1, A.2) a (v / 16) 5 = Z at I2
      exact I2
    · rw [if_neg q2]
      have I1 : OI (pz_u1 (sB A) 21 (fil (sB A 21) (1024 * a + 16 * (v / 16)) 16 0), A.2) l c p := OI_21 I (fun x w hx hw hz => by
        left
        unfold fil at hz
        split at hz
        · exact absurd rfl hz
        · exact hz)
      exact OI_cl (by omega) hb (OI_22 I1)
  · rw [if_neg q1]
    exact I
theorem OI_giv {a b : Nat} {m : List Int8} (ha : a < 4) (hb : b < 5) (I : OI A l c p) : OI (givA A a b l c p m).2 l c p := by
  unfold givA
  cases e : gvF (sL A (5 * a + b)) l c p m with
  | none => exact OI_22 I
  | some v =>
    obtain ⟨v1, v2⟩ := gvF_mem e
    exact OI_gv2 ha hb (OI_gv1 I ha v1 hb) (I.1.2.2.2.2.2.2.1 _ (show 5 * a + b < 25 by omega) v v1).1
theorem OI_req {a b : Nat} {m : List Int8} (ha : a < 4) (hb : b < 5) (I : OI A l c p) (hj : sB A 23 (5 * a + b) ≠ 0) : OI (reqA A a b l c p m).2 l c p := by
  unfold reqA
  split
  · split
    · exact I
    · exact OI_snd (by omega) hb (OI_22 I) hj
  · exact OI_cl (by omega) hb I
theorem OI_bit {a b : Nat} {m : List Int8} {first : Prop} [Decidable first] (ha : a < 4) (hb : b < 5) (I : OI A l c p) (hj : sB A 23 (5 * a + b) ≠ 0) : OI (bitA A a b p m first).2 l c p := by
  have t6 := I.1.1.2.2.2.2.2.1
  unfold bitA
  split
  · refine OI_30 I hj (fun j hjk q hq => put_out (by omega)) (fun q hq hz => ?_)
    by_cases e : q < p
    · exact e
    · rw [put_out (by omega)] at hz
      exact (I.2.1 a b (by omega) hb).2.2 q hq hz
  · exact OI_cl (by omega) hb I
theorem OI_hdl {a b t : Nat} {m : List Int8} {first : Prop} [Decidable first] (ha : a < 4) (hb : b < 5) (I : OI A l c p) (hj : sB A 23 (5 * a + b) ≠ 0) (ht : t ≤ 8) : OI (hdl A a b l c p m first t).2 l c p := by
  have t6 := I.1.1.2.2.2.2.2.1
  have hc : t = 0 ∨ t = 1 ∨ t = 2 ∨ t = 3 ∨ t = 4 ∨ t = 5 ∨ t = 6 ∨ t = 7 ∨ t = 8 := by omega
  rcases hc with rfl | rfl | rfl | rfl | rfl | rfl | rfl | rfl | rfl
  · have I1 := OI_u2 (r := 27) (k := 5 * a + b) (v := 1) I (by decide) hj
    refine ⟨?_, LI_WL I1.2 (fun k hk z => z) (fun k hk z => ?_)⟩
    · obtain ⟨t, o2, o3, o4, o5, o6, o7, o8⟩ := I1.1
      refine ⟨t, o2, o3, o4, o5, o6, fun k hk v hv => ?_, o8⟩
      have hv' : v ∈ upf (sL A) (5 * a + b) [] k := hv
      by_cases e : k = 5 * a + b
      · rw [e, upf_s] at hv'
        simp at hv'
      · rw [upf_n e] at hv'
        exact o7 k hk v hv'
    · have z' : sL A k = [] := z
      by_cases e : k = 5 * a + b
      · rw [e, upf_s]
      · rw [upf_n e]
        exact z'
  · exact OI_u2 I (by decide) hj
  · exact OI_u2 I (by decide) hj
  · exact OI_u2 I (by decide) hj
  · show OI (if be32 m 1 < p then ((4 : Int32), ((pz_u2 (sB A) 30 (64 * (5 * a + b) + be32 m 1) 1, A.2) : St)) else (24, clA A a b 4)).2 l c p
    by_cases q : be32 m 1 < p
    · rw [if_pos q, gu_2to1 (n := 30)]
      refine OI_30 (k := 5 * a + b) I hj (fun j hjk q' hq => ?_) (fun q' hq hz => ?_)
      · unfold upd
        rw [if_neg (by omega)]
      · unfold upd at hz
        by_cases e : q' = be32 m 1
        · omega
        · rw [if_neg (by omega)] at hz
          exact (I.2.1 a b (by omega) hb).2.2 q' hq hz
    · rw [if_neg q]
      exact OI_cl (by omega) hb I
  · exact OI_bit ha hb I hj
  · exact OI_req ha hb I hj
  · exact OI_giv ha hb I
  · exact I
theorem OI_tk2 {a b : Nat} {m : List Int8} (ha : a < 4) (hb : b < 5) (I : OI A l c p) (hj : sB A 23 (5 * a + b) ≠ 0) : OI (tk2 A a b l c p m).2 l c p := by
  have I1 := OI_u2 (r := 25) (k := 5 * a + b) (v := 1) I (by decide) hj
  unfold tk2
  split
  · exact I1
  · split
    · exact OI_hdl ha hb I1 hj (by omega)
    · exact OI_cl (by omega) hb I1
theorem OI_tak {a b : Nat} (ha : a < 4) (hb : b < 5) (I : OI A l c p) (hj : sB A 23 (5 * a + b) ≠ 0) : OI (takA A a b l c p).2 l c p := by
  unfold takA
  split
  · exact OI_cl (by omega) hb I
  · split
    · exact OI_dr (by omega) I
    · exact OI_tk2 ha hb (OI_dr (by omega) I) hj
theorem OI_hel {a b : Nat} (ha : a < 4) (hb : b < 5) (I : OI A l c p) (hj : sB A 23 (5 * a + b) ≠ 0) : OI (helA A a b p).2 l c p := by
  have I1 := OI_dr (k := 5 * b + a) (n := 68) (by omega) I
  unfold helA
  split
  · have hj1 : sB (drA A (5 * b + a) 68) 23 (5 * a + b) ≠ 0 := hj
    have I2 := OI_u2 (r := 24) (k := 5 * a + b) (v := 1) I1 (by decide) hj1
    unfold hl2
    split
    · exact OI_snd (by omega) hb I2 hj
    · exact I2
  · exact OI_cl (by omega) hb I1
theorem OI_int {a b : Nat} (ha : a < 4) (hb : b < 5) (I : OI A l c p) (hj : sB A 23 (5 * a + b) ≠ 0) : OI (intA A a b p) l c p := by
  unfold intA
  split
  · exact I
  · exact OI_snd (by omega) hb (OI_u2 I (by decide) hj) hj
theorem OI_cho {a b : Nat} (ha : a < 4) (hb : b < 5) (I : OI A l c p) (hj : sB A 23 (5 * a + b) ≠ 0) : OI (choA A a b) l c p := by
  unfold choA
  split
  · exact OI_snd (by omega) hb (OI_u2 I (by decide) hj) hj
  · split
    · exact OI_snd (by omega) hb (OI_u2 I (by decide) hj) hj
    · exact I
theorem OI_ask {a b : Nat} (ha : a < 4) (hb : b < 5) : ∀ (r : Nat) (A : St), OI A l c p → OI (askN a b l c p r A) l c p
  | 0, A, I => I
  | r + 1, A, I => by
    unfold askN
    split
    · rename_i q
      have hj : sB A 23 (5 * a + b) ≠ 0 := fun z => q.1 ((I.2.1 a b (by omega) hb).2.1 z).2.2.1
      cases e : (nxt A a b l c p p).1 with
      | none => exact I
      | some v =>
        refine OI_ask ha hb r _ (OI_snd (by omega) hb ⟨(OA_ad I.1 e).1, ?_⟩ hj)
        refine LI_WL I.2 (fun k hk z => z) (fun k hk z => ?_)
        rw [upf_n (show k ≠ 5 * a + b from fun q => hj (by rw [← q]; exact hk))]
        exact z
    · exact I
theorem OI_go1 {a b : Nat} (ha : a < 4) (hb : b < 5) (I : OI A l c p) : OI (go1 A a b l c p) l c p := by
  unfold go1
  have O1 : OI (if sB A 24 (5 * a + b) = 0 then A else intA A a b p) l c p := by
    split
    · exact I
    · rename_i q
      exact OI_int ha hb I (LI_j (by omega) hb I.2 q)
  generalize (if sB A 24 (5 * a + b) = 0 then A else intA A a b p) = A1 at O1
  have O2 : OI (if sB A1 24 (5 * a + b) = 0 then A1 else choA A1 a b) l c p := by
    split
    · exact O1
    · rename_i q
      exact OI_cho ha hb O1 (LI_j (by omega) hb O1.2 q)
  dsimp only
  generalize (if sB A1 24 (5 * a + b) = 0 then A1 else choA A1 a b) = A2 at O2
  split
  · exact O2
  · exact OI_ask ha hb 4 _ O2
theorem OI_go {a : Nat} (ha : a < 4) (I : OI A l c p) : ∀ n, n ≤ 5 → OI (goN A a l c p n) l c p
  | 0, _ => I
  | n + 1, h => OI_go1 ha (by omega) (OI_go ha I n (by omega))
theorem OI_act {a b : Nat} (ha : a < 4) (hb : b < 5) (I : OI A l c p) (hw : whA A a b = true) : OI (actA A a b l c p).2 l c p := by
  have hj : sB A 23 (5 * a + b) ≠ 0 := by
    unfold whA at hw
    exact (of_decide_eq_true hw).2.1
  unfold actA
  by_cases q : sB A 24 (5 * a + b) = 0
  · rw [if_pos q]
    have I1 := OI_go ha (OI_hel ha hb I hj) 5 (Nat.le_refl 5)
    generalize goN (helA A a b p).2 a l c p 5 = Z at I1
    exact I1
  · rw [if_neg q]
    have I1 := OI_go ha (OI_tak ha hb I hj) 5 (Nat.le_refl 5)
    generalize goN (takA A a b l c p).2 a l c p 5 = Z at I1
    exact I1
end
