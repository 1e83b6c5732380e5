/-! ===== the reference: bytes, over the state ===== -/
def shaL (l : List Int8) : List Int8 := ofF (fun j => (SHA (fun i => (l.getD i 0).toInt32) l.length j).toInt8) 20
theorem SHA_8 {b : Nat → Int32} {n j : Nat} : (SHA b n j).toInt8.toInt32 = SHA b n j := by
  unfold SHA sh_dg
  rw [i88]
def feedL (a b c e f : Int32) : List Int8 := ofF (fun i => (fdB a b c e f i).toInt8) 20
theorem fdB_8 {a b c e f : Int32} {i : Nat} : (fdB a b c e f i).toInt8.toInt32 = fdB a b c e f i := by
  unfold fdB
  rw [i88]
def feedA (A : St) (a b c e f : Int32) : Int32 × St := if (sV A 0).length ≤ 5980 then (nI ((sV A 0).length + 20), stV A 0 (sV A 0 ++ feedL a b c e f)) else (-1, A)
def endA (A : St) (n : Int32) : Int32 × St := match vI n ((sV A 0).length + 1) with
  | some k => (n, stV A 0 ((sV A 0).take k))
  | none => (-1, A)
def takeA (A : St) : Int32 × St := (nI (sV A 1).length, stV A 0 (sV A 1))
def altA (A : St) (i v : Int32) : Int32 × St := match vI i (sV A 0).length with
  | some k => (1, stV A 0 ((sV A 0).set k v.toInt8))
  | none => (0, A)
def outA (A : St) (i : Int32) : Int32 := match vI i (sV A 1).length with
  | some k => nI (ub ((sV A 1).getD k 0))
  | none => -1
def digA (A : St) : St := stV (stV A 0 []) 1 (shaL (sV A 0))
section
variable {d : Nat} {h : PzH} {Q : Option Value → PzH → Prop} {mo : Nat} {g : Tb} {A : St} {l m : List Int8}
theorem FR_c {rs ss : List Nat} {g g1 g2 : Tb} (h1 : FR rs ss g g1) (h2 : FR rs ss g1 g2) : FR rs ss g g2 := FR_trans h1 h2
theorem g_shaR (H : MO h mo) (hl : l.length ≤ 6000) (h5 : g 0 5 = nI l.length) (h3 : SEG (g 3) 0 l) (K : ∀ g', FR [3, 4, 5, 6] [5] g g' → SEG (g' 6) 0 (shaL l) → Q none (mh h mo g')) : pz_M (d + 3) mX10_sha [.ref mo] (mh h mo g) Q := by
  rw [g_sha H hl h5]
  refine K _ ?_ ?_
  · unfold sh_G
    exact FR_c (FR_c (FR_c (FR_c (FR_2 (by decide)) (FR_1 (by decide) (by decide))) (FR_1 (by decide) (by decide))) (FR_1 (by decide) (by decide))) (FR_1 (by decide) (by decide))
  · refine SEG_of (fun j hj => ?_)
    rw [SHA_8, Nat.zero_add]
    unfold sh_G
    rw [gu_11, if_pos rfl]
    show (if j < 20 then _ else _) = _
    rw [if_pos hj]
    refine SHA_eq (fun i hi => ?_) hj
    have := h3 i hi
    rwa [Nat.zero_add] at this
theorem r_feed (H : MO h mo) (R : RM g A []) (hl : (sV A 0).length ≤ 6000) {a b c e f : Int32} (K : ∀ g', RM g' (feedA A a b c e f).2 [] → Q (some (.int (feedA A a b c e f).1)) (mh h mo g')) : pz_M (d + 1) mX10_feed [.ref mo, .int a, .int b, .int c, .int e, .int f] (mh h mo g) Q := by
  rw [g_feed H hl R.1.1.1.1]
  unfold feedA at K
  by_cases q : (sV A 0).length ≤ 5980
  · rw [if_pos q] at K ⊢
    refine K _ ?_
    have := RM_tape (t := put (g 1) (sV A 0).length 20 (fdB a b c e f)) (l := sV A 0 ++ feedL a b c e f) R (SEG_app R.1.1.1.2 (fun i hi => put_out (by omega)) (fun i hi => by
      unfold feedL at hi ⊢
      rw [ofF_len] at hi
      rw [ofF_get hi, fdB_8, Nat.zero_add, put_in hi]))
    rw [List.length_append, show (feedL a b c e f).length = 20 from ofF_len] at this
    exact this
  · rw [if_neg q] at K ⊢
    exact K _ R
theorem r_end (H : MO h mo) (R : RM g A []) (hl : (sV A 0).length ≤ 6000) {n : Int32} (K : ∀ g', RM g' (endA A n).2 [] → Q (some (.int (endA A n).1)) (mh h mo g')) : pz_M (d + 1) mX10_end [.ref mo, .int n] (mh h mo g) Q := by
  rw [g_end H, show g 0 2 = nI (sV A 0).length from R.1.1.1.1]
  unfold endA at K
  cases e : vI n ((sV A 0).length + 1) with
  | none =>
    rw [e] at K
    unfold vI at e
    by_cases h0 : n < 0
    · rw [if_pos h0]; exact K _ R
    · rw [if_neg h0] at e ⊢
      obtain ⟨j, hj, rfl⟩ := nI_of h0
      by_cases h1 : nI j < nI ((sV A 0).length + 1)
      · rw [if_pos h1] at e; exact absurd e (by simp)
      · rw [if_neg (fun z => h1 ((nI_ltI hj (by omega)).mpr (by have := (nI_leI hj (by omega)).mp z; omega)))]
        exact K _ R
  | some k =>
    rw [e] at K
    obtain ⟨k1, rfl⟩ := vI_some (by omega) e
    rw [if_neg (nI_pos (by omega)), if_pos (nI_le (by omega) (by omega))]
    exact K _ ⟨RG_cut R.1 (by omega), R.2.1, R.2.2⟩
theorem SEG_fit {f : Nat → Int32} (h : SEG f 0 l) : ∀ j, j < l.length → fits .byte (.int (f j)) = true := by
  intro j hj
  have := h j hj
  rw [Nat.zero_add] at this
  rw [this]
  exact fb8 _
theorem r_take (H : MO h mo) (R : RM g A []) (hl : (sV A 1).length ≤ 6000) (K : ∀ g', RM g' (takeA A).2 [] → Q (some (.int (takeA A).1)) (mh h mo g')) : pz_M (d + 1) mX10_take [.ref mo] (mh h mo g) Q := by
  rw [g_take H R.1.1.2.1.1 hl (SEG_fit R.1.1.2.1.2)]
  refine K _ ?_
  have := RM_tape (t := fun j => if j < (sV A 1).length then g 2 j else g 1 j) (l := sV A 1) R (fun i hi => by
    show (if 0 + i < _ then _ else _) = _
    rw [if_pos (by omega)]
    exact R.1.1.2.1.2 i hi)
  rw [gu_21c (by decide)]
  exact this
theorem r_alter (H : MO h mo) (R : RM g A []) (hl : (sV A 0).length ≤ 6000) {i v : Int32} (K : ∀ g', RM g' (altA A i v).2 [] → Q (some (.int (altA A i v).1)) (mh h mo g')) : pz_M (d + 1) mX10_alter [.ref mo, .int i, .int v] (mh h mo g) Q := by
  rw [g_alter H hl R.1.1.1.1]
  unfold altA vI at K
  by_cases h0 : i < 0
  · rw [if_pos h0] at K ⊢; exact K _ R
  · rw [if_neg h0] at K ⊢
    by_cases h1 : i < nI (sV A 0).length
    · rw [if_pos h1] at K ⊢
      refine K _ ?_
      have := RM_tape (t := upd (g 1) i.toNatClampNeg v.toInt8.toInt32) (l := (sV A 0).set i.toNatClampNeg v.toInt8) R (by
        have := SEG_set (k := i.toNatClampNeg) (b := v.toInt8) R.1.1.1.2
        rwa [Nat.zero_add] at this)
      rw [List.length_set, ← show g 0 2 = nI (sV A 0).length from R.1.1.1.1] at this
      refine cast (congrArg (fun z => RM z _ []) ?_) this
      rw [gu_2to1 (n := 1)]
      congr 1
      funext p q
      rw [gu_22]
      by_cases z : p = 0 ∧ q = 2
      · rw [if_pos z, z.1, z.2]
      · rw [if_neg z]
    · rw [if_neg h1] at K ⊢; exact K _ R
theorem r_out (H : MO h mo) (R : RM g A []) (hl : (sV A 1).length ≤ 6000) {i : Int32} (K : Q (some (.int (outA A i))) (mh h mo g)) : pz_M (d + 1) mX10_out [.ref mo, .int i] (mh h mo g) Q := by
  rw [g_out H hl R.1.1.2.1.1]
  unfold outA vI at K
  by_cases h0 : i < 0
  · rw [if_pos h0] at K ⊢; exact K
  · rw [if_neg h0] at K ⊢
    by_cases h1 : i < nI (sV A 1).length
    · rw [if_pos h1] at K ⊢
      obtain ⟨j, hj, rfl⟩ := nI_of h0
      have hj2 := (nI_ltI hj (by omega)).mp h1
      rw [nI_clamp hj] at K ⊢
      have := R.1.1.2.1.2 j hj2
      rw [Nat.zero_add] at this
      rw [this, ub_and]
      exact K
    · rw [if_neg h1] at K ⊢; exact K
theorem r_digest (H : MO h mo) (R : RM g A []) (hl : (sV A 0).length ≤ 6000) (K : ∀ g', RM g' (digA A) [] → Q (some (.int 20)) (mh h mo g')) : pz_M (d + 4) mX10_digest [.ref mo] (mh h mo g) Q := by
  rw [g_digest H hl R.1.1.1.1 (SEG_fit R.1.1.1.2)]
  refine K _ ?_
  have F : FR [3, 4, 5, 6] [5] (pz_u2 g 0 2 0) (sh_D g (sV A 0).length) := by
    unfold sh_D sh_G
    exact FR_c (FR_c (FR_c (FR_c (FR_c (FR_c (FR_2 (by decide)) (FR_1 (by decide) (by decide))) (FR_2 (by decide))) (FR_1 (by decide) (by decide))) (FR_1 (by decide) (by decide))) (FR_1 (by decide) (by decide))) (FR_1 (by decide) (by decide))
  have R1 := RM_fr (RM_used R) F (by decide) (by decide)
  have := RM_out (t := fun j => if j < 20 then sh_D g (sV A 0).length 6 j else sh_D g (sV A 0).length 2 j) (l := shaL (sV A 0)) R1 (SEG_of (fun j hj => by
    show (if 0 + j < 20 then sh_D g (sV A 0).length 6 (0 + j) else _) = _
    rw [Nat.zero_add, if_pos hj, SHA_8]
    unfold sh_D sh_G
    rw [gu_11, if_pos rfl]
    show (if j < 20 then _ else _) = _
    rw [if_pos hj]
    refine SHA_eq (fun i hi => ?_) hj
    rw [gu_11, if_pos rfl]
    show (if i < _ then g 1 i else _) = _
    rw [if_pos hi]
    have := R.1.1.1.2 i hi
    rwa [Nat.zero_add] at this))
  rw [show (shaL (sV A 0)).length = 20 from ofF_len] at this
  rw [gu_21c (by decide)]
  exact this
end
