/-! ===== the class: showInterest, showChoking ===== -/
/-- nothing of the reference's cells differs, nothing was made -/
def HC (h h' : PzH) : Prop := (∀ b, 138 ≤ b → pz_C h' b = pz_C h b ∧ pz_L h' b = pz_L h b ∧ pz_I h' b = pz_I h b ∧ pz_J h' b = pz_J h b ∧ pz_R h' b = pz_R h b) ∧ pz_N h' = pz_N h ∧ pz_S h' = pz_S h ∧ pz_XL h' = pz_XL h ∧ pz_XS h' = pz_XS h
theorem HC_refl {h : PzH} : HC h h := ⟨fun _ _ => ⟨rfl, rfl, rfl, rfl, rfl⟩, rfl, rfl, rfl, rfl⟩
theorem HC_trans {h1 h2 h3 : PzH} (a : HC h1 h2) (b : HC h2 h3) : HC h1 h3 := by
  obtain ⟨a1, a2, a3, a4, a5⟩ := a
  obtain ⟨b1, b2, b3, b4, b5⟩ := b
  refine ⟨fun x hx => ?_, b2.trans a2, b3.trans a3, b4.trans a4, b5.trans a5⟩
  obtain ⟨p1, p2, p3, p4, p5⟩ := a1 x hx
  obtain ⟨q1, q2, q3, q4, q5⟩ := b1 x hx
  exact ⟨q1.trans p1, q2.trans p2, q3.trans p3, q4.trans p4, q5.trans p5⟩
theorem HC_HF {cs : List Nat} {h h' : PzH} (f : HF cs h h') (hc : ∀ x, x ∈ cs → x < 138) : HC h h' := by
  obtain ⟨a1, a2, a3, a4, a5, a6, a7, a8, a9⟩ := f
  refine ⟨fun b hb => ⟨by rw [a1], by rw [a2], a8 b (fun z => by have := hc b z; omega), a9 b (fun z => by have := hc b z; omega), by rw [a3]⟩, a4, a5, a6, a7⟩
theorem HC_HL {h h' : PzH} (f : HL h h') : HC h h' := by
  obtain ⟨cs, f, g⟩ := f
  exact HC_HF f (fun x hx => by have := g x hx; unfold lkR at this; omega)
theorem HC_note {h h' : PzH} (f : HF [135, 136] h h') : HC h h' := HC_HF f (fun x hx => by simp at hx; omega)
theorem and_not {x y : Int64} : x &&& (y ^^^ (-1)) = 0 ↔ ∀ q, q < 64 → x.toBitVec.getLsbD q = true → y.toBitVec.getLsbD q = true := by
  have m1 : ∀ q, q < 64 → (-1 : Int64).toBitVec.getLsbD q = true := by decide +kernel
  constructor
  · intro e q hq hx
    have := congrArg (fun z : Int64 => z.toBitVec.getLsbD q) e
    simp only [Int64.toBitVec_and, Int64.toBitVec_xor, BitVec.getLsbD_and, BitVec.getLsbD_xor, hx, m1 q hq, Bool.true_and] at this
    have z : (0 : Int64).toBitVec.getLsbD q = false := by
      show (0#64).getLsbD q = false
      simp
    rw [z] at this
    simpa using this
  · intro e
    apply wb_inj
    apply BitVec.eq_of_getLsbD_eq
    intro q hq
    have z : (0 : Int64).toBitVec.getLsbD q = false := by
      show (0#64).getLsbD q = false
      simp
    rw [z, Int64.toBitVec_and, Int64.toBitVec_xor, BitVec.getLsbD_and, BitVec.getLsbD_xor, m1 q hq]
    cases hx : x.toBitVec.getLsbD q with
    | false => simp
    | true => rw [e q hq hx]; simp
section
variable {d : Nat} {h : PzH} {Q : Option Value → PzH → Prop} {A : St} {l c p : Nat}
theorem wnt_iff {x y : Int64} {a b : Nat} (hx : BTS x (fun q => sB A 30 (64 * (5 * a + b) + q))) (hy : BTS y (fun q => sB A 20 (64 * a + q))) (hp : ∀ q, q < 64 → sB A 30 (64 * (5 * a + b) + q) ≠ 0 → q < p) (hp2 : p ≤ 64) : x &&& (y ^^^ (-1)) = 0 ↔ wnt A a b p = false := by
  rw [and_not, ← Bool.not_eq_true]
  unfold wnt
  rw [anyN_iff]
  constructor
  · rintro e ⟨q, q1, q2, q3⟩
    have h1 := hx q (by omega)
    have h2 := hy q (by omega)
    rw [decide_eq_true (show (fun q => sB A 30 (64 * (5 * a + b) + q)) q ≠ 0 from q2)] at h1
    have := e q (by omega) h1
    rw [h2] at this
    exact of_decide_eq_true this q3
  · intro e q hq h1
    rw [hx q hq] at h1
    have h1' := of_decide_eq_true h1
    rw [hy q hq]
    exact decide_eq_true (fun z => e ⟨q, hp q hq h1', h1', z⟩)
theorem CL_of (R : RC h A) {a : Nat} (ha : a < 4) : CLI h (36 + 4 * a) ∧ CR h A a := ⟨(R.1.2.2.2.2.2.2.1 a ha).2, R.2.2.2.1 a ha⟩
theorem LN_of (R : RC h A) {a b : Nat} (ha : a < 5) (hb : b < 5) (hab : a ≠ b) : LNK h (lkA (5 * a + b)) ∧ LR h A a b := ⟨(R.1.2.2.2.2.2.2.2.1 (5 * a + b) (by omega) (by omega)).2, R.2.2.2.2.1 a b ha hb hab⟩
/-- a flag of a link is written -/
theorem RC_fl {a b j r : Nat} {v : Int32} (R : RC h A) (ha : a < 5) (hb : b < 5) (hab : a ≠ b) (hj : sB A 23 (5 * a + b) ≠ 0) (hjr : (j, r) ∈ [(4, 24), (5, 25), (6, 26), (7, 27), (8, 28), (9, 29)]) : RC (pz_sI h (lkA (5 * a + b)) j v) (pz_u2 (sB A) r (5 * a + b) v, A.2) := by
  have hc : (j = 4 ∧ r = 24) ∨ (j = 5 ∧ r = 25) ∨ (j = 6 ∧ r = 26) ∨ (j = 7 ∧ r = 27) ∨ (j = 8 ∧ r = 28) ∨ (j = 9 ∧ r = 29) := by simpa using hjr
  have f : HF (lkC (5 * a + b)) h (pz_sI h (lkA (5 * a + b)) j v) := HF_sI (lkC_m.mpr (by omega))
  obtain ⟨r0, r1, r3, r4, r5, r6, r7, r8, r9, r10, r12, r11, r13, rw⟩ := R.2.2.2.2.1 a b ha hb hab
  have r18 : r ≠ 18 ∧ r ≠ 20 ∧ r ≠ 21 ∧ r ≠ 22 ∧ r ≠ 0 ∧ r ≠ 30 ∧ r ≠ 23 ∧ r ≠ 31 := by omega
  refine RC_lk R ha hb hab f ?_ (fun k => by show pz_u2 (sB A) r _ v 0 k = _; rw [gu_22, if_neg (fun z => r18.2.2.2.2.1 z.1.symm)]) rfl rfl rfl (fun s hs => ?_) (fun s hs k hk => by show pz_u2 (sB A) r _ v s k = _; rw [gu_22, if_neg (fun z => hk z.2)]) (fun k hk q hq => by show pz_u2 (sB A) r _ v 30 _ = _; rw [gu_22, if_neg (fun z => r18.2.2.2.2.2.1 z.1.symm)]) (fun _ _ => rfl) (fun _ _ => rfl)
  · have W := ROW_fr rw (HF_sI (cs := [lkA (5 * a + b)]) (h := h) (a := lkA (5 * a + b)) (k := j) (v := v) (by simp)) (by simp) (by simp)
    have e3 : pz_I (pz_sI h (lkA (5 * a + b)) j v) (lkA (5 * a + b) + 3) = pz_I h (lkA (5 * a + b) + 3) := by
      funext z
      rw [pq_I_sI, if_neg (by omega)]
    have iv : ∀ i, pz_I (pz_sI h (lkA (5 * a + b)) j v) (lkA (5 * a + b)) i = if i = j then v else pz_I h (lkA (5 * a + b)) i := by
      intro i
      rw [pq_I_sI]
      by_cases e : i = j
      · rw [if_pos ⟨rfl, e⟩, if_pos e]
      · rw [if_neg (fun z => e z.2), if_neg e]
    have bv : ∀ s, sB ((pz_u2 (sB A) r (5 * a + b) v, A.2) : St) s (5 * a + b) = if s = r then v else sB A s (5 * a + b) := by
      intro s
      show pz_u2 (sB A) r (5 * a + b) v s (5 * a + b) = _
      rw [gu_22]
      by_cases e : s = r
      · rw [if_pos ⟨e, rfl⟩, if_pos e]
      · rw [if_neg (fun z => e z.1), if_neg e]
    have b23 : sB ((pz_u2 (sB A) r (5 * a + b) v, A.2) : St) 23 (5 * a + b) = sB A 23 (5 * a + b) := by rw [bv, if_neg (by omega)]
    have b31 : sB ((pz_u2 (sB A) r (5 * a + b) v, A.2) : St) 31 (5 * a + b) = sB A 31 (5 * a + b) := by rw [bv, if_neg (by omega)]
    have b30 : sB ((pz_u2 (sB A) r (5 * a + b) v, A.2) : St) 30 = sB A 30 := gu_r (by omega)
    rw [if_neg hj] at r6 r7
    unfold LR
    rw [e3, b23, b31, b30, if_neg hj, if_neg hj, iv 0, iv 1, iv 3, iv 4, iv 5, iv 6, iv 7, iv 8, iv 9, iv 12, iv 13, bv 24, bv 25, bv 26, bv 27, bv 28, bv 29]
    rcases hc with ⟨rfl, rfl⟩ | ⟨rfl, rfl⟩ | ⟨rfl, rfl⟩ | ⟨rfl, rfl⟩ | ⟨rfl, rfl⟩ | ⟨rfl, rfl⟩
    all_goals exact ⟨r0, r1, r3, by first | exact r4 | rfl, by first | exact r5 | rfl, by first | exact r6 | rfl, by first | exact r7 | rfl, by first | exact r8 | rfl, by first | exact r9 | rfl, r10, r12, r11, r13, W⟩
  · show pz_u2 (sB A) r _ v s = _
    have : s = 18 ∨ s = 20 ∨ s = 21 ∨ s = 22 := by simpa using hs
    exact gu_r (by omega)
end
