/-! ===== the reference's state as one table: row 0 its numbers, rows 1 .. 38 its arrays ===== -/
def mh (h : PzH) (mo : Nat) (g : Nat → Nat → Int32) : PzH := (h.1, h.2.1, (fun b => if mo ≤ b ∧ b ≤ mo + 38 then g (b - mo) else pz_I h b), h.2.2.2)
section
variable {h : PzH} {mo : Nat} {g : Nat → Nat → Int32}
theorem mh_C {b : Nat} : pz_C (mh h mo g) b = pz_C h b := rfl
theorem mh_L {b : Nat} : pz_L (mh h mo g) b = pz_L h b := rfl
theorem mh_R {b j : Nat} : pz_R (mh h mo g) b j = pz_R h b j := rfl
theorem mh_J {b j : Nat} : pz_J (mh h mo g) b j = pz_J h b j := rfl
theorem mh_N : pz_N (mh h mo g) = pz_N h := rfl
theorem mh_S : pz_S (mh h mo g) = pz_S h := rfl
theorem mh_Ir {n : Nat} (hn : n ≤ 38) : pz_I (mh h mo g) (mo + n) = g n := by
  show (if mo ≤ mo + n ∧ mo + n ≤ mo + 38 then g (mo + n - mo) else pz_I h (mo + n)) = _
  rw [if_pos (by omega), Nat.add_sub_cancel_left]
theorem mh_I {n j : Nat} (hn : n ≤ 38) : pz_I (mh h mo g) (mo + n) j = g n j := by rw [mh_Ir hn]
theorem mh_I0 {j : Nat} : pz_I (mh h mo g) mo j = g 0 j := mh_I (n := 0) (by omega)
theorem mh_sA {n : Nat} {f : Nat → Int32} (hn : n ≤ 38) : pz_sA (mh h mo g) (mo + n) f = mh h mo (pz_u1 g n f) := by
  unfold pz_sA mh pz_u1
  refine Prod.ext rfl (Prod.ext rfl (Prod.ext ?_ rfl))
  funext b
  dsimp only
  by_cases hb : b = mo + n
  · subst hb
    rw [if_pos rfl, if_pos (by omega), if_pos (by omega)]
  · rw [if_neg hb]
    by_cases hq : mo ≤ b ∧ b ≤ mo + 38
    · rw [if_pos hq, if_pos hq, if_neg (by omega)]
    · rw [if_neg hq, if_neg hq]
theorem mh_sI {n k : Nat} {v : Int32} (hn : n ≤ 38) : pz_sI (mh h mo g) (mo + n) k v = mh h mo (pz_u2 g n k v) := by
  unfold pz_sI mh pz_u2
  refine Prod.ext rfl (Prod.ext rfl (Prod.ext ?_ rfl))
  funext b j
  dsimp only
  by_cases hb : b = mo + n ∧ j = k
  · obtain ⟨rfl, rfl⟩ := hb
    rw [if_pos ⟨rfl, rfl⟩, if_pos (by omega), if_pos (by omega)]
  · rw [if_neg hb]
    by_cases hq : mo ≤ b ∧ b ≤ mo + 38
    · rw [if_pos hq, if_pos hq, if_neg (by omega)]
    · rw [if_neg hq, if_neg hq]
theorem mh_sI0 {k : Nat} {v : Int32} : pz_sI (mh h mo g) mo k v = mh h mo (pz_u2 g 0 k v) := mh_sI (n := 0) (by omega)
theorem mh_eta : mh h mo (fun n => pz_I h (mo + n)) = h := by
  unfold mh
  refine Prod.ext rfl (Prod.ext rfl (Prod.ext ?_ rfl))
  funext b
  dsimp only
  by_cases hq : mo ≤ b ∧ b ≤ mo + 38
  · rw [if_pos hq, show mo + (b - mo) = b by omega]
    rfl
  · rw [if_neg hq]
    rfl
theorem MO_mh (H : MO h mo) : MO (mh h mo g) mo := H
/-- rows and numbers behind writes -/
theorem gu_11 {n a : Nat} {f : Nat → Int32} : pz_u1 g n f a = if a = n then f else g a := rfl
theorem gu_22 {n k a j : Nat} {v : Int32} : pz_u2 g n k v a j = if a = n ∧ j = k then v else g a j := rfl
theorem gu_r {n k a : Nat} {v : Int32} (hn : a ≠ n) : pz_u2 g n k v a = g a := by
  funext j
  rw [gu_22, if_neg (fun q => hn q.1)]
theorem gu_21s {n k : Nat} {f : Nat → Int32} {v : Int32} : pz_u2 (pz_u1 g n f) n k v = pz_u1 g n (upd f k v) := by
  funext a j
  rw [gu_22, gu_11, gu_11]
  by_cases ha : a = n
  · rw [if_pos ha, if_pos ha]
    unfold upd
    by_cases hj : j = k
    · rw [if_pos ⟨ha, hj⟩, if_pos hj]
    · rw [if_neg (fun q => hj q.2), if_neg hj]
  · rw [if_neg (fun q => ha q.1), if_neg ha, if_neg ha]
theorem gu_21c {n k a : Nat} {f : Nat → Int32} {v : Int32} (hn : a ≠ n) : pz_u2 (pz_u1 g n f) a k v = pz_u1 (pz_u2 g a k v) n f := by
  funext b j
  rw [gu_22, gu_11, gu_11]
  by_cases hb : b = n
  · rw [if_neg (fun q => hn (q.1.symm.trans hb)), if_pos hb, if_pos hb]
  · rw [if_neg hb, if_neg hb, gu_22]
theorem gu_22s {n k : Nat} {v w : Int32} : pz_u2 (pz_u2 g n k v) n k w = pz_u2 g n k w := by
  funext b j
  rw [gu_22, gu_22, gu_22]
  by_cases hb : b = n ∧ j = k
  · rw [if_pos hb, if_pos hb]
  · rw [if_neg hb, if_neg hb, if_neg hb]
theorem gu_11s {n : Nat} {f f' : Nat → Int32} : pz_u1 (pz_u1 g n f) n f' = pz_u1 g n f' := by
  funext b
  rw [gu_11, gu_11, gu_11]
  by_cases hb : b = n
  · rw [if_pos hb, if_pos hb]
  · rw [if_neg hb, if_neg hb, if_neg hb]
theorem gu_11c {n a : Nat} {f f' : Nat → Int32} (hn : a < n) : pz_u1 (pz_u1 g n f) a f' = pz_u1 (pz_u1 g a f') n f := by
  funext b
  rw [gu_11, gu_11, gu_11, gu_11]
  by_cases hb : b = n
  · rw [if_neg (by omega), if_pos hb, if_pos hb]
  · rw [if_neg hb, if_neg hb]
theorem gu_22c {n a k j : Nat} {v w : Int32} (hn : a < n ∨ (a = n ∧ k < j)) : pz_u2 (pz_u2 g n j v) a k w = pz_u2 (pz_u2 g a k w) n j v := by
  funext b i
  rw [gu_22, gu_22, gu_22, gu_22]
  by_cases h1 : b = a ∧ i = k
  · rw [if_pos h1, if_neg (by omega), if_pos h1]
  · rw [if_neg h1, if_neg h1]
theorem gu_2to1 {n k : Nat} {v : Int32} : pz_u2 g n k v = pz_u1 g n (upd (g n) k v) := by
  funext a j
  rw [gu_22, gu_11]
  by_cases ha : a = n
  · rw [if_pos ha]
    unfold upd
    by_cases hj : j = k
    · rw [if_pos ⟨ha, hj⟩, if_pos hj]
    · rw [if_neg (fun q => hj q.2), if_neg hj, ha]
  · rw [if_neg (fun q => ha q.1), if_neg ha]
theorem gu_1e {n : Nat} : pz_u1 g n (g n) = g := by
  funext b
  rw [gu_11]
  by_cases hb : b = n
  · rw [if_pos hb, hb]
  · rw [if_neg hb]
end
theorem z_4 : ((4 : Int32) = 0) = False := by decide
theorem z_5 : ((5 : Int32) = 0) = False := by decide
theorem z_7 : ((7 : Int32) = 0) = False := by decide
theorem z_8 : ((8 : Int32) = 0) = False := by decide
theorem z_10 : ((10 : Int32) = 0) = False := by decide
theorem z_16 : ((16 : Int32) = 0) = False := by decide
theorem z_20 : ((20 : Int32) = 0) = False := by decide
theorem z_64 : ((64 : Int32) = 0) = False := by decide
