/-! ===== the desk's state, as both sides keep it ===== -/
abbrev Tb := Nat → Nat → Int32
/-- numbers and flags; wires; tape 0, OUT 1, name 2, hashes 3, content 4; disks; what is asked; files -/
abbrev St := Tb × (Nat → List Int8) × (Nat → List Int8) × (Nat → List Int8) × (Nat → List Nat) × List (Nat × Nat)
abbrev sB (A : St) : Tb := A.1
abbrev sW (A : St) : Nat → List Int8 := A.2.1
abbrev sV (A : St) : Nat → List Int8 := A.2.2.1
abbrev sD (A : St) : Nat → List Int8 := A.2.2.2.1
abbrev sL (A : St) : Nat → List Nat := A.2.2.2.2.1
abbrev sF (A : St) : List (Nat × Nat) := A.2.2.2.2.2
def upf {α : Type} (f : Nat → α) (k : Nat) (v : α) : Nat → α := fun j => if j = k then v else f j
theorem upf_s {α : Type} {f : Nat → α} {k : Nat} {v : α} : upf f k v k = v := if_pos rfl
theorem upf_n {α : Type} {f : Nat → α} {k j : Nat} {v : α} (h : j ≠ k) : upf f k v j = f j := if_neg h
/-! ===== runs of bytes in an array ===== -/
def SEG (f : Nat → Int32) (o : Nat) (l : List Int8) : Prop := ∀ i, i < l.length → f (o + i) = (l.getD i 0).toInt32
def ofF (u : Nat → Int8) (m : Nat) : List Int8 := (List.range m).map u
theorem ofF_len {u : Nat → Int8} {m : Nat} : (ofF u m).length = m := by simp [ofF]
theorem ofF_get {u : Nat → Int8} {m i : Nat} (h : i < m) : (ofF u m).getD i 0 = u i := by simp [ofF, List.getD, h]
theorem ofF_s {u : Nat → Int8} {m : Nat} : ofF u (m + 1) = ofF u m ++ [u m] := by simp [ofF, List.range_succ]
theorem ofF_0 {u : Nat → Int8} : ofF u 0 = [] := rfl
theorem i88 (b : Int8) : b.toInt32.toInt8 = b := Int8.toInt8_toInt32 b
theorem vb8 (b : Int8) : vp_nar .byte b.toInt32 = b.toInt32 := by
  have := pk_vb b.toInt32
  rwa [i88] at this
theorem fb8 (b : Int8) : fits .byte (.int b.toInt32) = true := by
  have := pk_fb b.toInt32
  rwa [i88] at this
theorem SEG_nil {f : Nat → Int32} {o : Nat} : SEG f o [] := fun i hi => by simp at hi
theorem SEG_c {f f' : Nat → Int32} {o : Nat} {l : List Int8} (h : SEG f o l) (e : ∀ i, i < l.length → f' (o + i) = f (o + i)) : SEG f' o l := fun i hi => (e i hi).trans (h i hi)
theorem getD_app1 {α : Type} {l m : List α} {i : Nat} {z : α} (h : i < l.length) : (l ++ m).getD i z = l.getD i z := by simp [List.getD, List.getElem?_append_left h]
theorem getD_app2 {α : Type} {l m : List α} {i : Nat} {z : α} : (l ++ m).getD (l.length + i) z = m.getD i z := by simp [List.getD, List.getElem?_append_right (show l.length ≤ l.length + i by omega)]
theorem getD_drop {α : Type} {l : List α} {n i : Nat} {z : α} : (l.drop n).getD i z = l.getD (n + i) z := by simp [List.getD, List.getElem?_drop]
theorem getD_take {α : Type} {l : List α} {n i : Nat} {z : α} (h : i < n) : (l.take n).getD i z = l.getD i z := by simp [List.getD, h]
theorem SEG_app {f f' : Nat → Int32} {o : Nat} {l m : List Int8} (h : SEG f o l) (e : ∀ i, i < l.length → f' (o + i) = f (o + i)) (h2 : SEG f' (o + l.length) m) : SEG f' o (l ++ m) := by
  intro i hi
  rw [List.length_append] at hi
  by_cases q : i < l.length
  · rw [getD_app1 q, e i q, h i q]
  · obtain ⟨j, rfl⟩ : ∃ j, i = l.length + j := ⟨i - l.length, by omega⟩
    rw [getD_app2, ← Nat.add_assoc]
    exact h2 j (by omega)
theorem SEG_take {f : Nat → Int32} {o n : Nat} {l : List Int8} (h : SEG f o l) : SEG f o (l.take n) := by
  intro i hi
  rw [List.length_take] at hi
  rw [getD_take (by omega)]
  exact h i (by omega)
theorem SEG_drop {f : Nat → Int32} {o n : Nat} {l : List Int8} (h : SEG f o l) : SEG f (o + n) (l.drop n) := by
  intro i hi
  rw [List.length_drop] at hi
  rw [getD_drop, Nat.add_assoc]
  exact h (n + i) (by omega)
theorem SEG_mv {f f' : Nat → Int32} {o o' : Nat} {l : List Int8} (h : SEG f o l) (e : ∀ i, i < l.length → f' (o' + i) = f (o + i)) : SEG f' o' l := fun i hi => (e i hi).trans (h i hi)
theorem SEG_of {f : Nat → Int32} {o m : Nat} {u : Nat → Int8} (e : ∀ i, i < m → f (o + i) = (u i).toInt32) : SEG f o (ofF u m) := by
  intro i hi
  rw [ofF_len] at hi
  rw [ofF_get hi, e i hi]
theorem SEG_set {f : Nat → Int32} {o k : Nat} {l : List Int8} {b : Int8} (h : SEG f o l) : SEG (upd f (o + k) b.toInt32) o (l.set k b) := by
  intro i hi
  rw [List.length_set] at hi
  unfold upd
  by_cases q : i = k
  · subst q
    rw [if_pos rfl]
    simp [List.getD, hi]
  · rw [if_neg (by omega), h i hi]
    simp [List.getD, List.getElem?_set, show ¬ k = i from fun z => q z.symm]
theorem put_in {f u : Nat → Int32} {a m i : Nat} (h : i < m) : put f a m u (a + i) = u i := by
  unfold put
  rw [if_pos (by omega), Nat.add_sub_cancel_left]
theorem put_out {f u : Nat → Int32} {a m j : Nat} (h : j < a ∨ a + m ≤ j) : put f a m u j = f j := by
  unfold put
  rw [if_neg (by omega)]
theorem fil_in {f : Nat → Int32} {a m j : Nat} {v : Int32} (h : a ≤ j ∧ j < a + m) : fil f a m v j = v := by
  unfold fil
  rw [if_pos h]
theorem fil_out {f : Nat → Int32} {a m j : Nat} {v : Int32} (h : j < a ∨ a + m ≤ j) : fil f a m v j = f j := by
  unfold fil
  rw [if_neg (by omega)]
/-! ===== flags ===== -/
def FLr : List Nat := [18, 20, 21, 22, 23, 24, 25, 26, 27, 28, 29, 30, 31]
def FLs : List Nat := [16, 17, 18, 19, 20, 21, 27]
def FL (r j : Nat) : Prop := r ∈ FLr ∨ (r = 0 ∧ j ∈ FLs)
def FLE (g B : Tb) : Prop := ∀ r j, FL r j → g r j = B r j
section
variable {g B : Tb} {r k : Nat} {v : Int32} {f f' : Nat → Int32}
theorem FLE_u2 (h : FLE g B) : FLE (pz_u2 g r k v) (pz_u2 B r k v) := by
  intro a j q
  rw [gu_22, gu_22, h a j q]
theorem FLE_o2 (h : FLE g B) (hn : ¬ FL r k) : FLE (pz_u2 g r k v) B := by
  intro a j q
  rw [gu_22, if_neg (show ¬ (a = r ∧ j = k) from fun z => hn (by rw [← z.1, ← z.2]; exact q)), h a j q]
theorem FLE_u1 (h : FLE g B) (e : ∀ j, f j = f' j) : FLE (pz_u1 g r f) (pz_u1 B r f') := by
  intro a j q
  rw [gu_11, gu_11]
  by_cases z : a = r
  · rw [if_pos z, if_pos z, e j]
  · rw [if_neg z, if_neg z, h a j q]
theorem FLE_o1 (h : FLE g B) (h0 : r ≠ 0) (hn : r ∉ FLr) : FLE (pz_u1 g r f) B := by
  intro a j q
  rw [gu_11, if_neg (show ¬ a = r from fun z => by subst z; exact q.elim hn (fun y => h0 y.1)), h a j q]
theorem FLE_row (h : FLE g B) (hr : r ∈ FLr) : g r = B r := funext fun j => h r j (Or.inl hr)
theorem FLE_fo7 (h : FLE g B) : FLE (fo7 g k) (fo7 B k) := FLE_u2 (FLE_u2 (FLE_u2 (FLE_u2 (FLE_u2 (FLE_u2 (FLE_u2 h))))))
theorem FLE_fo (h : FLE g B) : FLE (fo g k) (fo B k) := by
  have e := FLE_row h (show 30 ∈ FLr by decide)
  unfold fo
  rw [e]
  have h1 : FLE (pz_u1 (pz_u2 (fo7 g k) 34 k 0) 30 (fil (B 30) (64 * k) 64 0)) (pz_u1 (pz_u2 (fo7 B k) 34 k 0) 30 (fil (B 30) (64 * k) 64 0)) := FLE_u1 (FLE_u2 (FLE_fo7 h)) (fun _ => rfl)
  intro a j q
  show (if a = 32 then (_ : Nat → Int32) else _) j = (if a = 32 then (_ : Nat → Int32) else _) j
  have ha : a ≠ 32 := by
    intro z
    subst z
    rcases q with q | q
    · revert q; decide
    · exact absurd q.1 (by decide)
  rw [if_neg ha, if_neg ha]
  exact h1 a j q
end
/-! ===== slots ===== -/
def sO (x : Int32) : List Nat := if x < 0 then [] else [x.toNatClampNeg]
def slo (s : Nat → Int32) (k : Nat) : List Nat := sO (s (4 * k)) ++ (sO (s (4 * k + 1)) ++ (sO (s (4 * k + 2)) ++ sO (s (4 * k + 3))))
def SLS (s : Nat → Int32) (m : Int32) (L : Nat → List Nat) : Prop := m ≠ 0 → ∀ k, k < 20 → (slo s k).Perm (L k)
def WRS (w n : Nat → Int32) (W : Nat → List Int8) : Prop := ∀ k, k < 25 → n k = nI (W k).length ∧ SEG w (4200 * k) (W k)
def grB (i : Nat) : Nat := [19, 66, 105, 116, 84, 111, 114, 114, 101, 110, 116, 32, 112, 114, 111, 116, 111, 99, 111, 108].getD i 0
def caB (i : Nat) : Nat := [45, 74, 68, 48, 48, 48, 49, 45].getD i 0
def CGR (g : Tb) : Prop := (∀ i, i < 20 → g 36 i = nI (grB i)) ∧ (∀ i, i < 8 → g 37 i = nI (caB i))
/-- a row of bytes with its length -/
def BYT (n : Int32) (f : Nat → Int32) (l : List Int8) : Prop := n = nI l.length ∧ SEG f 0 l
def DSK (f : Nat → Int32) (D : Nat → List Int8) : Prop := ∀ a, a < 4 → SEG f (4096 * a) (D a)
/-- the reference's table tells that state -/
def RG0 (g : Tb) (A : St) : Prop := BYT (g 0 2) (g 1) (sV A 0) ∧ BYT (g 0 3) (g 2) (sV A 1) ∧ FLE g (sB A) ∧ SEG (g 14) 0 (sV A 2) ∧ SEG (g 13) 0 (sV A 3) ∧ SEG (g 15) 0 (sV A 4) ∧ DSK (g 19) (sD A) ∧ WRS (g 33) (g 34) (sW A) ∧ FS (g 11) (g 12) (sF A) ∧ CST g ∧ CGR g
def RG (g : Tb) (A : St) : Prop := RG0 g A ∧ SLS (g 32) (sB A 0 16) (sL A)
