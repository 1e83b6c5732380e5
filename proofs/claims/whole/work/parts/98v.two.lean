/-! ===== both, side by side ===== -/
def TWO (L : Nat) (xs : Nat → Int32) (h : PzH) (A : St) (g : Tb) : Prop := RC h A ∧ MO h 138 ∧ (∀ b, b ≤ 38 → pz_I h (138 + b) = g b) ∧ RM g A [] ∧ pz_XL h = L ∧ pz_XS h = xs ∧ pz_N h ≤ 600000 ∧ pz_S h ≤ 7302250
section
variable {d : Nat} {h h1 : PzH} {Q : Option Value → PzH → Prop} {A A' : St} {g g' : Tb} {L : Nat} {xs : Nat → Int32}
theorem mcall {m : PzM} {as : List Value} (e : mh h 138 g = h) (x : pz_M d m as (mh h 138 g) Q) : pz_M d m as h Q := e ▸ x
theorem mh_self (hI : ∀ b, b ≤ 38 → pz_I h (138 + b) = g b) : mh h 138 g = h := by
  have e : (fun b => if 138 ≤ b ∧ b ≤ 138 + 38 then g (b - 138) else pz_I h b) = pz_I h := by
    funext b
    by_cases q : 138 ≤ b ∧ b ≤ 138 + 38
    · rw [if_pos q, ← hI (b - 138) (by omega), show 138 + (b - 138) = b by omega]
    · rw [if_neg q]
  unfold mh
  rw [e]
  rfl
theorem MO_HC (H : HC h h1) (M : MO h 138) : MO h1 138 := by
  have hc : ∀ k, pz_C h1 (138 + k) = pz_C h (138 + k) := fun k => (H.1 _ (by omega)).1
  have hl : ∀ k, pz_L h1 (138 + k) = pz_L h (138 + k) := fun k => (H.1 _ (by omega)).2.1
  have hr : ∀ j, pz_R h1 138 j = pz_R h 138 j := fun j => by rw [(H.1 138 (by omega)).2.2.2.2]
  have h0 : pz_C h1 138 = pz_C h 138 := (H.1 138 (by omega)).1
  unfold MO at *
  simp only [hc, hl, hr, h0]
  exact M
theorem TWO_c (T : TWO L xs h A g) (H : HC h h1) : MO h1 138 ∧ mh h1 138 g = h1 ∧ pz_XL h1 = L ∧ pz_XS h1 = xs ∧ pz_N h1 ≤ 600000 ∧ pz_S h1 ≤ 7302250 ∧ pz_C h1 138 = 10 := by
  obtain ⟨t1, t2, t3, t4, t5, t6, t7, t8⟩ := T
  have M := MO_HC H t2
  refine ⟨M, mh_self (fun b hb => ?_), H.2.2.2.1.trans t5, H.2.2.2.2.trans t6, by rw [H.2.1]; exact t7, by rw [H.2.2.1]; exact t8, M.1⟩
  rw [(H.1 _ (by omega)).2.2.1]
  exact t3 b hb
theorem RC_mh (R : RC h A) : RC (mh h 138 g) A := by
  have F : HF (List.range' 138 39) h (mh h 138 g) := by
    refine ⟨rfl, rfl, rfl, rfl, rfl, rfl, rfl, fun b hb => ?_, fun _ _ => rfl⟩
    show (if 138 ≤ b ∧ b ≤ 138 + 38 then g (b - 138) else pz_I h b) = _
    rw [if_neg (fun z => hb (List.mem_range'_1.mpr (by omega)))]
  have out : ∀ x, x < 138 → x ∉ List.range' 138 39 := fun x hx z => by have := List.mem_range'_1.mp z; omega
  obtain ⟨⟨l1, w1⟩, ⟨l2, w2⟩, ⟨l3, w3⟩⟩ := R.2.2.2.2.2
  exact RC_jk R F (fun x hx => by have := List.mem_range'_1.mp hx; omega) ⟨⟨l1, ROW_fr w1 F (out _ (by omega)) (out _ (by omega))⟩, ⟨l2, ROW_fr w2 F (out _ (by omega)) (out _ (by omega))⟩, ⟨l3, ROW_fr w3 F (out _ (by omega)) (out _ (by omega))⟩⟩
theorem TWO_r (R : RC h1 A') (M : MO h1 138) (G : RM g' A' []) (eL : pz_XL h1 = L) (eX : pz_XS h1 = xs) (eN : pz_N h1 ≤ 600000) (eS : pz_S h1 ≤ 7302250) : TWO L xs (mh h1 138 g') A' g' := by
  refine ⟨RC_mh R, M, fun b hb => ?_, G, eL, eX, eN, eS⟩
  show (if 138 ≤ 138 + b ∧ 138 + b ≤ 138 + 38 then g' (138 + b - 138) else _) = _
  rw [if_pos (by omega), Nat.add_sub_cancel_left]
/-- what the calls want of the state -/
theorem GV_M {l c p : Nat} (I : GV A l c p) : sB A 0 16 = 0 ↔ p = 0 := ⟨fun z => (I.2.1 z).1, fun z => Decidable.byContradiction (fun y => by have := (I.2.2.1 y).1; omega)⟩
theorem GV_hm {l c p : Nat} (I : GV A l c p) : ∀ x, x < 4 → sB A 18 x ≠ 0 → sB A 0 16 ≠ 0 := fun _ hx h => (GV_h20 I hx h).1
theorem GV_hn {l c p : Nat} (I : GV A l c p) : ∀ x, x < 4 → sB A 18 x ≠ 0 → (sV A 2).length = 20 := fun _ hx h => (GV_h20 I hx h).2
end
