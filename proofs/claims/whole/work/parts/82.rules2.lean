/-! ===== rules: a text's length and its letters ===== -/
section RU2
variable {d : Nat} {m : PzM} {pc pc' : Nat} {ls st : List Value} {h : PzH} {Q : Option Value → PzH → Prop}
theorem ru_len {x k : Nat} {c : PzM} {y : UInt32} (hd : decode m.2.2.1 pc = .ok (.invokevirtual x, 3)) (ht : pz_lk (pz_cTab m.1) x = some (5, c, k)) (h8 : (st.map fun v => v.category).sum ≤ 8) (hp : pc + 3 = pc') : wp d m pc ls (.float y :: st) h Q ↔ (y.toNat < pz_sn ∧ wp d m pc' ls (.int (nI (pz_sl.getD y.toNat 0)) :: st) h Q) := by
  subst hp
  rw [ru_gd (p := y.toNat < pz_sn ∧ (st.map fun v => v.category).sum ≤ 8) (pc' := pc + 3) (ls' := ls) (st' := .int (nI (pz_sl.getD y.toNat 0)) :: st) (h' := h) hd rfl (by simp only [pz_e2, ht]; rfl)]
  simp [h8]
theorem ru_charAt {x k : Nat} {c : PzM} {y : UInt32} {i : Int32} (hd : decode m.2.2.1 pc = .ok (.invokevirtual x, 3)) (ht : pz_lk (pz_cTab m.1) x = some (6, c, k)) (h8 : (st.map fun v => v.category).sum ≤ 8) (hp : pc + 3 = pc') : wp d m pc ls (.int i :: .float y :: st) h Q ↔ ((y.toNat < pz_sn ∧ pz_in i (pz_sl.getD y.toNat 0) = true) ∧ wp d m pc' ls (.int (pz_ch y.toNat i.toNatClampNeg) :: st) h Q) := by
  subst hp
  rw [ru_gd (p := y.toNat < pz_sn ∧ pz_in i (pz_sl.getD y.toNat 0) = true ∧ (st.map fun v => v.category).sum ≤ 8) (pc' := pc + 3) (ls' := ls) (st' := .int (pz_ch y.toNat i.toNatClampNeg) :: st) (h' := h) hd rfl (by simp only [pz_e2, ht]; rfl)]
  simp [h8, and_assoc]
end RU2
