/-! ===== what an instruction leaves of the heap's numbers ===== -/
def pz_g1 (h : PzH) (o : Option PzR) : Prop := ∀ r, o = some r → ∃ a b c, r = .inl (a, b, c, h)
section G1
variable {h : PzH}
theorem pz_g1_go (pc : Nat) (ls st : List Value) : pz_g1 h (pz_go pc ls st h) := fun r e => by cases e; exact ⟨_, _, _, rfl⟩
theorem pz_g1_no : pz_g1 h none := fun r e => by cases e
theorem pz_g1_gd {p : Prop} [Decidable p] {k : Option PzR} (g : pz_g1 h k) : pz_g1 h (pz_gd p k) := fun r e => g r (pz_gd_s e).2
theorem pz_g1_i1 {st : List Value} {k : Int32 → List Value → Option PzR} (g : ∀ a t, pz_g1 h (k a t)) : pz_g1 h (pz_i1 st k) := fun r e => by obtain ⟨a, t, -, e⟩ := pz_i1_s e; exact g a t r e
theorem pz_g1_i2 {st : List Value} {k : Int32 → Int32 → List Value → Option PzR} (g : ∀ a b t, pz_g1 h (k a b t)) : pz_g1 h (pz_i2 st k) := fun r e => by obtain ⟨a, b, t, -, e⟩ := pz_i2_s e; exact g a b t r e
theorem pz_g1_j1 {st : List Value} {k : Int64 → List Value → Option PzR} (g : ∀ a t, pz_g1 h (k a t)) : pz_g1 h (pz_j1 st k) := fun r e => by obtain ⟨a, t, -, e⟩ := pz_j1_s e; exact g a t r e
theorem pz_g1_j2 {st : List Value} {k : Int64 → Int64 → List Value → Option PzR} (g : ∀ a b t, pz_g1 h (k a b t)) : pz_g1 h (pz_j2 st k) := fun r e => by obtain ⟨a, b, t, -, e⟩ := pz_j2_s e; exact g a b t r e
theorem pz_g1_ji {st : List Value} {k : Int64 → Int32 → List Value → Option PzR} (g : ∀ a b t, pz_g1 h (k a b t)) : pz_g1 h (pz_ji st k) := fun r e => by obtain ⟨a, b, t, -, e⟩ := pz_ji_s e; exact g a b t r e
theorem pz_g1_vi {v : Value} {k : Int32 → Option PzR} (g : ∀ a, pz_g1 h (k a)) : pz_g1 h (pz_vi v k) := fun r e => by obtain ⟨a, -, e⟩ := pz_vi_s e; exact g a r e
theorem pz_g1_vj {v : Value} {k : Int64 → Option PzR} (g : ∀ a, pz_g1 h (k a)) : pz_g1 h (pz_vj v k) := fun r e => by obtain ⟨a, -, e⟩ := pz_vj_s e; exact g a r e
theorem pz_g1_va {v : Value} {k : Value → Option PzR} (g : ∀ a, pz_g1 h (k a)) : pz_g1 h (pz_va v k) := fun r e => g v r (pz_va_s e).2
theorem pz_g1_br {pc : Nat} {off : Int} {k : Nat → Option PzR} (g : ∀ t, pz_g1 h (k t)) : pz_g1 h (pz_br pc off k) := fun r e => by obtain ⟨t, -, e⟩ := pz_br_s e; exact g t r e
set_option maxHeartbeats 4000000 in
theorem pz_e1_g (m : PzM) (i : Instr) (n pc : Nat) (ls st : List Value) : pz_g1 h (pz_e1 m i n pc ls st h) := by
  unfold pz_e1
  split
  all_goals repeat' first | exact pz_g1_go _ _ _ | exact pz_g1_no | refine pz_g1_gd ?_ | refine pz_g1_i1 (fun _ _ => ?_) | refine pz_g1_i2 (fun _ _ _ => ?_) | refine pz_g1_j1 (fun _ _ => ?_) | refine pz_g1_j2 (fun _ _ _ => ?_) | refine pz_g1_ji (fun _ _ _ => ?_) | refine pz_g1_vi (fun _ => ?_) | refine pz_g1_vj (fun _ => ?_) | refine pz_g1_va (fun _ => ?_) | refine pz_g1_br (fun _ => ?_) | split
end G1
def pz_g2 (pc : Nat) (ls : List Value) (h : PzH) (o : Option PzR) : Prop := ∀ r, o = some r → match r with
  | .inl (_, ls', _, h') => ls' = ls ∧ pz_N h ≤ pz_N h' ∧ pz_S h ≤ pz_S h' ∧ pz_XL h' = pz_XL h ∧ pz_XS h' = pz_XS h
  | .inr (.inl (_, h')) => h' = h
  | .inr (.inr (_, _, h', pc', ls', _)) => h' = h ∧ pc' = pc + 3 ∧ ls' = ls
section G2
variable {pc : Nat} {ls : List Value} {h : PzH}
theorem pz_g2_go {pc' : Nat} {st : List Value} {h' : PzH} (g : pz_N h ≤ pz_N h' ∧ pz_S h ≤ pz_S h' ∧ pz_XL h' = pz_XL h ∧ pz_XS h' = pz_XS h) : pz_g2 pc ls h (pz_go pc' ls st h') := fun r e => by cases e; exact ⟨rfl, g⟩
theorem pz_g2_no : pz_g2 pc ls h none := fun r e => by cases e
theorem pz_g2_rt {v : Option Value} : pz_g2 pc ls h (some (.inr (.inl (v, h)))) := fun r e => by cases e; rfl
theorem pz_g2_ca {c : PzM} {as rest : List Value} : pz_g2 pc ls h (some (.inr (.inr (c, as, h, pc + 3, ls, rest)))) := fun r e => by cases e; exact ⟨rfl, rfl, rfl⟩
theorem pz_g2_gd {p : Prop} [Decidable p] {k : Option PzR} (g : pz_g2 pc ls h k) : pz_g2 pc ls h (pz_gd p k) := fun r e => g r (pz_gd_s e).2
theorem pz_g2_i1 {st : List Value} {k : Int32 → List Value → Option PzR} (g : ∀ a t, pz_g2 pc ls h (k a t)) : pz_g2 pc ls h (pz_i1 st k) := fun r e => by obtain ⟨a, t, -, e⟩ := pz_i1_s e; exact g a t r e
theorem pz_g2_i2 {st : List Value} {k : Int32 → Int32 → List Value → Option PzR} (g : ∀ a b t, pz_g2 pc ls h (k a b t)) : pz_g2 pc ls h (pz_i2 st k) := fun r e => by obtain ⟨a, b, t, -, e⟩ := pz_i2_s e; exact g a b t r e
theorem pz_g2_a1 {st : List Value} {k : Nat → List Value → Option PzR} (g : ∀ a t, pz_g2 pc ls h (k a t)) : pz_g2 pc ls h (pz_a1 st k) := fun r e => by obtain ⟨a, t, -, e⟩ := pz_a1_s e; exact g a t r e
theorem pz_g2_vi {v : Value} {k : Int32 → Option PzR} (g : ∀ a, pz_g2 pc ls h (k a)) : pz_g2 pc ls h (pz_vi v k) := fun r e => by obtain ⟨a, -, e⟩ := pz_vi_s e; exact g a r e
theorem pz_g2_vj {v : Value} {k : Int64 → Option PzR} (g : ∀ a, pz_g2 pc ls h (k a)) : pz_g2 pc ls h (pz_vj v k) := fun r e => by obtain ⟨a, -, e⟩ := pz_vj_s e; exact g a r e
theorem pz_pa_s {r : PzR} {k : List Value → List Value → Option PzR} : ∀ (n : Nat) (acc st : List Value), pz_pa n acc st k = some r → ∃ xs rest, st = xs ++ rest ∧ xs.length = n ∧ k (xs.reverse ++ acc) rest = some r
  | 0, acc, st, e => ⟨[], st, rfl, rfl, e⟩
  | n + 1, acc, [], e => by cases e
  | n + 1, acc, v :: st, e => by
    obtain ⟨xs, rest, e1, e2, e3⟩ := pz_pa_s n (v :: acc) st e
    exact ⟨v :: xs, rest, by rw [e1]; rfl, by simp [e2], by simpa using e3⟩
theorem pz_g2_pa {n : Nat} {acc st : List Value} {k : List Value → List Value → Option PzR} (g : ∀ a b, pz_g2 pc ls h (k a b)) : pz_g2 pc ls h (pz_pa n acc st k) := fun r e => by
  obtain ⟨xs, rest, -, -, e⟩ := pz_pa_s _ _ _ e
  exact g _ _ r e
theorem pz_same4 : pz_N h ≤ pz_N h ∧ pz_S h ≤ pz_S h ∧ pz_XL h = pz_XL h ∧ pz_XS h = pz_XS h := ⟨Nat.le_refl _, Nat.le_refl _, rfl, rfl⟩
theorem pz_g2_fw {a k kd : Nat} {v : Value} {kk : PzH → Option PzR} (g : ∀ h', (pz_N h ≤ pz_N h' ∧ pz_S h ≤ pz_S h' ∧ pz_XL h' = pz_XL h ∧ pz_XS h' = pz_XS h) → pz_g2 pc ls h (kk h')) : pz_g2 pc ls h (pz_fw h a k kd v kk) := by
  unfold pz_fw
  split
  · exact pz_g2_vi fun x => g _ pz_same4
  · exact pz_g2_vi fun x => pz_g2_gd (g _ pz_same4)
  · exact pz_g2_vj fun x => g _ pz_same4
  · split
    · exact g _ pz_same4
    · exact g _ pz_same4
    · exact pz_g2_no
  · exact pz_g2_no
theorem pz_new4 (tag len n : Nat) : pz_N h ≤ pz_N (pz_new h tag len n) ∧ pz_S h ≤ pz_S (pz_new h tag len n) ∧ pz_XL (pz_new h tag len n) = pz_XL h ∧ pz_XS (pz_new h tag len n) = pz_XS h := ⟨Nat.le_succ _, Nat.le_add_right _ _, rfl, rfl⟩
set_option maxHeartbeats 4000000 in
theorem pz_call_g (m : PzM) (kd : Nat) (c : PzM) (n : Nat) (st : List Value) : pz_g2 pc ls h (pz_call m kd c n pc ls st h) := by
  unfold pz_call
  split
  all_goals repeat' first | exact pz_g2_ca | exact pz_g2_no | exact pz_g2_go pz_same4 | refine pz_g2_gd ?_ | refine pz_g2_i2 (fun _ _ _ => ?_) | refine pz_g2_a1 (fun _ _ => ?_) | refine pz_g2_pa (fun _ _ => ?_) | split
set_option maxHeartbeats 4000000 in
theorem pz_e2_g (m : PzM) (i : Instr) (n : Nat) (st : List Value) : pz_g2 pc ls h (pz_e2 m i n pc ls st h) := by
  unfold pz_e2
  split
  all_goals repeat' first | exact pz_call_g _ _ _ _ _ | exact pz_g2_no | exact pz_g2_rt | exact pz_g2_go pz_same4 | exact pz_g2_go (pz_new4 _ _ _) | (refine pz_g2_fw (fun _ q => ?_); exact pz_g2_go q) | refine pz_g2_gd ?_ | refine pz_g2_i1 (fun _ _ => ?_) | refine pz_g2_a1 (fun _ _ => ?_) | split
end G2
/-- what a run leaves of the heap's numbers -/
def pz_le (h h' : PzH) : Prop := pz_N h ≤ pz_N h' ∧ pz_S h ≤ pz_S h' ∧ pz_XL h' = pz_XL h ∧ pz_XS h' = pz_XS h
theorem pz_le_tr {a b c : PzH} (h1 : pz_le a b) (h2 : pz_le b c) : pz_le a c := ⟨Nat.le_trans h1.1 h2.1, Nat.le_trans h1.2.1 h2.2.1, h2.2.2.1.trans h1.2.2.1, h2.2.2.2.trans h1.2.2.2⟩
/-- a step, seen from outside -/
theorem pz_st_s {m : PzM} {pc : Nat} {ls st : List Value} {h : PzH} {r : PzR} (hs : pz_st m pc ls st h = some r) : ∃ i n, decode m.2.2.1 pc = .ok (i, n) ∧ ((pz_ty i = true ∧ pz_e2 m i n pc ls st h = some r) ∨ (pz_ty i = false ∧ pz_e1 m i n pc ls st h = some r)) := by
  unfold pz_st at hs
  split at hs
  · rename_i i n hd
    refine ⟨i, n, hd, ?_⟩
    unfold pz_ex at hs
    by_cases ht : pz_ty i = true
    · rw [if_pos ht] at hs
      exact Or.inl ⟨ht, hs⟩
    · rw [if_neg ht] at hs
      exact Or.inr ⟨by simpa using ht, hs⟩
  · cases hs
theorem pz_st_le {m : PzM} {pc pc' : Nat} {ls st ls' st' : List Value} {h h' : PzH} (hs : pz_st m pc ls st h = some (.inl (pc', ls', st', h'))) : pz_le h h' := by
  obtain ⟨i, n, -, ⟨-, e⟩ | ⟨-, e⟩⟩ := pz_st_s hs
  · exact (pz_e2_g m i n st _ e).2
  · obtain ⟨a, b, c, q⟩ := pz_e1_g m i n pc ls st _ e
    cases q
    exact ⟨Nat.le_refl _, Nat.le_refl _, rfl, rfl⟩
theorem pz_st_rt {m : PzM} {pc : Nat} {ls st : List Value} {h h' : PzH} {v : Option Value} (hs : pz_st m pc ls st h = some (.inr (.inl (v, h')))) : h' = h := by
  obtain ⟨i, n, -, ⟨-, e⟩ | ⟨-, e⟩⟩ := pz_st_s hs
  · exact pz_e2_g m i n st _ e
  · obtain ⟨a, b, c, q⟩ := pz_e1_g m i n pc ls st _ e
    cases q
theorem pz_st_ca {m c : PzM} {pc pc' : Nat} {ls st as ls' rest : List Value} {h h' : PzH} (hs : pz_st m pc ls st h = some (.inr (.inr (c, as, h', pc', ls', rest)))) : h' = h ∧ pc' = pc + 3 ∧ ls' = ls := by
  obtain ⟨i, n, -, ⟨-, e⟩ | ⟨-, e⟩⟩ := pz_st_s hs
  · exact pz_e2_g m i n st _ e
  · obtain ⟨a, b, c, q⟩ := pz_e1_g m i n pc ls st _ e
    cases q
theorem pz_M_le : ∀ (d : Nat) (m : PzM) (as : List Value) (h : PzH) (Q : Option Value → PzH → Prop), pz_M d m as h Q → pz_M d m as h (fun v h' => Q v h' ∧ pz_le h h')
  | 0, _, _, _, _, h => h.elim
  | d + 1, m, as, h0, Q, h => by
    have hC := pz_M_mono d
    refine h (fun s => pz_W (pz_M d) m (fun v h' => Q v h' ∧ pz_le s.2.2.2 h') s) (fun s hs => pz_W_in hC ?_)
    unfold pz_SP at hs ⊢
    cases e : pz_st m s.1 s.2.1 s.2.2.1 s.2.2.2 with
    | none => rw [e] at hs; exact hs.elim
    | some r =>
      rw [e] at hs
      match r, hs, e with
      | .inl (pc', ls', st', h'), hs, e => exact pz_W_mono hC (fun v h2 q => ⟨q.1, pz_le_tr (pz_st_le e) q.2⟩) hs
      | .inr (.inl (v, h1)), hs, e =>
        have q := pz_st_rt e
        subst q
        exact ⟨hs, Nat.le_refl _, Nat.le_refl _, rfl, rfl⟩
      | .inr (.inr (c, as, h1, pc, ls, rest)), hs, e =>
        have q := (pz_st_ca e).1
        have hs2 := pz_M_le d _ _ _ _ hs
        exact hC _ _ _ _ _ (fun v h2 z => pz_W_mono hC (fun v3 h3 y => ⟨y.1, pz_le_tr (q ▸ z.2) y.2⟩) z.1) hs2
