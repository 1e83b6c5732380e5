/-! ===== rules: an instruction of the pure machine, as an equation ===== -/
theorem pz_cut_i (x : Int32) : pz_cut (.int x) = .int x := rfl
theorem pz_cut_r (x : Nat) : pz_cut (.ref x) = .ref x := rfl
theorem pz_cut_n : pz_cut .null = .null := rfl
theorem pz_cut_f (x : UInt32) : pz_cut (.float x) = .float x := rfl
theorem pz_cut_u (x : Nat) : pz_cut (.retAddr x) = .retAddr x := rfl
theorem pz_cut_o (x : Option Nat) : pz_cut (pz_rf x) = pz_rf x := by cases x <;> rfl
theorem pz_rf_s (x : Nat) : pz_rf (some x) = .ref x := rfl
theorem pz_rf_n : pz_rf none = .null := rfl
section RU
variable {d : Nat} {m : PzM} {pc pc' : Nat} {ls ls' st st' : List Value} {h : PzH} {Q : Option Value → PzH → Prop}
theorem ru_go {i : Instr} {n : Nat} (hd : decode m.2.2.1 pc = .ok (i, n)) (ht : pz_ty i = false) {h' : PzH} (e : pz_e1 m i n pc ls st h = some (.inl (pc', ls', st', h'))) : wp d m pc ls st h Q ↔ wp d m pc' ls' st' h' Q := wp_go (by rw [pz_st_of hd]; unfold pz_ex; rw [if_neg (by rw [ht]; decide)]; exact e)
theorem ru_2 {i : Instr} {n : Nat} (hd : decode m.2.2.1 pc = .ok (i, n)) (ht : pz_ty i = true) : pz_st m pc ls st h = pz_e2 m i n pc ls st h := by
  rw [pz_st_of hd]; unfold pz_ex; rw [if_pos ht]
/-- an instruction with a guard: what it needs, and where it goes on -/
theorem ru_gd {i : Instr} {n : Nat} (hd : decode m.2.2.1 pc = .ok (i, n)) (ht : pz_ty i = true) {p : Prop} [Decidable p] {h' : PzH} (e : pz_e2 m i n pc ls st h = pz_gd p (pz_go pc' ls' st' h')) : wp d m pc ls st h Q ↔ (p ∧ wp d m pc' ls' st' h' Q) := by
  by_cases hp : p
  · rw [wp_go (pc' := pc') (ls' := ls') (st' := st') (h' := h') (by rw [ru_2 hd ht, e]; unfold pz_gd; rw [if_pos hp]; rfl)]
    simp [hp]
  · constructor
    · intro q
      unfold wp at q
      rw [pz_W_iff (pz_M_mono d)] at q
      unfold pz_SP at q
      dsimp only at q
      rw [ru_2 hd ht, e] at q
      unfold pz_gd at q
      rw [if_neg hp] at q
      exact q.elim
    · exact fun q => absurd q.1 hp
theorem ru_ret {i : Instr} {n : Nat} (hd : decode m.2.2.1 pc = .ok (i, n)) (ht : pz_ty i = true) {v : Option Value} (e : pz_e2 m i n pc ls st h = some (.inr (.inl (v, h)))) : wp d m pc ls st h Q ↔ Q v h := wp_ret (by rw [ru_2 hd ht]; exact e)
/-- a boolean's return -/
theorem ru_retz {i : Instr} {n : Nat} (hd : decode m.2.2.1 pc = .ok (i, n)) (ht : pz_ty i = true) {v : Option Value} {p : Prop} [Decidable p] (e : pz_e2 m i n pc ls st h = pz_gd p (some (.inr (.inl (v, h))))) : wp d m pc ls st h Q ↔ (p ∧ Q v h) := by
  by_cases hp : p
  · rw [wp_ret (v := v) (h' := h) (by rw [ru_2 hd ht, e]; unfold pz_gd; rw [if_pos hp])]
    simp [hp]
  · constructor
    · intro q
      unfold wp at q
      rw [pz_W_iff (pz_M_mono d)] at q
      unfold pz_SP at q
      dsimp only at q
      rw [ru_2 hd ht, e] at q
      unfold pz_gd at q
      rw [if_neg hp] at q
      exact q.elim
    · exact fun q => absurd q.1 hp
theorem ru_call {i : Instr} {n : Nat} (hd : decode m.2.2.1 pc = .ok (i, n)) (ht : pz_ty i = true) {p : Prop} [Decidable p] {c : PzM} {as rest : List Value} (e : pz_e2 m i n pc ls st h = pz_gd p (some (.inr (.inr (c, as, h, pc', ls, rest))))) : wp d m pc ls st h Q ↔ (p ∧ pz_M d c as h (fun r h2 => wp d m pc' ls (r.toList ++ rest) h2 Q)) := by
  by_cases hp : p
  · rw [wp_call (c := c) (as := as) (h' := h) (pc' := pc') (ls' := ls) (rest := rest) (by rw [ru_2 hd ht, e]; unfold pz_gd; rw [if_pos hp])]
    simp [hp]
  · constructor
    · intro q
      unfold wp at q
      rw [pz_W_iff (pz_M_mono d)] at q
      unfold pz_SP at q
      dsimp only at q
      rw [ru_2 hd ht, e] at q
      unfold pz_gd at q
      rw [if_neg hp] at q
      exact q.elim
    · exact fun q => absurd q.1 hp
theorem ru_if {b : Bool} {t f : Nat} : wp d m (pz_jmp b t f) ls st h Q ↔ (if b = true then wp d m t ls st h Q else wp d m f ls st h Q) := by
  unfold pz_jmp
  cases b <;> simp
theorem ru_iconst {x : Int} {v : Int32} (hd : decode m.2.2.1 pc = .ok (.iconst x, 1)) (hv : Int32.ofInt x = v) (hp : pc + 1 = pc') : wp d m pc ls st h Q ↔ wp d m pc' ls (.int v :: st) h Q := by subst hv; subst hp; exact ru_go hd rfl rfl
theorem ru_bipush {x : Int} {v : Int32} (hd : decode m.2.2.1 pc = .ok (.bipush x, 2)) (hv : (Int8.ofInt x).toInt32 = v) (hp : pc + 2 = pc') : wp d m pc ls st h Q ↔ wp d m pc' ls (.int v :: st) h Q := by subst hv; subst hp; exact ru_go hd rfl rfl
theorem ru_sipush {x : Int} {v : Int32} (hd : decode m.2.2.1 pc = .ok (.sipush x, 3)) (hv : (Int16.ofInt x).toInt32 = v) (hp : pc + 3 = pc') : wp d m pc ls st h Q ↔ wp d m pc' ls (.int v :: st) h Q := by subst hv; subst hp; exact ru_go hd rfl rfl
theorem ru_lconst {x : Fin 2} {v : Int64} (hd : decode m.2.2.1 pc = .ok (.lconst x, 1)) (hv : Int64.ofNat (x : Nat) = v) (hp : pc + 1 = pc') : wp d m pc ls st h Q ↔ wp d m pc' ls (.long v :: st) h Q := by subst hv; subst hp; exact ru_go hd rfl rfl
theorem ru_gd2 {i : Instr} {n : Nat} (hd : decode m.2.2.1 pc = .ok (i, n)) (ht : pz_ty i = true) {p q : Prop} [Decidable p] [Decidable q] {h' : PzH} (e : pz_e2 m i n pc ls st h = pz_gd p (pz_gd q (pz_go pc' ls' st' h'))) : wp d m pc ls st h Q ↔ (p ∧ q ∧ wp d m pc' ls' st' h' Q) := by
  rw [ru_gd (p := p ∧ q) (pc' := pc') (ls' := ls') (st' := st') (h' := h') hd ht]
  · rw [and_assoc]
  · rw [e]
    unfold pz_gd
    by_cases hp : p <;> by_cases hq : q <;> simp [hp, hq]
theorem ru_put0 {x ci k a : Nat} {fin : Bool} {y : Int32} (hd : decode m.2.2.1 pc = .ok (.putfield x, 3)) (ht : pz_lk (pz_fTab m.1) x = some (ci, k, 0, fin)) (hf : fin = false ∨ (m.2.1.name = "<init>" ∧ ci = m.1)) (hp : pc + 3 = pc') : wp d m pc ls (.int y :: .ref a :: st) h Q ↔ (pz_C h a = ci ∧ wp d m pc' ls st (pz_sI h a k y) Q) := by
  subst hp
  rw [ru_gd (p := pz_C h a = ci ∧ (fin = false ∨ (m.2.1.name = "<init>" ∧ ci = m.1))) (pc' := pc + 3) (ls' := ls) (st' := st) (h' := pz_sI h a k y) hd rfl (by simp only [pz_e2, ht]; rfl)]
  simp [hf]
theorem ru_put1 {x ci k a : Nat} {fin : Bool} {y : Int32} (hd : decode m.2.2.1 pc = .ok (.putfield x, 3)) (ht : pz_lk (pz_fTab m.1) x = some (ci, k, 1, fin)) (hf : fin = false ∨ (m.2.1.name = "<init>" ∧ ci = m.1)) (hp : pc + 3 = pc') : wp d m pc ls (.int y :: .ref a :: st) h Q ↔ (pz_C h a = ci ∧ (y = 0 ∨ y = 1) ∧ wp d m pc' ls st (pz_sI h a k y) Q) := by
  subst hp
  rw [ru_gd2 (p := pz_C h a = ci ∧ (fin = false ∨ (m.2.1.name = "<init>" ∧ ci = m.1))) (q := y = 0 ∨ y = 1) (pc' := pc + 3) (ls' := ls) (st' := st) (h' := pz_sI h a k y) hd rfl (by simp only [pz_e2, ht]; rfl)]
  simp [hf]
theorem ru_put2 {x ci k a : Nat} {fin : Bool} {y : Int64} (hd : decode m.2.2.1 pc = .ok (.putfield x, 3)) (ht : pz_lk (pz_fTab m.1) x = some (ci, k, 2, fin)) (hf : fin = false ∨ (m.2.1.name = "<init>" ∧ ci = m.1)) (hp : pc + 3 = pc') : wp d m pc ls (.long y :: .ref a :: st) h Q ↔ (pz_C h a = ci ∧ wp d m pc' ls st (pz_sJ h a k y) Q) := by
  subst hp
  rw [ru_gd (p := pz_C h a = ci ∧ (fin = false ∨ (m.2.1.name = "<init>" ∧ ci = m.1))) (pc' := pc + 3) (ls' := ls) (st' := st) (h' := pz_sJ h a k y) hd rfl (by simp only [pz_e2, ht]; rfl)]
  simp [hf]
theorem ru_put3 {x ci k a : Nat} {fin : Bool} {y : Nat} (hd : decode m.2.2.1 pc = .ok (.putfield x, 3)) (ht : pz_lk (pz_fTab m.1) x = some (ci, k, 3, fin)) (hf : fin = false ∨ (m.2.1.name = "<init>" ∧ ci = m.1)) (hp : pc + 3 = pc') : wp d m pc ls (.ref y :: .ref a :: st) h Q ↔ (pz_C h a = ci ∧ wp d m pc' ls st (pz_sR h a k (some y)) Q) := by
  subst hp
  rw [ru_gd (p := pz_C h a = ci ∧ (fin = false ∨ (m.2.1.name = "<init>" ∧ ci = m.1))) (pc' := pc + 3) (ls' := ls) (st' := st) (h' := pz_sR h a k (some y)) hd rfl (by simp only [pz_e2, ht]; rfl)]
  simp [hf]
theorem ru_put3o {x ci k a : Nat} {fin : Bool} {y : Option Nat} (hd : decode m.2.2.1 pc = .ok (.putfield x, 3)) (ht : pz_lk (pz_fTab m.1) x = some (ci, k, 3, fin)) (hf : fin = false ∨ (m.2.1.name = "<init>" ∧ ci = m.1)) (hp : pc + 3 = pc') : wp d m pc ls (pz_rf y :: .ref a :: st) h Q ↔ (pz_C h a = ci ∧ wp d m pc' ls st (pz_sR h a k y) Q) := by
  subst hp
  cases y with
  | some y => exact ru_put3 hd ht hf rfl
  | none =>
    rw [ru_gd (p := pz_C h a = ci ∧ (fin = false ∨ (m.2.1.name = "<init>" ∧ ci = m.1))) (pc' := pc + 3) (ls' := ls) (st' := st) (h' := pz_sR h a k none) hd rfl (by simp only [pz_e2, ht]; rfl)]
    simp [hf]
theorem ru_reti {v : Int32} (hd : decode m.2.2.1 pc = .ok (.ireturn, 1)) (hr : m.2.2.2.2 = some .int) : wp d m pc ls [.int v] h Q ↔ Q (some (.int v)) h := by
  rw [ru_retz (p := m.2.2.2.2 = some .int ∨ (m.2.2.2.2 = some .boolean ∧ (v = 0 ∨ v = 1))) hd rfl rfl]
  simp [hr]
theorem ru_retb {v : Int32} (hd : decode m.2.2.1 pc = .ok (.ireturn, 1)) (hr : m.2.2.2.2 = some .boolean) : wp d m pc ls [.int v] h Q ↔ ((v = 0 ∨ v = 1) ∧ Q (some (.int v)) h) := by
  rw [ru_retz (p := m.2.2.2.2 = some .int ∨ (m.2.2.2.2 = some .boolean ∧ (v = 0 ∨ v = 1))) hd rfl rfl]
  simp [hr]
theorem ru_retl {v : Int64} (hd : decode m.2.2.1 pc = .ok (.lreturn, 1)) (hr : m.2.2.2.2 = some .long) : wp d m pc ls [.long v] h Q ↔ Q (some (.long v)) h := by
  rw [ru_retz (p := m.2.2.2.2 = some .long) hd rfl rfl]
  simp [hr]
theorem ru_retv (hd : decode m.2.2.1 pc = .ok (.return_, 1)) (hr : m.2.2.2.2 = none) : wp d m pc ls [] h Q ↔ Q none h := by
  rw [ru_retz (p := m.2.2.2.2 = none) hd rfl rfl]
  simp [hr]
theorem ru_reta {a : Nat} (hd : decode m.2.2.1 pc = .ok (.areturn, 1)) (hr : (∃ n, m.2.2.2.2 = some (.object n)) ∨ ∃ t, m.2.2.2.2 = some (.array t)) : wp d m pc ls [.ref a] h Q ↔ Q (some (.ref a)) h := by
  refine ru_ret hd rfl ?_
  rcases hr with ⟨n, hr⟩ | ⟨n, hr⟩ <;> simp only [pz_e2, hr] <;> rfl
theorem ru_retn (hd : decode m.2.2.1 pc = .ok (.areturn, 1)) (hr : (∃ n, m.2.2.2.2 = some (.object n)) ∨ ∃ t, m.2.2.2.2 = some (.array t)) : wp d m pc ls [.null] h Q ↔ Q (some .null) h := by
  refine ru_ret hd rfl ?_
  rcases hr with ⟨n, hr⟩ | ⟨n, hr⟩ <;> simp only [pz_e2, hr] <;> rfl
theorem ru_reto {o : Option Nat} (hd : decode m.2.2.1 pc = .ok (.areturn, 1)) (hr : (∃ n, m.2.2.2.2 = some (.object n)) ∨ ∃ t, m.2.2.2.2 = some (.array t)) : wp d m pc ls [pz_rf o] h Q ↔ Q (some (pz_rf o)) h := by
  cases o with
  | none => exact ru_retn hd hr
  | some a => exact ru_reta hd hr
theorem pz_pa_in {k : List Value → List Value → Option PzR} {rest : List Value} : ∀ (xs acc : List Value), pz_pa xs.length acc (xs ++ rest) k = k (xs.reverse ++ acc) rest
  | [], acc => rfl
  | v :: xs, acc => by
    show pz_pa xs.length (v :: acc) (xs ++ rest) k = _
    rw [pz_pa_in xs (v :: acc)]
    simp
theorem ru_virt {x k b : Nat} {c : PzM} {ps rest : List Value} (hd : decode m.2.2.1 pc = .ok (.invokevirtual x, 3)) (ht : pz_lk (pz_cTab m.1) x = some (0, c, k)) (hk : ps.length = k) (h8 : (rest.map fun v => v.category).sum ≤ 8) (har : (pz_ar (.ref b :: ps)).length ≤ c.2.2.2.1) (hst : ps.reverse ++ .ref b :: rest = st) (hp : pc + 3 = pc') : wp d m pc ls st h Q ↔ (pz_C h b = c.1 ∧ pz_M d c (.ref b :: ps) h (fun r h2 => wp d m pc' ls (r.toList ++ rest) h2 Q)) := by
  subst hp; subst hst; subst hk
  rw [ru_call (p := pz_C h b = c.1 ∧ (rest.map fun v => v.category).sum ≤ 8 ∧ (pz_ar (.ref b :: ps)).length ≤ c.2.2.2.1) (pc' := pc + 3) (c := c) (as := .ref b :: ps) (rest := rest) hd rfl]
  · simp [h8, har]
  · simp only [pz_e2, ht]
    show pz_pa (ps.length + 1) [] (ps.reverse ++ .ref b :: rest) _ = _
    have e1 := pz_pa_in (rest := rest) (k := fun as rest => (match as with
      | .ref b :: _ => pz_gd (pz_C h b = c.1 ∧ (rest.map fun v => v.category).sum ≤ 8 ∧ (pz_ar as).length ≤ c.2.2.2.1) (some (.inr (.inr (c, as, h, pc + 3, ls, rest))))
      | _ => none)) (ps.reverse ++ [.ref b]) []
    simp only [List.length_append, List.length_reverse, List.length_cons, List.length_nil, List.append_assoc, List.cons_append, List.nil_append, List.reverse_append, List.reverse_cons, List.reverse_nil, List.reverse_reverse, List.append_nil] at e1
    exact e1
theorem ru_stat {x k kd : Nat} {c : PzM} {ps rest : List Value} (hd : decode m.2.2.1 pc = .ok (.invokestatic x, 3)) (ht : pz_lk (pz_cTab m.1) x = some (kd, c, k)) (hkd : kd = 1 ∨ kd = 8) (hk : ps.length = k) (h8 : (rest.map fun v => v.category).sum ≤ 8) (har : (pz_ar ps).length ≤ c.2.2.2.1) (hst : ps.reverse ++ rest = st) (hp : pc + 3 = pc') : wp d m pc ls st h Q ↔ pz_M d c ps h (fun r h2 => wp d m pc' ls (r.toList ++ rest) h2 Q) := by
  subst hp; subst hst; subst hk
  rw [ru_call (p := (rest.map fun v => v.category).sum ≤ 8 ∧ (pz_ar ps).length ≤ c.2.2.2.1) (pc' := pc + 3) (c := c) (as := ps) (rest := rest) hd rfl]
  · simp [h8, har]
  · have e1 := pz_pa_in (rest := rest) (k := fun as rest => pz_gd ((rest.map fun v => v.category).sum ≤ 8 ∧ (pz_ar as).length ≤ c.2.2.2.1) (some (.inr (.inr (c, as, h, pc + 3, ls, rest))))) ps.reverse []
    simp only [List.length_reverse, List.reverse_reverse, List.append_nil] at e1
    rcases hkd with rfl | rfl
    · simp only [pz_e2, ht]
      exact e1
    · simp only [pz_e2, ht]
      exact e1
theorem ru_init {x k kd b : Nat} {c : PzM} {ps rest : List Value} (hd : decode m.2.2.1 pc = .ok (.invokespecial x, 3)) (ht : pz_lk (pz_cTab m.1) x = some (kd, c, k)) (hkd : kd = 2 ∨ kd = 7) (hk : ps.length = k) (h8 : (rest.map fun v => v.category).sum ≤ 8) (har : (pz_ar (.ref b :: ps)).length ≤ c.2.2.2.1) (hst : ps.reverse ++ .ref b :: rest = st) (hp : pc + 3 = pc') : wp d m pc ls st h Q ↔ pz_M d c (.ref b :: ps) h (fun r h2 => wp d m pc' ls (r.toList ++ rest) h2 Q) := by
  subst hp; subst hst; subst hk
  rw [ru_call (p := (rest.map fun v => v.category).sum ≤ 8 ∧ (pz_ar (.ref b :: ps)).length ≤ c.2.2.2.1) (pc' := pc + 3) (c := c) (as := .ref b :: ps) (rest := rest) hd rfl]
  · simp [h8, har]
  · have e1 := pz_pa_in (rest := rest) (k := fun as rest => (match as with
      | .ref _ :: _ => pz_gd ((rest.map fun v => v.category).sum ≤ 8 ∧ (pz_ar as).length ≤ c.2.2.2.1) (some (.inr (.inr (c, as, h, pc + 3, ls, rest))))
      | _ => none)) (ps.reverse ++ [.ref b]) []
    simp only [List.length_append, List.length_reverse, List.length_cons, List.length_nil, List.append_assoc, List.cons_append, List.nil_append, List.reverse_append, List.reverse_cons, List.reverse_nil, List.reverse_reverse, List.append_nil] at e1
    rcases hkd with rfl | rfl
    · simp only [pz_e2, ht]
      exact e1
    · simp only [pz_e2, ht]
      exact e1
theorem ru_obj {x k a : Nat} {c : PzM} (hd : decode m.2.2.1 pc = .ok (.invokespecial x, 3)) (ht : pz_lk (pz_cTab m.1) x = some (3, c, k)) (h8 : (st.map fun v => v.category).sum ≤ 8) (hp : pc + 3 = pc') : wp d m pc ls (.ref a :: st) h Q ↔ wp d m pc' ls st h Q := by
  subst hp
  rw [ru_gd (p := (st.map fun v => v.category).sum ≤ 8) (pc' := pc + 3) (ls' := ls) (st' := st) (h' := h) hd rfl (by simp only [pz_e2, ht]; rfl)]
  simp [h8]
theorem ru_min {x k : Nat} {c : PzM} {a b : Int32} (hd : decode m.2.2.1 pc = .ok (.invokestatic x, 3)) (ht : pz_lk (pz_cTab m.1) x = some (9, c, k)) (h8 : (st.map fun v => v.category).sum ≤ 8) (hp : pc + 3 = pc') : wp d m pc ls (.int b :: .int a :: st) h Q ↔ wp d m pc' ls (.int (pz_min a b) :: st) h Q := by
  subst hp
  rw [ru_gd (p := (st.map fun v => v.category).sum ≤ 8) (pc' := pc + 3) (ls' := ls) (st' := .int (pz_min a b) :: st) (h' := h) hd rfl (by simp only [pz_e2, ht]; rfl)]
  simp [h8]
theorem ru_max {x k : Nat} {c : PzM} {a b : Int32} (hd : decode m.2.2.1 pc = .ok (.invokestatic x, 3)) (ht : pz_lk (pz_cTab m.1) x = some (10, c, k)) (h8 : (st.map fun v => v.category).sum ≤ 8) (hp : pc + 3 = pc') : wp d m pc ls (.int b :: .int a :: st) h Q ↔ wp d m pc' ls (.int (pz_max a b) :: st) h Q := by
  subst hp
  rw [ru_gd (p := (st.map fun v => v.category).sum ≤ 8) (pc' := pc + 3) (ls' := ls) (st' := .int (pz_max a b) :: st) (h' := h) hd rfl (by simp only [pz_e2, ht]; rfl)]
  simp [h8]
theorem ru_copy {x k s0 dd : Nat} {c : PzM} {n dp sp : Int32} (hd : decode m.2.2.1 pc = .ok (.invokestatic x, 3)) (ht : pz_lk (pz_cTab m.1) x = some (4, c, k)) (h8 : (st.map fun v => v.category).sum ≤ 8) (hp : pc + 3 = pc') : wp d m pc ls (.int n :: .int dp :: .ref dd :: .int sp :: .ref s0 :: st) h Q ↔ ((pz_C h s0 = pz_C h dd ∧ (pz_C h dd = 100 ∨ pz_C h dd = 101) ∧ ¬ sp < 0 ∧ ¬ dp < 0 ∧ ¬ n < 0 ∧ sp.toNatClampNeg + n.toNatClampNeg ≤ pz_L h s0 ∧ dp.toNatClampNeg + n.toNatClampNeg ≤ pz_L h dd) ∧ wp d m pc' ls st (pz_sA h dd (va_cpy (pz_I h s0) (pz_I h dd) sp.toNatClampNeg dp.toNatClampNeg n.toNatClampNeg)) Q) := by
  subst hp
  rw [ru_gd (p := pz_C h s0 = pz_C h dd ∧ (pz_C h dd = 100 ∨ pz_C h dd = 101) ∧ ¬ sp < 0 ∧ ¬ dp < 0 ∧ ¬ n < 0 ∧ sp.toNatClampNeg + n.toNatClampNeg ≤ pz_L h s0 ∧ dp.toNatClampNeg + n.toNatClampNeg ≤ pz_L h dd ∧ (st.map fun v => v.category).sum ≤ 8) (pc' := pc + 3) (ls' := ls) (st' := st) (h' := pz_sA h dd (va_cpy (pz_I h s0) (pz_I h dd) sp.toNatClampNeg dp.toNatClampNeg n.toNatClampNeg)) hd rfl (by simp only [pz_e2, ht]; rfl)]
  simp [h8, and_assoc]
theorem ru_nullo {o : Option Nat} {off : Int} {t : Nat} (hd : decode m.2.2.1 pc = .ok (.ifnull off, 3)) (ht : (pc : Int) + off = (t : Int)) (hp : pc + 3 = pc') : wp d m pc ls (pz_rf o :: st) h Q ↔ (if o = none then wp d m t ls st h Q else wp d m pc' ls st h Q) := by
  subst hp
  have e0 : ((pc : Int) + off).toNat = t := by omega
  have e1 : (0 : Int) ≤ (pc : Int) + off := by omega
  cases o with
  | none =>
    rw [if_pos rfl]
    exact ru_go hd rfl (by show pz_gd (3 = 3) (pz_br pc off fun t => pz_go t ls st h) = _; unfold pz_br pz_gd; rw [if_pos rfl, if_pos e1, e0]; rfl)
  | some a =>
    rw [if_neg (by intro q; cases q)]
    exact ru_go hd rfl rfl
theorem ru_nonullo {o : Option Nat} {off : Int} {t : Nat} (hd : decode m.2.2.1 pc = .ok (.ifnonnull off, 3)) (ht : (pc : Int) + off = (t : Int)) (hp : pc + 3 = pc') : wp d m pc ls (pz_rf o :: st) h Q ↔ (if o = none then wp d m pc' ls st h Q else wp d m t ls st h Q) := by
  subst hp
  have e0 : ((pc : Int) + off).toNat = t := by omega
  have e1 : (0 : Int) ≤ (pc : Int) + off := by omega
  cases o with
  | none =>
    rw [if_pos rfl]
    exact ru_go hd rfl rfl
  | some a =>
    rw [if_neg (by intro q; cases q)]
    exact ru_go hd rfl (by show pz_gd (3 = 3) (pz_br pc off fun t => pz_go t ls st h) = _; unfold pz_br pz_gd; rw [if_pos rfl, if_pos e1, e0]; rfl)
theorem ru_ifc {cd : Jvm.ClassFile.Cond} {x : Int32} {off : Int} {t : Nat} (hd : decode m.2.2.1 pc = .ok (.ifCond cd off, 3)) (ht : (pc : Int) + off = (t : Int)) (hp : pc + 3 = pc') : wp d m pc ls (.int x :: st) h Q ↔ (if pz_if cd x = true then wp d m t ls st h Q else wp d m pc' ls st h Q) := by
  subst hp
  have e0 : ((pc : Int) + off).toNat = t := by omega
  have e1 : (0 : Int) ≤ (pc : Int) + off := by omega
  rw [← ru_if]
  exact ru_go hd rfl (by show pz_gd (3 = 3) (pz_br pc off fun t => pz_go (pz_jmp (pz_if cd x) t (pc + 3)) ls st h) = _; unfold pz_br pz_gd; rw [if_pos rfl, if_pos e1, e0]; rfl)
theorem ru_icc {cd : Jvm.ClassFile.Cond} {x y : Int32} {off : Int} {t : Nat} (hd : decode m.2.2.1 pc = .ok (.if_icmp cd off, 3)) (ht : (pc : Int) + off = (t : Int)) (hp : pc + 3 = pc') : wp d m pc ls (.int y :: .int x :: st) h Q ↔ (if pz_ic cd x y = true then wp d m t ls st h Q else wp d m pc' ls st h Q) := by
  subst hp
  have e0 : ((pc : Int) + off).toNat = t := by omega
  have e1 : (0 : Int) ≤ (pc : Int) + off := by omega
  rw [← ru_if]
  exact ru_go hd rfl (by show pz_gd (3 = 3) (pz_br pc off fun t => pz_go (pz_jmp (pz_ic cd x y) t (pc + 3)) ls st h) = _; unfold pz_br pz_gd; rw [if_pos rfl, if_pos e1, e0]; rfl)
theorem ru_goto {off : Int} {t : Nat} (hd : decode m.2.2.1 pc = .ok (.goto off, 3)) (ht : (pc : Int) + off = (t : Int)) : wp d m pc ls st h Q ↔ wp d m t ls st h Q := by
  have e0 : ((pc : Int) + off).toNat = t := by omega
  have e1 : (0 : Int) ≤ (pc : Int) + off := by omega
  exact ru_go hd rfl (by show pz_gd (3 = 3) (pz_br pc off fun t => pz_go t ls st h) = _; unfold pz_br pz_gd; rw [if_pos rfl, if_pos e1, e0]; rfl)
/-- where a switch goes -/
def pz_sw (pc : Nat) (dflt lo hi : Int) (offs : Array Int) (x : Int32) : Nat := if x.toInt < lo ∨ hi < x.toInt then ((pc : Int) + dflt).toNat else ((pc : Int) + (offs[(x.toInt - lo).toNat]?).getD 0).toNat
theorem ru_sw {dflt lo hi : Int} {offs : Array Int} {n : Nat} {x : Int32} (hd : decode m.2.2.1 pc = .ok (.tableswitch dflt lo hi offs, n)) (h1 : (0 : Int) ≤ (pc : Int) + dflt) (h2 : ∀ o ∈ offs, (0 : Int) ≤ (pc : Int) + o) (h3 : (hi - lo).toNat < offs.size) : wp d m pc ls (.int x :: st) h Q ↔ wp d m (pz_sw pc dflt lo hi offs x) ls st h Q := by
  refine ru_go hd rfl ?_
  unfold pz_sw
  show (if x.toInt < lo ∨ hi < x.toInt then pz_br pc dflt fun t => pz_go t ls st h else (match offs[(x.toInt - lo).toNat]? with
    | some off => pz_br pc off fun t => pz_go t ls st h
    | none => none)) = _
  by_cases hq : x.toInt < lo ∨ hi < x.toInt
  · rw [if_pos hq, if_pos hq]
    unfold pz_br pz_gd
    rw [if_pos h1]
    rfl
  · rw [if_neg hq, if_neg hq]
    have hlt : (x.toInt - lo).toNat < offs.size := by omega
    rw [Array.getElem?_eq_getElem hlt]
    show pz_br pc _ _ = _
    unfold pz_br pz_gd
    rw [if_pos (h2 _ (Array.getElem_mem hlt))]
    rfl
theorem ru_if_eq {x : Int32} {off : Int} {t : Nat} (hd : decode m.2.2.1 pc = .ok (.ifCond .eq off, 3)) (ht : (pc : Int) + off = (t : Int)) (hp : pc + 3 = pc') : wp d m pc ls (.int x :: st) h Q ↔ (if x = 0 then wp d m t ls st h Q else wp d m pc' ls st h Q) := by rw [ru_ifc hd ht hp]; simp only [pz_if, decide_eq_true_eq]
theorem ru_if_ne {x : Int32} {off : Int} {t : Nat} (hd : decode m.2.2.1 pc = .ok (.ifCond .ne off, 3)) (ht : (pc : Int) + off = (t : Int)) (hp : pc + 3 = pc') : wp d m pc ls (.int x :: st) h Q ↔ (if ¬ x = 0 then wp d m t ls st h Q else wp d m pc' ls st h Q) := by rw [ru_ifc hd ht hp]; simp only [pz_if, decide_eq_true_eq]
theorem ru_if_lt {x : Int32} {off : Int} {t : Nat} (hd : decode m.2.2.1 pc = .ok (.ifCond .lt off, 3)) (ht : (pc : Int) + off = (t : Int)) (hp : pc + 3 = pc') : wp d m pc ls (.int x :: st) h Q ↔ (if x < 0 then wp d m t ls st h Q else wp d m pc' ls st h Q) := by rw [ru_ifc hd ht hp]; simp only [pz_if, decide_eq_true_eq]
theorem ru_if_ge {x : Int32} {off : Int} {t : Nat} (hd : decode m.2.2.1 pc = .ok (.ifCond .ge off, 3)) (ht : (pc : Int) + off = (t : Int)) (hp : pc + 3 = pc') : wp d m pc ls (.int x :: st) h Q ↔ (if 0 ≤ x then wp d m t ls st h Q else wp d m pc' ls st h Q) := by rw [ru_ifc hd ht hp]; simp only [pz_if, decide_eq_true_eq]
theorem ru_if_gt {x : Int32} {off : Int} {t : Nat} (hd : decode m.2.2.1 pc = .ok (.ifCond .gt off, 3)) (ht : (pc : Int) + off = (t : Int)) (hp : pc + 3 = pc') : wp d m pc ls (.int x :: st) h Q ↔ (if 0 < x then wp d m t ls st h Q else wp d m pc' ls st h Q) := by rw [ru_ifc hd ht hp]; simp only [pz_if, decide_eq_true_eq]
theorem ru_if_le {x : Int32} {off : Int} {t : Nat} (hd : decode m.2.2.1 pc = .ok (.ifCond .le off, 3)) (ht : (pc : Int) + off = (t : Int)) (hp : pc + 3 = pc') : wp d m pc ls (.int x :: st) h Q ↔ (if x ≤ 0 then wp d m t ls st h Q else wp d m pc' ls st h Q) := by rw [ru_ifc hd ht hp]; simp only [pz_if, decide_eq_true_eq]
theorem ru_ic_eq {x y : Int32} {off : Int} {t : Nat} (hd : decode m.2.2.1 pc = .ok (.if_icmp .eq off, 3)) (ht : (pc : Int) + off = (t : Int)) (hp : pc + 3 = pc') : wp d m pc ls (.int y :: .int x :: st) h Q ↔ (if x = y then wp d m t ls st h Q else wp d m pc' ls st h Q) := by rw [ru_icc hd ht hp]; simp only [pz_ic, decide_eq_true_eq]
theorem ru_ic_ne {x y : Int32} {off : Int} {t : Nat} (hd : decode m.2.2.1 pc = .ok (.if_icmp .ne off, 3)) (ht : (pc : Int) + off = (t : Int)) (hp : pc + 3 = pc') : wp d m pc ls (.int y :: .int x :: st) h Q ↔ (if ¬ x = y then wp d m t ls st h Q else wp d m pc' ls st h Q) := by rw [ru_icc hd ht hp]; simp only [pz_ic, decide_eq_true_eq]
theorem ru_ic_lt {x y : Int32} {off : Int} {t : Nat} (hd : decode m.2.2.1 pc = .ok (.if_icmp .lt off, 3)) (ht : (pc : Int) + off = (t : Int)) (hp : pc + 3 = pc') : wp d m pc ls (.int y :: .int x :: st) h Q ↔ (if x < y then wp d m t ls st h Q else wp d m pc' ls st h Q) := by rw [ru_icc hd ht hp]; simp only [pz_ic, decide_eq_true_eq]
theorem ru_ic_ge {x y : Int32} {off : Int} {t : Nat} (hd : decode m.2.2.1 pc = .ok (.if_icmp .ge off, 3)) (ht : (pc : Int) + off = (t : Int)) (hp : pc + 3 = pc') : wp d m pc ls (.int y :: .int x :: st) h Q ↔ (if y ≤ x then wp d m t ls st h Q else wp d m pc' ls st h Q) := by rw [ru_icc hd ht hp]; simp only [pz_ic, decide_eq_true_eq]
theorem ru_ic_gt {x y : Int32} {off : Int} {t : Nat} (hd : decode m.2.2.1 pc = .ok (.if_icmp .gt off, 3)) (ht : (pc : Int) + off = (t : Int)) (hp : pc + 3 = pc') : wp d m pc ls (.int y :: .int x :: st) h Q ↔ (if y < x then wp d m t ls st h Q else wp d m pc' ls st h Q) := by rw [ru_icc hd ht hp]; simp only [pz_ic, decide_eq_true_eq]
theorem ru_ic_le {x y : Int32} {off : Int} {t : Nat} (hd : decode m.2.2.1 pc = .ok (.if_icmp .le off, 3)) (ht : (pc : Int) + off = (t : Int)) (hp : pc + 3 = pc') : wp d m pc ls (.int y :: .int x :: st) h Q ↔ (if x ≤ y then wp d m t ls st h Q else wp d m pc' ls st h Q) := by rw [ru_icc hd ht hp]; simp only [pz_ic, decide_eq_true_eq]
end RU
