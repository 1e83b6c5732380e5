/-! ===== the tables' words in every method ===== -/
def pz_ok (w : Cond) : Bool := goodWord w || (match w with
  | .methodLinkNest _ _ _ _ => true
  | .arrayOver (.object _) => true
  | _ => false)
def pz_WL : List Cond := lw_tbl.filter pz_ok
theorem pz_WL_in {w : Cond} (h : w ∈ lw_tbl) (hk : pz_ok w = true) : w ∈ pz_WL := List.mem_filter.mpr ⟨h, hk⟩
theorem pz_keep {w : Cond} (hk : pz_ok w = true) {args a' : Array Value} {s U : State} (hW : s.WarmedH U.vm) (h : w.before args s = true) : w.before a' U = true := by
  unfold pz_ok at hk
  rcases Bool.or_eq_true _ _ ▸ hk with h1 | h1
  · exact word_at hW (good_of_word h1) h
  · split at h1
    · exact va_Nw.use rfl (va_Nw.warmM hW (va_Nw.of rfl h))
    · exact va_AO.use (va_AO.moved hW.alike (va_AO.of h))
    · cases h1
/-! ===== instructions over cells ===== -/
theorem pz_lv_fv (base : Nat) (sa sb : Nat → Nat) (h : PzH) (a k kd : Nat) : pz_lv base sa (pz_fv h a k kd) = pz_lv base sb (pz_fv h a k kd) := by
  unfold pz_fv
  split
  · rfl
  · rfl
  · rfl
  · unfold pz_rf
    split <;> rfl
theorem pz_u_ok (C : String) (T : u_T) (k : Nat) : pz_ok (u_lay C T k) = true := by
  unfold u_lay
  split <;> rfl
section SND2
variable {p : Program} {l : Launch} {e : Env} {R : Room} {s : State} {mid : MethodId} {args : Array Value} {below : List Frame} {meth : Method} {c : Code} {H : Heap} {locs : List Loc} {cells slots : Nat} {Q : State → Prop}
variable {m : PzM} {base : Nat} {sa : Nat → Nat} {mls : Array Slot} {pc n : Nat} {ls st : List Value} {h : PzH} {r : PzR} {i : Instr} {D : va_G} {cT : Nat → ClassId}
/-- what stays the same all through a method -/
def pz_Cx (m : PzM) (D : va_G) (cT : Nat → ClassId) (base : Nat) (p : Program) (s : State) (mid : MethodId) (args : Array Value) (meth : Method) (c : Code) : Prop :=
  p.tables.exec = Jvm.exec ∧ c.code = m.2.2.1 ∧ c.maxLocals = m.2.2.2.1 ∧ s.vm.findClass (pz_Rn m.1) = some mid.cls ∧ (∀ w ∈ pz_WL, w.before args s = true) ∧ va_K D vwCl (pz_tys cT) s ∧ base ≤ s.heap.size ∧ meth.locks = false ∧ meth.sig.returnType = m.2.2.2.2 ∧ (m.2.1.name = "<init>" → meth.name = "<init>")
theorem pz_Cx.w (hc : pz_Cx m D cT base p s mid args meth c) {w : Cond} (h : w ∈ lw_tbl) (hk : pz_ok w = true) : w.before args s = true := hc.2.2.2.2.1 w (pz_WL_in h hk)
theorem pz_Cx.lay (_ : pz_Cx m D cT base p s mid args meth c) {ci : Nat} {q : vw_C} (hq : vwCl[ci]? = some q) : ∀ w ∈ u_ws q.1 q.2.1 q.2.2, w ∈ pz_WL := by
  intro w hw
  obtain ⟨-, -, -, h4, -⟩ := pz_clOK ci q hq
  refine pz_WL_in (h4 w hw) ?_
  obtain ⟨k, -, rfl⟩ := List.mem_map.mp hw
  exact pz_u_ok _ _ _
/-- heaps and frame at a place -/
def pz_At (D : va_G) (cT : Nat → ClassId) (base : Nat) (sa : Nat → Nat) (m : PzM) (s : State) (h : PzH) (ls : List Value) (H : Heap) (locs : List Loc) (mls : Array Slot) : Prop := pz_HH D cT base h H ∧ va_S (fun q => base ≤ q) s.heap H locs ∧ pz_lh base sa m.2.2.2.1 ls mls
theorem pz_obj (hH : pz_HH D cT base h H) {a ci : Nat} {q : vw_C} (hC : pz_C h a = ci) (hq : vwCl[ci]? = some q) : (pz_ws base cT h)[a]? = some (base + a, .inr (ci, (List.range (pz_nf ci)).map (fun k => pz_lv base (fun _ => 0) (pz_fv h a k (pz_fk ci k))))) := by
  have hl : ci < 11 := (pz_clOK ci q hq).1
  rw [hH.at (by rw [hC]; omega), pz_ce_o hC (by omega)]
theorem pz_prim (hH : pz_HH D cT base h H) {a t : Nat} (hC : pz_C h a = t) (h1 : 100 ≤ t) (h2 : t < 110) : (pz_ws base cT h)[a]? = some (base + a, .inl (cT t, pz_L h a, .inl (pz_I h a))) := by
  rw [hH.at (by rw [hC]; omega), pz_ce_p hC h1 h2]
theorem pz_refs (hH : pz_HH D cT base h H) {a t : Nat} (hC : pz_C h a = t) (h1 : 110 ≤ t) (h2 : t < 999) : (pz_ws base cT h)[a]? = some (base + a, .inl (cT t, pz_L h a, .inr (.inr (.inr (.inr (fun i => (pz_R h a i).map (fun q => base + q))))))) := by
  rw [hH.at (by rw [hC]; omega), pz_ce_r hC h1]
/-- one cell is written: the machine's heap behind it -/
theorem pz_HH.put (hH : pz_HH D cT base h H) {h' : PzH} {H' : Heap} {a : Nat} {x0 x : va_E} (hx0 : (pz_ws base cT h)[a]? = some (base + a, x0)) (hN : pz_N h' = pz_N h) (hC : pz_C h' = pz_C h) (ho : ∀ b, b ≠ a → pz_ce base cT h' b = pz_ce base cT h b) (hx : pz_ce base cT h' a = x) (hb : ∀ b, pz_C h' b = 101 → ∀ i, fits .byte (.int (pz_I h' b i)) = true)
    (hz : H'.size = H.size) (hat : va_at D vwCl (base + a, x) H') (oq : ∀ q : Nat, q ≠ base + a → H'[q]? = H[q]?) : pz_HH D cT base h' H' := by
  refine ⟨by rw [hz, hN]; exact hH.1, ?_, fun b hb2 => by rw [hC]; exact hH.2.2.1 b (by rw [← hN]; exact hb2), hb⟩
  rw [← pz_ws_set hN ho hx]
  exact hH.2.1.set (pz_ws_D) hx0 hat oq
theorem pz_S_put {A : Nat → Prop} {H0 H' : Heap} (hS : va_S A H0 H locs) {a k : Nat} (hz : H'.size = H.size) (oq : ∀ q : Nat, q ≠ a → H'[q]? = H[q]?) (ha : A a) : va_S A H0 H' (locs ++ [⟨a, k⟩]) := hS.put hz oq ha
theorem pz_map_set {α : Type} (f : Nat → α) (n k : Nat) (v : α) : ((List.range n).map f).set k v = (List.range n).map (fun j => if j = k then v else f j) := by
  apply List.ext_getElem?
  intro j
  rw [List.getElem?_set]
  by_cases hj : j < n
  · rw [List.getElem?_map, List.getElem?_map, List.getElem?_range hj]
    by_cases hk : k = j
    · subst hk
      rw [if_pos rfl, if_pos (by simpa using hj)]
      simp
    · rw [if_neg hk]
      simp
      intro q
      exact absurd q.symm hk
  · have e1 : ((List.range n).map f)[j]? = none := List.getElem?_eq_none (by simp; omega)
    have e2 : ((List.range n).map (fun j => if j = k then v else f j))[j]? = none := List.getElem?_eq_none (by simp; omega)
    rw [e1, e2]
    by_cases hk : k = j
    · rw [if_pos hk, if_neg (by simp; omega)]
    · rw [if_neg hk]
set_option maxHeartbeats 4000000 in
/-- a field is written -/
theorem pz_putf (hc : pz_Cx m D cT base p s mid args meth c) (hA : pz_At D cT base sa m s h ls H locs mls) {x a ci k kd : Nat} {fin : Bool} {v : Value} {rest : List Value} {h' : PzH} (ht : pz_lk (pz_fTab m.1) x = some (ci, k, kd, fin)) (hC : pz_C h a = ci) (hfin : fin = false ∨ (m.2.1.name = "<init>" ∧ ci = m.1)) (hd : decode m.2.2.1 pc = .ok (.putfield x, 3))
    (hn : narrow (pz_tyf ci k) (pz_lv base sa v) = pz_lv base sa v) (hf : fits (pz_tyf ci k) (pz_lv base sa v) = true) (hN : pz_N h' = pz_N h) (hCC : pz_C h' = pz_C h) (hL : pz_L h' = pz_L h) (hI : ∀ b, b ≠ a → pz_I h' b = pz_I h b) (hR : ∀ b, b ≠ a → pz_R h' b = pz_R h b) (hJ : ∀ b, b ≠ a → pz_J h' b = pz_J h b) (hfv : ∀ j, pz_fv h' a j (pz_fk ci j) = if j = k then v else pz_fv h a j (pz_fk ci j)) (hv : pz_lv base sa v = pz_lv base (fun _ => 0) v)
    (kk : ∀ (H' : Heap) (locs' : List Loc), pz_At D cT base sa m s h' ls H' locs' mls → W p l e R s mid args below meth c H' locs' cells slots Q (F0 mid (pc + 3) mls (rest.map (pz_lv base sa)))) : W p l e R s mid args below meth c H locs cells slots Q (F0 mid pc mls ((v :: .ref a :: rest).map (pz_lv base sa))) := by
  obtain ⟨hH, hS, hl⟩ := hA
  obtain ⟨hx, hb, hml, hown, hts, hK, hbs, hlk, hr, hnm⟩ := id hc
  obtain ⟨⟨C, T, N⟩, hq, hk, hkd, hfi, hw⟩ := pz_fOK m.1 _ (pz_lk_mem _ ht)
  obtain ⟨c1, c2, c3, c4, c5, c6, c7, c8, c9, c10, c11⟩ := pz_clOK ci _ hq
  dsimp only at hq hk hkd hfi hw c2 c3 c4 c5 c6 c7 c8 c9 c10
  have hlay := hc.lay hq
  have he := pz_obj hH hC hq
  have hlink := hc.w hw rfl
  have hap := va_apart (own := pz_Rn m.1) hts hlay (pz_tyf ci) c5 c6 hK hq
  obtain ⟨r, h1, cell, q1, q2, q3, q4⟩ := hH.2.1 a _ he
  have hrr : r = (C, T, N) := Option.some.inj (h1.symm.trans hq)
  subst hrr
  obtain ⟨hSl, hfc, kC, hkC, hkind⟩ := hK.1 ci _ hq
  obtain ⟨cf, kf, fi, f, hi, hsl⟩ := hSl k hk
  have hla := hts _ (hlay _ (u_in_lay hk))
  have hst := (u_facts hfc hkC (u_lays hts hlay hk) hi).1
  have hsame : s.fieldFound? C (T k).2.1 (T k).2.2.1 = some (cf, kf, fi, f) := by rw [← c8 k hk]; exact hi
  have fin1 : ∀ H' : Heap, H'[base + a]? = some (cell.setSlot f.slot (pz_lv base sa v)) → H'.size = H.size → (∀ q, q ≠ base + a → H'[q]? = H[q]?) → ∀ locs', va_S (fun q => base ≤ q) s.heap H' locs' → pz_At D cT base sa m s h' ls H' locs' mls := by
    intro H' e1 e2 e3 locs' hS'
    rw [hsl] at e1
    refine ⟨hH.put he hN hCC ?_ (x := .inr (ci, ((List.range (pz_nf ci)).map (fun k => pz_lv base (fun _ => 0) (pz_fv h a k (pz_fk ci k)))).set k (pz_lv base sa v))) ?_ ?_ e2 ?_ e3, hS', hl⟩
    · intro b hb
      unfold pz_ce
      rw [hCC, hL, hI b hb, hR b hb]
      unfold pz_fv
      rw [hI b hb, hR b hb, hJ b hb]
    · rw [pz_ce_o (h := h') (ci := ci) (by rw [hCC]; exact hC) (by omega), pz_map_set]
      congr 2
      apply List.map_congr_left
      intro j _
      rw [hfv j]
      by_cases hj : j = k
      · rw [if_pos hj, if_pos hj, hv]
      · rw [if_neg hj, if_neg hj]
    · intro b hb i
      by_cases hba : b = a
      · rw [hCC, hba, hC] at hb; omega
      · rw [hI b hba]
        exact hH.2.2.2 b (by rw [← hCC]; exact hb) i
    · exact ⟨_, hq, t_OB.to (V := updV (vp_V ((List.range (pz_nf ci)).map (fun k => pz_lv base (fun _ => 0) (pz_fv h a k (pz_fk ci k))))) k (pz_lv base sa v)) ⟨_, e1, q2, q3, t_set q4 hap hk (pz_lv base sa v)⟩ (fun j _ => vp_updV_set (by simpa [← c2] using hk) (pz_lv base sa v) j)⟩
  have hba : base ≤ base + a := Nat.le_add_right _ _
  by_cases hfb : (T k).2.2.2 = false
  · unfold u_lay at hla
    rw [if_neg (by rw [hfb]; decide)] at hla
    have h6 := u_store hfc hkC hkind hla hi (c5 k hk) hn hf
    refine W.putK hx hb (f := f) ⟨hown, hlink, ⟨_, _, _, hsame⟩, hst⟩ (by rw [q2]; exact h6) q1 q3 (by rw [hsl]; exact k2_hasslot (q4 k hk)) rfl rfl hd fun H' e1 e2 e3 => ?_
    exact kk H' _ (fin1 H' e1 e2 e3 _ (hS.put e2 e3 hba))
  · have hft : (T k).2.2.2 = true := by cases hz : (T k).2.2.2; exact absurd hz hfb; rfl
    have hin2 : m.2.1.name = "<init>" ∧ ci = m.1 := by
      rcases hfin with q | q
      · rw [hft] at hfi; rw [q] at hfi; cases hfi
      · exact q
    unfold u_lay at hla
    rw [if_pos hft] at hla
    have hcf : mid.cls = cf := by
      obtain ⟨_, _, c', _, _, _, -, -, hf', -, -, -, hown2, -⟩ := Cond.laysFinal_spec hla
      have e1 : c' = cf := by have := hi.symm.trans hf'; simp at this; exact this.1.symm
      rw [c8 k hk, c3, hin2.2] at hown2
      rw [← e1]; exact Option.some.inj (hown.symm.trans hown2)
    have h6 := u_fits hfc hkC hkind (Or.inr hla) hi (c5 k hk) hn hf
    refine W.putFinK hx hb hown hlink hsame hst hcf (hnm hin2.1) (by rw [q2]; exact h6) q1 q3 (by rw [hsl]; exact k2_hasslot (q4 k hk)) rfl rfl hd fun H' e1 e2 e3 => ?_
    exact kk H' _ (fin1 H' e1 e2 e3 _ (hS.put e2 e3 hba))
end SND2
