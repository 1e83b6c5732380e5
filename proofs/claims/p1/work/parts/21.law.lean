/-! ===== the law's start: out of a run of the pure machine ===== -/
def pz_h0 (L : Nat) (xs : Nat → Int32) : PzH := (fun _ => 999, fun _ => 0, fun _ _ => 0, fun _ _ => 0, fun _ _ => none, 0, 0, L, xs)
theorem pz_ret_int {m : PzM} {i : Instr} {n pc : Nat} {ls st : List Value} {h h2 : PzH} {v : Int32} (hs : pz_e2 m i n pc ls st h = some (.inr (.inl (some (.int v), h2)))) : i = .ireturn ∧ n = 1 ∧ st = [.int v] := by
  cases i with
  | ireturn =>
    replace hs := pz_gd_s hs
    obtain ⟨rfl, hs⟩ := hs
    split at hs
    · obtain ⟨g, hs⟩ := pz_gd_s hs
      cases hs
      exact ⟨rfl, rfl, rfl⟩
    · cases hs
  | lreturn =>
    replace hs := pz_gd_s hs
    obtain ⟨rfl, hs⟩ := hs
    split at hs
    · obtain ⟨g, hs⟩ := pz_gd_s hs
      cases hs
    · cases hs
  | areturn =>
    replace hs := pz_gd_s hs
    obtain ⟨rfl, hs⟩ := hs
    split at hs
    · split at hs <;> cases hs
    · split at hs <;> cases hs
    · cases hs
  | return_ =>
    replace hs := pz_gd_s hs
    obtain ⟨rfl, hs⟩ := hs
    split at hs
    · obtain ⟨g, hs⟩ := pz_gd_s hs
      cases hs
    · cases hs
  | _ =>
    exfalso
    refine (show pz_nr _ from ?_) _ hs
    simp only [pz_e2]
    repeat' first | exact pz_nr_no | exact pz_nr_go | exact pz_nr_call | (refine pz_nr_fw (fun _ => ?_); exact pz_nr_go) | refine pz_nr_gd ?_ | refine pz_nr_i1 (fun _ _ => ?_) | refine pz_nr_a1 (fun _ _ => ?_) | split
theorem pz_K0 {args : Array Value} {s : State} (hts : ∀ w ∈ lw_tbl, w.before args s = true) : ∃ (D : va_G) (cT : Nat → ClassId), va_K D vwCl (pz_tys cT) s := by
  have h1 : ∀ k : Nat, ∃ z : ClassId × (Nat → Nat), ∀ q : vw_C, vwCl[k]? = some q → u_Kn s q.1 q.2.1 q.2.2 z.1 z.2 := by
    intro k
    cases hq : vwCl[k]? with
    | none => exact ⟨(0, fun _ => 0), fun q h => by cases h⟩
    | some q =>
      obtain ⟨-, -, -, h4, -, -, -, -, h9, -⟩ := pz_clOK k q hq
      obtain ⟨cC, iS, h⟩ := u_known (C := q.1) (T := q.2.1) (N := q.2.2) (n := q.2.2) hts h4 (hts _ h9)
      exact ⟨(cC, iS), fun q' h' => by cases h'; exact h⟩
  obtain ⟨z, hz⟩ := Classical.axiomOfChoice h1
  have pr : ∀ ty : FieldType, Cond.arrayClass ty ∈ lw_tbl → (∀ C, ty ≠ .object C) → ∃ cA : ClassId, ArrOfT s cA ty ∧ va_RA s cA ty := by
    intro ty hty hno
    obtain ⟨cA, kA, comp, f1, f2, f3⟩ := Cond.arrayClass_spec (hts _ hty)
    refine ⟨cA, fun n z => ⟨fun k h => (by cases h), kA, f2, comp, f3⟩, ?_⟩
    cases ty <;> first | exact f1 | exact absurd rfl (hno _)
  have ob : ∀ C : String, Cond.arrayOver (.object C) ∈ lw_tbl → ∃ cA : ClassId, ArrOfT s cA (.object C) ∧ va_RA s cA (.object C) := by
    intro C hC
    obtain ⟨comp, cA, kA, f1, -, f2, f3, f4⟩ := Cond.arrayOver_spec (hts _ hC)
    exact ⟨cA, fun n z => ⟨fun k h => (by cases h), kA, f2, comp, f3⟩, kA, comp, f2, f3, f1, f4⟩
  obtain ⟨c0, i0⟩ := pr .int pz_ac100 (fun C h => by cases h)
  obtain ⟨c1, i1⟩ := pr .byte pz_ac101 (fun C h => by cases h)
  obtain ⟨c2, i2⟩ := pr .boolean pz_ac102 (fun C h => by cases h)
  obtain ⟨c3, i3⟩ := ob "SwarmDesk$Client" pz_ov110
  obtain ⟨c4, i4⟩ := ob "SwarmDesk$Link" pz_ov111
  refine ⟨(fun k => (z k).1, fun k => (z k).2), fun t => if t = 100 then c0 else if t = 101 then c1 else if t = 102 then c2 else if t = 110 then c3 else c4, fun k q hq => hz k q hq, fun k q hk => ?_⟩
  match k, hk with
  | 0, hk => cases hk; exact i0
  | 1, hk => cases hk; exact i1
  | 2, hk => cases hk; exact i2
  | 3, hk => cases hk; exact i3
  | 4, hk => cases hk; exact i4
  | n + 5, hk => simp [pz_tys] at hk
def pz_tm (i : Nat) : Term := Term.string (pz_sx i).1 (pz_sx i).2
def pz_nw : List Cond := flatC (Jvm.Cond.and given_1 narrow_1)
set_option maxRecDepth 100000 in
theorem pz_sm1 : ∀ i, i < pz_sn → Cond.exactly (pz_tm i) "java/lang/String" ∈ pz_nw := by decide +kernel
set_option maxRecDepth 100000 in
theorem pz_sm2 : ∀ i, i < pz_sn → Cond.eq (.field (pz_tm i) "java/lang/String" "coder" "B") (.int 0) ∈ pz_nw := by decide +kernel
set_option maxRecDepth 100000 in
theorem pz_sm3 : ∀ i, i < pz_sn → Cond.arrayOf (.field (pz_tm i) "java/lang/String" "value" "[B") .byte ∈ pz_nw := by decide +kernel
set_option maxRecDepth 100000 in
theorem pz_sm4 : ∀ i, i < pz_sn → Cond.eq (.length (.field (pz_tm i) "java/lang/String" "value" "[B")) (.int (Int32.ofNat (pz_sl.getD i 0))) ∈ pz_nw := by decide +kernel
set_option maxRecDepth 100000 in
theorem pz_sm5 : ∀ i, i < pz_sn → ∀ j, j < pz_sl.getD i 0 → Cond.eq (.elem (.field (pz_tm i) "java/lang/String" "value" "[B") (.int (Int32.ofNat j))) (.int ((pz_sb.getD i []).getD j 0)) ∈ pz_nw := by decide +kernel
theorem pz_sc : Cond.eq (.static "java/lang/String" "COMPACT_STRINGS" "Z") (.int 1) ∈ pz_nw := by decide +kernel
theorem pz_sf : Cond.isRef (.static "jdk/internal/util/Preconditions" "SIOOBE_FORMATTER" "Ljava/util/function/BiFunction;") ∈ pz_nw := by decide +kernel
/-- the texts: where each lies, and its bytes -/
def pz_TX (adK adV : Nat → Nat) (A : Nat → Prop) (U : State) (H : Heap) : Prop := ∀ i, i < pz_sn → vk_S 1 [pz_sl.getD i 0] [pz_sb.getD i []] (fun _ => adK i) (fun _ => adV i) A U H
theorem pz_texts {args : Array Value} {s : State} (hts : ∀ w ∈ lw_tbl, w.before args s = true) (hgv : (Jvm.Cond.and given_1 narrow_1).before args s = true) : ∃ adK adV : Nat → Nat, pz_TX adK adV (fun q => s.heap.size ≤ q) s s.heap ∧ ∀ (oc x : Nat) (y : UInt32), pz_lk (pz_kTab oc) x = some (.float y) → y.toNat < pz_sn ∧ ∃ tx, vk_R (pz_Rn oc) x tx (adK y.toNat) s := by
  have hg : ∀ w ∈ pz_nw, w.before args s = true := flat_of_before _ hgv
  have hL : ∀ i, i < pz_sn → pz_sl.getD i 0 < 2 ^ 31 := by decide
  have h1 : ∀ i : Nat, ∃ z : Nat × Nat, i < pz_sn → vk_S 1 [pz_sl.getD i 0] [pz_sb.getD i []] (fun _ => z.1) (fun _ => z.2) (fun q => s.heap.size ≤ q) s s.heap ∧ (pz_tm i).eval args s none [] s = some (.ref z.1) := by
    intro i
    by_cases hi : i < pz_sn
    · obtain ⟨adK, adV, hS, hk⟩ := vk_Sof (args := args) (s := s) (N := 1) (tm := fun _ => pz_tm i) (len := [pz_sl.getD i 0]) (byt := [pz_sb.getD i []]) (A := fun q => s.heap.size ≤ q) (fun j hj => by rw [show j = 0 by omega]; exact hL i hi) (fun _ _ => hg _ (pz_sm1 i hi)) (fun _ _ => hg _ (pz_sm2 i hi)) (fun _ _ => hg _ (pz_sm3 i hi)) (fun j hj => by rw [show j = 0 by omega]; exact hg _ (pz_sm4 i hi)) (fun j hj k hk => by rw [show j = 0 by omega] at hk ⊢; exact hg _ (pz_sm5 i hi k hk)) (fun a b ha hb hab => absurd (by omega) hab) (fun a ha => Nat.not_le.mpr ha)
      refine ⟨(adK 0, adV 0), fun _ => ⟨⟨fun j hj => ?_, fun a b ha hb _ => by omega⟩, hk 0 (by omega)⟩⟩
      have hj0 : j = 0 := by omega
      subst hj0
      exact hS.1 0 hj
    · exact ⟨(0, 0), fun h => absurd h hi⟩
  obtain ⟨z, hz⟩ := Classical.axiomOfChoice h1
  refine ⟨fun i => (z i).1, fun i => (z i).2, fun i hi => (hz i hi).1, fun oc x y hy => ?_⟩
  obtain ⟨q1, q2, q3⟩ := pz_ktOK oc _ (pz_lk_mem _ hy)
  refine ⟨q1, pz_stx y.toNat, vk_R.of (hts _ q3) ?_⟩
  have := (hz y.toNat q1).2
  unfold pz_tm at this
  rw [q2] at this
  exact this
theorem pz_whole {p : Program} {e : Env} {s : State} {m : MethodId} {below : List Frame} {meth : Method} {c : Code} (l : Launch) {b L : Nat} {xs : Nat → Int32} (C0 : lw_At p s m meth c b L xs) {d : Nat} (hd : d ≤ 1000) (hM : pz_M (d + 1) mL_law [.float 1000] (pz_h0 L xs) (fun v h' => v = some (.int 1) ∧ pz_N h' ≤ 600000 ∧ pz_S h' ≤ 7302250)) : W p l e room_1 s m #[Value.ref b] below meth c s.heap [] 0 0 (lw_Z below #[Value.ref b] s) (entryFrame m ([Value.ref b] : List Value).toArray 4) := by
  obtain ⟨hx, hb, hr, hml, hown, hts, hX, hbl, hlocks, hgv⟩ := id C0
  obtain ⟨v, hf, ⟨rfl, hN, hS⟩, hrun⟩ := pz_M_det _ _ _ _ _ hM
  obtain ⟨D, cT, hK⟩ := pz_K0 hts
  obtain ⟨sa, hsa, hE⟩ : ∃ sa : Nat → Nat, sa 1000 = b ∧ pz_EE s.heap.size sa L xs s := by
    obtain ⟨adK, adV, hS2, hk⟩ := pz_texts hts hgv
    refine ⟨fun y => if y = 1000 then b else adK y, rfl, hX, hbl, ⟨adV, fun i hi => ?_, ?_, ?_⟩, fun oc x y hy => ?_⟩
    · have hne : ¬ i = 1000 := by
        have : pz_sn < 1000 := by decide
        omega
      have q := hS2 i hi
      simp only [if_neg hne]
      exact q
    · exact va_Zof (hts _ jw_lay_compact) (hts _ jw_ini_S) (va_eqt (flat_of_before _ hgv _ pz_sc)) (fun a ha => Nat.not_le.mpr ha)
    · exact va_Zqof (hts _ jw_lay_fmt) (hts _ jw_ini_P) (flat_of_before _ hgv _ pz_sf) (fun a ha => Nat.not_le.mpr ha)
    obtain ⟨q1, tx, hz⟩ := hk oc x y hy
    have hne : ¬ y.toNat = 1000 := by
      have : pz_sn < 1000 := by decide
      omega
    refine ⟨tx, ?_⟩
    show vk_R _ _ _ (if y.toNat = 1000 then b else adK y.toNat) s
    rw [if_neg hne]
    exact hz
  have hA : ∀ q ∈ pz_WL, q.before #[Value.ref b] s = true := fun w hw => hts w (List.mem_filter.mp hw).1
  have hc : pz_Cx mL_law D cT s.heap.size p s m #[Value.ref b] meth c := ⟨hx, hb, hml, hown, hA, hK, Nat.le_refl _, hlocks, hr, fun q => absurd q (by decide)⟩
  have hel : ([.float 1000] : List Value).map (pz_lv s.heap.size sa) = [.ref b] := by
    show [Value.ref (sa 1000)] = [.ref b]
    rw [hsa]
  have hAt : pz_At D cT s.heap.size sa mL_law s (pz_h0 L xs) (pz_en mL_law [.float 1000]) s.heap [] ((lg_sl ([.float 1000].map (pz_lv s.heap.size sa)) ++ List.replicate (4 - (lg_sl ([.float 1000].map (pz_lv s.heap.size sa))).length) Slot.unset).toArray) := by
    refine ⟨⟨rfl, fun k q hk => ?_, fun a _ => rfl, fun a ha => ?_⟩, va_S.rf, pz_entry s.heap.size sa mL_law [.float 1000] (by decide)⟩
    · simp [pz_ws, pz_h0, pz_N] at hk
    · exact absurd ha (by show ¬ (999 = 101); decide)
  have key := pz_body (R := room_1) (l := l) (e := e) (below := below) (Q := lw_Z below #[Value.ref b] s) (pz_Snd_all d) hc (by show d + 7 ≤ 2048; omega) (by show 360 + 60 * d ≤ 84000; omega) (v := some (.int 1)) (hf := hf) (CE := pz_N hf) (SL := pz_S hf) hN hS (fun pc n i ls st H locs mls hd hs hA => by
    obtain ⟨rfl, rfl, rfl⟩ := pz_ret_int hs
    refine va_forget (fun q hq => hA.2.1.2.2 q hq) ?_
    refine W.widen (k := 600000) (n := 7302250) hN hS ?_
    exact lw_ret hx hb hr hlocks hd) hrun 0 0 s.heap [] _ (by show 0 + (pz_N hf - 0) = pz_N hf; omega) (by show 0 + (pz_S hf - 0) = pz_S hf; omega) hAt hE
  have e4 : entryFrame m ([Value.ref b] : List Value).toArray 4 = F0 m 0 ((lg_sl ([.float 1000].map (pz_lv s.heap.size sa)) ++ List.replicate (4 - (lg_sl ([.float 1000].map (pz_lv s.heap.size sa))).length) Slot.unset).toArray) [] := by
    rw [hel]
    exact lg_entry_eq m [Value.ref b] 4
  rw [e4]
  exact key
