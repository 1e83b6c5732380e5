/-! ===== new cells; arraycopy, Object(), min, max ===== -/
section SND4
variable {p : Program} {l : Launch} {e : Env} {R : Room} {s : State} {mid : MethodId} {args : Array Value} {below : List Frame} {meth : Method} {c : Code} {H : Heap} {locs : List Loc} {cells slots : Nat} {Q : State → Prop}
variable {m : PzM} {base : Nat} {sa : Nat → Nat} {mls : Array Slot} {pc n : Nat} {ls st rest : List Value} {h : PzH} {r : PzR} {i : Instr} {D : va_G} {cT : Nat → ClassId}
theorem pz_new_C (h : PzH) (tag len n b : Nat) : pz_C (pz_new h tag len n) b = if b = pz_N h then tag else pz_C h b := rfl
theorem pz_new_L (h : PzH) (tag len n b : Nat) : pz_L (pz_new h tag len n) b = if b = pz_N h then len else pz_L h b := rfl
theorem pz_new_I (h : PzH) (tag len n b : Nat) : pz_I (pz_new h tag len n) b = if b = pz_N h then (fun _ => 0) else pz_I h b := rfl
theorem pz_new_J (h : PzH) (tag len n b : Nat) : pz_J (pz_new h tag len n) b = if b = pz_N h then (fun _ => 0) else pz_J h b := rfl
theorem pz_new_R (h : PzH) (tag len n b : Nat) : pz_R (pz_new h tag len n) b = if b = pz_N h then (fun _ => none) else pz_R h b := rfl
theorem pz_new_ce (h : PzH) (tag len n b : Nat) (hb : b < pz_N h) : pz_ce base cT (pz_new h tag len n) b = pz_ce base cT h b := by
  have hb' : ¬ b = pz_N h := by omega
  unfold pz_ce pz_fv
  rw [pz_new_C, pz_new_L, pz_new_I, pz_new_J, pz_new_R]
  simp only [if_neg hb']
/-- a cell came -/
theorem pz_At.push (hA : pz_At D cT base sa m s h ls H locs mls) {tag len n : Nat} {H' : Heap} (ht : tag < 999) (hat : va_at D vwCl (base + pz_N h, pz_ce base cT (pz_new h tag len n) (pz_N h)) H') (hz : H'.size = H.size + 1) (oq : ∀ q, q < H.size → H'[q]? = H[q]?) : pz_At D cT base sa m s (pz_new h tag len n) ls H' locs mls := by
  obtain ⟨hH, hS, hl⟩ := hA
  refine ⟨⟨?_, ?_, ?_, ?_⟩, ⟨?_, ?_, hS.2.2⟩, hl⟩
  · rw [hz, hH.1]; rfl
  · rw [← pz_ws_app (h := h) (h' := pz_new h tag len n) rfl (fun b hb => pz_new_ce h tag len n b hb) rfl]
    refine va_P.app (hH.2.1.kept (fun k q hk => oq q.1 ((hH.2.1 k q hk).lt))) (fun k q hk => ?_)
    have hz : k < 1 := (List.getElem?_eq_some_iff.mp hk).1
    rw [show k = 0 by omega] at hk
    cases hk
    exact hat
  · intro a ha
    have : pz_N h + 1 ≤ a := ha
    rw [pz_new_C, if_neg (by omega)]
    exact hH.2.2.1 a (by omega)
  · intro a ha i
    rw [pz_new_C] at ha
    rw [pz_new_I]
    by_cases hq : a = pz_N h
    · rw [if_pos hq]; rfl
    · rw [if_neg hq] at ha ⊢
      exact hH.2.2.2 a ha i
  · have := hS.1; omega
  · intro q h1 h2
    rw [oq q (by have := hS.1; omega)]
    exact hS.2.1 q h1 h2
theorem pz_newo (hc : pz_Cx m D cT base p s mid args meth c) (hA : pz_At D cT base sa m s h ls H locs mls) {x ci nf : Nat} (ht : pz_lk (pz_nTab m.1) x = some (ci, nf)) (hd : decode m.2.2.1 pc = .ok (.new x, 3)) (hcells : cells + 1 ≤ R.cells) (hslots : slots + nf ≤ R.slots)
    (kk : ∀ (H' : Heap), pz_At D cT base sa m s (pz_new h ci 0 nf) ls H' locs mls → W p l e R s mid args below meth c H' locs (cells + 1) (slots + nf) Q (F0 mid (pc + 3) mls ((.ref (pz_N h) :: rest).map (pz_lv base sa)))) : W p l e R s mid args below meth c H locs cells slots Q (F0 mid pc mls (rest.map (pz_lv base sa))) := by
  obtain ⟨hH, hS, hl⟩ := id hA
  obtain ⟨hx, hb, hml, hown, hts, hK, hbs, hlk, hr, hnm⟩ := id hc
  obtain ⟨⟨C, T, N⟩, hq, hnf, hw⟩ := pz_nOK m.1 _ (pz_lk_mem _ ht)
  obtain ⟨c1, c2, c3, c4, c5, c6, c7, c8, c9, c10, c11⟩ := pz_clOK ci _ hq
  dsimp only at hq hnf hw c2 c3 c4 c5 c6 c7 c8 c9 c10 c11
  subst hnf
  have hKn := hK.1 ci _ hq
  refine W.newcK hx hb hown (hc.w hw rfl) (hc.w c9 rfl) (hc.w c10 rfl) rfl hd hcells hslots hKn.2.1 hH.1 fun H1 kC hkC e1 z1 o1 => ?_
  refine kk H1 (hA.push (by omega) ?_ (by rw [z1, hH.1]) (fun q hq => o1 q (by rw [← hH.1]; exact hq)))
  rw [pz_ce_o (h := pz_new h ci 0 nf) (ci := ci) (by rw [pz_new_C, if_pos rfl]) (by omega)]
  refine ⟨_, hq, (u_born (pz_tyf ci) hts (hc.lay hq) hKn hkC e1 c5).to (fun j hj => ?_)⟩
  unfold vp_V
  rw [List.getD_eq_getElem?_getD, List.getElem?_map, List.getElem?_range (by rw [← c2]; exact hj)]
  show defaultValue (pz_tyf ci j) = pz_lv base (fun _ => 0) (pz_fv (pz_new h ci 0 nf) (pz_N h) j (pz_fk ci j))
  have k1 := c7 j hj
  have k2 := c11 j hj
  rw [k1] at k2 ⊢
  unfold pz_fv
  rw [pz_new_I, pz_new_J, pz_new_R]
  simp only [if_true]
  cases hty : pz_tyf ci j <;> rw [hty] at k2 <;> first | rfl | (exfalso; revert k2; decide)
theorem pz_newp (hc : pz_Cx m D cT base p s mid args meth c) (hA : pz_At D cT base sa m s h ls H locs mls) {t : ArrayType} {x : Int32} (hx0 : ¬ x < 0) (hx1 : x.toNatClampNeg ≤ 67108864) (ht : 100 ≤ pz_at t) (hd : decode m.2.2.1 pc = .ok (.newarray t, 2)) (hcells : cells + 1 ≤ R.cells) (hslots : slots + x.toNatClampNeg ≤ R.slots)
    (kk : ∀ (H' : Heap), pz_At D cT base sa m s (pz_new h (pz_at t) x.toNatClampNeg x.toNatClampNeg) ls H' locs mls → W p l e R s mid args below meth c H' locs (cells + 1) (slots + x.toNatClampNeg) Q (F0 mid (pc + 2) mls ((.ref (pz_N h) :: rest).map (pz_lv base sa)))) : W p l e R s mid args below meth c H locs cells slots Q (F0 mid pc mls ((.int x :: rest).map (pz_lv base sa))) := by
  obtain ⟨hH, hS, hl⟩ := id hA
  obtain ⟨hx, hb, hml, hown, hts, hK, hbs, hlk, hr, hnm⟩ := id hc
  obtain ⟨tt, ty, k, ht1, hty, hk, hin, hdv, hby, hlo, hhi⟩ : ∃ (tt : Nat) (ty : FieldType) (k : Nat), pz_at t = tt ∧ newarray.typeOf t = ty ∧ (pz_tys cT)[k]? = some (cT tt, ty) ∧ (Cond.arrayClass ty).before args s = true ∧ defaultValue ty = .int 0 ∧ componentBytes ty ≤ 4 ∧ 100 ≤ tt ∧ tt < 110 := by
    cases t with
    | int => exact ⟨100, .int, 0, rfl, rfl, rfl, hc.w pz_ac100 rfl, rfl, by decide, by omega, by omega⟩
    | byte => exact ⟨101, .byte, 1, rfl, rfl, rfl, hc.w pz_ac101 rfl, rfl, by decide, by omega, by omega⟩
    | boolean => exact ⟨102, .boolean, 2, rfl, rfl, rfl, hc.w pz_ac102 rfl, rfl, by decide, by omega, by omega⟩
    | _ => exact absurd ht (by decide)
  have hbytes : x.toNatClampNeg * componentBytes ty ≤ 536870912 := Nat.le_trans (Nat.mul_le_mul hx1 hby) (by decide)
  subst hty
  refine va_newaK hx hb hin rfl hd rfl hx0 rfl hbytes hcells hslots hH.1 fun H1 cA e1 z1 o1 hAr hNm => ?_
  have hcA : cA = cT tt := by
    have hra := (hK.2 k _ hk).2
    cases t <;> first | exact Option.some.inj (hNm.symm.trans hra) | exact absurd ht (by decide)
  subst hcA
  refine kk H1 (hA.push (by rw [ht1]; omega) ?_ (by rw [z1, hH.1]) (fun q hq => o1 q (by rw [← hH.1]; exact hq)))
  rw [pz_ce_p (h := pz_new h (pz_at t) x.toNatClampNeg x.toNatClampNeg) (t := tt) (by rw [pz_new_C, if_pos rfl, ht1]) hlo hhi, pz_new_L, if_pos rfl, pz_new_I, if_pos rfl]
  show H1[base + pz_N h]? = some (vp_cell _ _)
  rw [e1, vp_cell_i, hdv]
theorem pz_newr (hc : pz_Cx m D cT base p s mid args meth c) (hA : pz_At D cT base sa m s h ls H locs mls) {x tag ci : Nat} {y : Int32} (ht : pz_lk (pz_aTab m.1) x = some (tag, ci)) (hx0 : ¬ y < 0) (hx1 : y.toNatClampNeg ≤ 67108864) (hd : decode m.2.2.1 pc = .ok (.anewarray x, 3)) (hcells : cells + 1 ≤ R.cells) (hslots : slots + y.toNatClampNeg ≤ R.slots)
    (kk : ∀ (H' : Heap), pz_At D cT base sa m s (pz_new h tag y.toNatClampNeg y.toNatClampNeg) ls H' locs mls → W p l e R s mid args below meth c H' locs (cells + 1) (slots + y.toNatClampNeg) Q (F0 mid (pc + 3) mls ((.ref (pz_N h) :: rest).map (pz_lv base sa)))) : W p l e R s mid args below meth c H locs cells slots Q (F0 mid pc mls ((.int y :: rest).map (pz_lv base sa))) := by
  obtain ⟨hH, hS, hl⟩ := id hA
  obtain ⟨hx, hb, hml, hown, hts, hK, hbs, hlk, hr, hnm⟩ := id hc
  obtain ⟨q, hq, htg, hw, hov⟩ := pz_aOK m.1 _ (pz_lk_mem _ ht)
  obtain ⟨k, hk⟩ : ∃ k : Nat, (pz_tys cT)[k]? = some (cT tag, .object q.1) := by
    rcases htg with ⟨h1, h2⟩ | ⟨h1, h2⟩ <;> dsimp only at h1 h2 <;> subst h1 <;> subst h2 <;> cases hq
    · exact ⟨3, rfl⟩
    · exact ⟨4, rfl⟩
  have h110 : 110 ≤ tag ∧ tag < 999 := by
    rcases htg with ⟨h1, h2⟩ | ⟨h1, h2⟩ <;> dsimp only at h1 <;> omega
  refine W.anew hx hb hown (hc.w hw rfl) (hc.w hov rfl) rfl hd rfl hx0 (by omega) hcells hslots fun cA kA comp f1 f2 f3 f4 => ?_
  have hcA : cA = cT tag := by
    obtain ⟨kA', comp', g1, g2, g3, g4⟩ := (hK.2 k _ hk).2
    exact Option.some.inj (f1.symm.trans g4)
  subst hcA
  generalize hH1 : H.push ({ cls := cT tag, slots := Array.replicate y.toNatClampNeg .null, vm := .none } : Cell) = H1
  have z1 : H1.size = H.size + 1 := by rw [← hH1, Array.size_push]
  have e1 : H1[H.size]? = some (arrV (cT tag) y.toNatClampNeg (fun _ => .null)) := by rw [← hH1, Array.getElem?_push_size, ← arrV_new]
  have o1 : ∀ q : Nat, q < H.size → H1[q]? = H[q]? := fun q hq => by rw [← hH1, Array.getElem?_push, if_neg (Nat.ne_of_lt hq)]
  have k2 := kk H1 (hA.push (tag := tag) (len := y.toNatClampNeg) (n := y.toNatClampNeg) (by omega) (by
    rw [pz_ce_r (h := pz_new h tag y.toNatClampNeg y.toNatClampNeg) (t := tag) (by rw [pz_new_C, if_pos rfl]) h110.1, pz_new_L, if_pos rfl, pz_new_R, if_pos rfl]
    show H1[base + pz_N h]? = some (vp_cell _ _)
    rw [← hH.1, e1, vp_cell_q]
    rfl) z1 o1)
  have e3 : H.size = base + pz_N h := hH.1
  rw [e3]
  exact k2
theorem pz_objI (hc : pz_Cx m D cT base p s mid args meth c) (hA : pz_At D cT base sa m s h ls H locs mls) {x a nn : Nat} {cc : PzM} (ht : pz_lk (pz_cTab m.1) x = some (3, cc, nn)) (hd : decode m.2.2.1 pc = .ok (.invokespecial x, 3)) (hsum : (rest.map fun v => v.category).sum ≤ 8) (hf : 1 ≤ R.frames) (hlo : 40 ≤ R.locals)
    (kk : W p l e R s mid args below meth c H locs cells slots Q (F0 mid (pc + 3) mls (rest.map (pz_lv base sa)))) : W p l e R s mid args below meth c H locs cells slots Q (F0 mid pc mls ((.ref a :: rest).map (pz_lv base sa))) := by
  obtain ⟨hH, hS, hl⟩ := id hA
  obtain ⟨hx, hb, hml, hown, hts, hK, hbs, hlk, hr, hnm⟩ := id hc
  obtain ⟨w1, w2, w3⟩ := pz_cOK m.1 _ (pz_lk_mem _ ht)
  refine W.objInit hx hb hown (hc.w w1 rfl) (hc.w w2 rfl) (hc.w w3 rfl) rfl (by rw [hml]; exact hl.1) rfl hd hf ?_ kk
  show 2 * 0 + ((rest.map (pz_lv base sa)).map fun v => v.category).sum + 12 ≤ R.locals
  rw [pz_lv_sum]
  omega
theorem pz_mm (hc : pz_Cx m D cT base p s mid args meth c) (hA : pz_At D cT base sa m s h ls H locs mls) {x kd nn : Nat} {a b : Int32} {cc : PzM} (ht : pz_lk (pz_cTab m.1) x = some (kd, cc, nn)) (hkd : kd = 9 ∨ kd = 10) (hd : decode m.2.2.1 pc = .ok (.invokestatic x, 3)) (hsum : (rest.map fun v => v.category).sum ≤ 8) (hf : 1 ≤ R.frames) (hlo : 40 ≤ R.locals) (hce : cells ≤ R.cells) (hsl : slots ≤ R.slots)
    (kk : W p l e R s mid args below meth c H locs cells slots Q (F0 mid (pc + 3) mls ((.int (if kd = 9 then pz_min a b else pz_max a b) :: rest).map (pz_lv base sa)))) : W p l e R s mid args below meth c H locs cells slots Q (F0 mid pc mls ((.int b :: .int a :: rest).map (pz_lv base sa))) := by
  obtain ⟨hH, hS, hl⟩ := id hA
  obtain ⟨hx, hb, hml, hown, hts, hK, hbs, hlk, hr, hnm⟩ := id hc
  have hs2 : ((rest.map (pz_lv base sa)).map fun v => v.category).sum + 13 ≤ R.locals := by rw [pz_lv_sum]; omega
  rcases hkd with rfl | rfl
  · obtain ⟨w1, w2, w3, w4⟩ := pz_cOK m.1 _ (pz_lk_mem _ ht)
    exact va_mmin hx hb (by rw [hml]; exact hl.1.symm) hown (hc.w w1 rfl) (hc.w w2 rfl) (hc.w w3 rfl) (hc.w w4 rfl) hf hs2 hce hsl hd kk
  · obtain ⟨w1, w2, w3, w4⟩ := pz_cOK m.1 _ (pz_lk_mem _ ht)
    exact va_mmax hx hb (by rw [hml]; exact hl.1.symm) hown (hc.w w1 rfl) (hc.w w2 rfl) (hc.w w3 rfl) (hc.w w4 rfl) hf hs2 hce hsl hd kk
set_option maxHeartbeats 4000000 in
theorem pz_copy (hc : pz_Cx m D cT base p s mid args meth c) (hA : pz_At D cT base sa m s h ls H locs mls) {x nn a0 a : Nat} {sp dp k : Int32} {cc : PzM} (ht : pz_lk (pz_cTab m.1) x = some (4, cc, nn)) (hd : decode m.2.2.1 pc = .ok (.invokestatic x, 3)) (hsum : (rest.map fun v => v.category).sum ≤ 8) (hf : 1 ≤ R.frames) (hlo : 40 ≤ R.locals)
    (hC0 : pz_C h a0 = pz_C h a) (hC : pz_C h a = 100 ∨ pz_C h a = 101) (h1 : ¬ sp < 0) (h2 : ¬ dp < 0) (h3 : ¬ k < 0) (h4 : sp.toNatClampNeg + k.toNatClampNeg ≤ pz_L h a0) (h5 : dp.toNatClampNeg + k.toNatClampNeg ≤ pz_L h a)
    (kk : ∀ (H' : Heap) (locs' : List Loc), pz_At D cT base sa m s (pz_sA h a (va_cpy (pz_I h a0) (pz_I h a) sp.toNatClampNeg dp.toNatClampNeg k.toNatClampNeg)) ls H' locs' mls → W p l e R s mid args below meth c H' locs' cells slots Q (F0 mid (pc + 3) mls (rest.map (pz_lv base sa)))) : W p l e R s mid args below meth c H locs cells slots Q (F0 mid pc mls ((.int k :: .int dp :: .ref a :: .int sp :: .ref a0 :: rest).map (pz_lv base sa))) := by
  obtain ⟨hH, hS, hl⟩ := id hA
  obtain ⟨hx, hb, hml, hown, hts, hK, hbs, hlk, hr, hnm⟩ := id hc
  obtain ⟨w1, w2, w3, w4⟩ := pz_cOK m.1 _ (pz_lk_mem _ ht)
  obtain ⟨t, ty, t0, hCt, hlo1, hhi1, hty, hprim, hfi⟩ : ∃ (t : Nat) (ty : FieldType) (t0 : Nat), pz_C h a = t ∧ 100 ≤ t ∧ t < 110 ∧ (pz_tys cT)[t0]? = some (cT t, ty) ∧ refKind ty = false ∧ ∀ i, fits ty (.int (pz_I h a0 i)) = true := by
    rcases hC with q | q
    · exact ⟨100, .int, 0, q, by omega, by omega, rfl, rfl, fun _ => rfl⟩
    · exact ⟨101, .byte, 1, q, by omega, by omega, rfl, rfl, fun i => hH.2.2.2 a0 (by rw [hC0]; exact q) i⟩
  have nn : ∀ z : Int32, ¬ z < 0 → z.toInt = (z.toNatClampNeg : Int) := by
    intro z hz
    have hz0 : (0 : Int) ≤ z.toInt := by
      have := Int32.not_lt.mp hz
      simpa using Int32.le_iff_toInt_le.mp this
    show z.toInt = ((z.toInt.toNat : Nat) : Int)
    omega
  have hc0 : H[base + a0]? = some (vp_cell (cT t) (pz_L h a0, .inl (pz_I h a0))) := hH.2.1 a0 _ (pz_prim hH (hC0.trans hCt) hlo1 hhi1)
  have hc1 : H[base + a]? = some (vp_cell (cT t) (pz_L h a, .inl (pz_I h a))) := hH.2.1 a _ (pz_prim hH hCt hlo1 hhi1)
  intro T hT X
  obtain ⟨-, k0, hk0, cm0, hkk0⟩ := (hK.2 t0 _ hty).1 (pz_L h a0) (fun j => .int (pz_I h a0 j))
  obtain ⟨-, k1, hk1, cm1, hkk1⟩ := (hK.2 t0 _ hty).1 (pz_L h a) (fun j => .int (pz_I h a j))
  obtain ⟨vm', X', step⟩ := X.arraycopy hx hown (hc.w w1 rfl) (hc.w w2 rfl) (hc.w w3 rfl) (hc.w w4 rfl) (src := base + a0) (dst := base + a) (cs := vp_cell (cT t) (pz_L h a0, .inl (pz_I h a0))) (cd := vp_cell (cT t) (pz_L h a, .inl (pz_I h a))) (srcPos := sp) (destPos := dp) (n := k) (by rw [hT]; exact hc0) (by rw [hT]; exact hc1)
    (fun _ h => by cases h) (fun _ h => by cases h) (fun h => by cases h) (fun h => by cases h) hk0 hk1 hkk0 hkk1 (by simp [hprim]) h1 h2 h3
    (by rw [nn sp h1, nn k h3]; show ¬ _ > ((arrV (cT t) (pz_L h a0) (fun j => .int (pz_I h a0 j))).slots.size : Int); rw [arrV_size]; omega)
    (by rw [nn dp h2, nn k h3]; show ¬ _ > ((arrV (cT t) (pz_L h a) (fun j => .int (pz_I h a j))).slots.size : Int); rw [arrV_size]; omega)
    (fun vm₁ _ i hi => by
      have e : (vp_cell (cT t) (pz_L h a0, .inl (pz_I h a0))).slots.getD (sp.toNatClampNeg + i) .null = .int (pz_I h a0 (sp.toNatClampNeg + i)) := by
        show (arrV (cT t) (pz_L h a0) (fun j => .int (pz_I h a0 j))).slots.getD _ _ = _
        rw [Array.getD_eq_getD_getElem?, arrV_read _ _ (by omega)]
        rfl
      refine ⟨?_, ?_⟩
      · rw [e]
        exact hfi _
      · rw [e]
        exact trivial)
    (g := F0 mid pc mls ((.int k :: .int dp :: .ref a :: .int sp :: .ref a0 :: rest).map (pz_lv base sa))) rfl (by rw [hml]; exact hl.1) (rest := rest.map (pz_lv base sa)) rfl (by rw [hb]; exact hd) hf (by
      show 2 * 0 + ((rest.map (pz_lv base sa)).map fun v => v.category).sum + _ ≤ _
      rw [pz_lv_sum]
      have : nativeFrameWords "java/lang/System" "arraycopy" 5 + 11 ≤ 32 := by decide +kernel
      omega)
  have e1 : copied (vp_cell (cT t) (pz_L h a0, .inl (pz_I h a0))) (vp_cell (cT t) (pz_L h a, .inl (pz_I h a))) sp dp k = vp_cell (cT t) (pz_L h a, .inl (va_cpy (pz_I h a0) (pz_I h a) sp.toNatClampNeg dp.toNatClampNeg k.toNatClampNeg)) := va_copied (fun z => .int z) (cT t) (cT t) (pz_I h a0) (pz_I h a) h4
  rw [e1] at X' step
  generalize hgf : va_cpy (pz_I h a0) (pz_I h a) sp.toNatClampNeg dp.toNatClampNeg k.toNatClampNeg = f at X' step kk
  have hl1 : base + a < H.size := (Array.getElem?_eq_some_iff.mp hc1).1
  have hheap : ((T.setVm vm').setCell (base + a) (vp_cell (cT t) (pz_L h a, .inl f))).heap = H.setIfInBounds (base + a) (vp_cell (cT t) (pz_L h a, .inl f)) := by rw [← hT]; rfl
  have oq : ∀ q : Nat, q ≠ base + a → (H.setIfInBounds (base + a) (vp_cell (cT t) (pz_L h a, .inl f)))[q]? = H[q]? := fun q hq => by simp [Array.getElem?_setIfInBounds, Ne.symm hq]
  obtain ⟨tt, a1, b1⟩ := kk _ _ (hA.row (h' := pz_sA h a f) (f := f) (H' := H.setIfInBounds (base + a) (vp_cell (cT t) (pz_L h a, .inl f))) hCt hlo1 hhi1 rfl rfl rfl (fun b hb => by show pz_u1 (pz_I h) a f b = _; unfold pz_u1; rw [if_neg hb]) (by show pz_u1 (pz_I h) a f a = _; unfold pz_u1; rw [if_pos rfl]) rfl rfl (fun ht1 i => by
      have hq : pz_C h a = 101 := hCt.trans ht1
      rw [← hgf]
      unfold va_cpy
      by_cases hi : dp.toNatClampNeg ≤ i ∧ i < dp.toNatClampNeg + k.toNatClampNeg
      · rw [if_pos hi]; exact hH.2.2.2 a0 (hC0.trans hq) _
      · rw [if_neg hi]; exact hH.2.2.2 a hq _) (by simp) (by simp [Array.getElem?_setIfInBounds, hl1]) oq
      ⟨by simp; exact hS.1, fun q g1 g2 => by
        rw [oq q (fun e => g2 (by rw [e]; exact Nat.le_add_right _ _))]
        exact hS.2.1 q g1 g2, fun q hq => by
        rcases List.mem_append.mp hq with h | h
        · exact hS.2.2 q h
        · obtain ⟨z, -, hz⟩ := List.mem_map.mp h
          rw [← hz]
          exact Nat.le_add_right _ _⟩) _ hheap X'
  exact ⟨tt, step tt a1, b1⟩
end SND4
