/-! ===== instructions over cells, the others ===== -/
section SND3
variable {p : Program} {l : Launch} {e : Env} {R : Room} {s : State} {mid : MethodId} {args : Array Value} {below : List Frame} {meth : Method} {c : Code} {H : Heap} {locs : List Loc} {cells slots : Nat} {Q : State → Prop}
variable {m : PzM} {base : Nat} {sa : Nat → Nat} {mls : Array Slot} {pc n : Nat} {ls st rest : List Value} {h : PzH} {r : PzR} {i : Instr} {D : va_G} {cT : Nat → ClassId}
theorem pz_getf (hc : pz_Cx m D cT base p s mid args meth c) (hA : pz_At D cT base sa m s h ls H locs mls) {x a ci k kd : Nat} {fin : Bool} (ht : pz_lk (pz_fTab m.1) x = some (ci, k, kd, fin)) (hC : pz_C h a = ci) (hd : decode m.2.2.1 pc = .ok (.getfield x, 3))
    (kk : W p l e R s mid args below meth c H locs cells slots Q (F0 mid (pc + 3) mls ((pz_fv h a k kd :: rest).map (pz_lv base sa)))) : W p l e R s mid args below meth c H locs cells slots Q (F0 mid pc mls ((.ref a :: rest).map (pz_lv base sa))) := by
  obtain ⟨hH, hS, hl⟩ := hA
  obtain ⟨hx, hb, hml, hown, hts, hK, hbs, hlk, hr, hnm⟩ := id hc
  obtain ⟨⟨C, T, N⟩, hq, hk, hkd, hfi, hw⟩ := pz_fOK m.1 _ (pz_lk_mem _ ht)
  obtain ⟨c1, c2, c3, c4, c5, c6, c7, c8, c9, c10, c11⟩ := pz_clOK ci _ hq
  dsimp only at hq hk hkd hfi hw c2 c3 c4 c5 c6 c7 c8 c9 c10
  have he := pz_obj hH hC hq
  refine va_get (D := D) (v := pz_lv base sa (pz_fv h a k kd)) hx hb hts (hc.lay hq) hown hK hH.2.1 a he hq k hk (hc.w hw rfl) (fun y hy => by rw [← c8 k hk]; exact hy) ?_ hd kk
  rw [List.getElem?_map, List.getElem?_range (by rw [← c2]; exact hk)]
  show some (pz_lv base (fun _ => 0) (pz_fv h a k (pz_fk ci k))) = _
  rw [← hkd, pz_lv_fv base (fun _ => 0) sa]
theorem pz_vin {i : Int32} {n : Nat} (h : pz_in i n = true) : vp_in i n := (of_decide_eq_true h : ¬ (i < 0 ∨ n ≤ i.toNatClampNeg))
theorem pz_arr_at (hc : pz_Cx m D cT base p s mid args meth c) {t : Nat} (ht : t = 100 ∨ t = 101 ∨ t = 102) : ∃ (k : Nat) (ty : FieldType), (pz_tys cT)[k]? = some (cT t, ty) ∧ ((t = 100 ∧ ty = .int) ∨ (t = 101 ∧ ty = .byte) ∨ (t = 102 ∧ ty = .boolean)) := by
  rcases ht with rfl | rfl | rfl
  · exact ⟨0, _, rfl, Or.inl ⟨rfl, rfl⟩⟩
  · exact ⟨1, _, rfl, Or.inr (Or.inl ⟨rfl, rfl⟩)⟩
  · exact ⟨2, _, rfl, Or.inr (Or.inr ⟨rfl, rfl⟩)⟩
theorem pz_alen (hc : pz_Cx m D cT base p s mid args meth c) (hA : pz_At D cT base sa m s h ls H locs mls) {a : Nat} (hC : pz_C h a = 100 ∨ pz_C h a = 101 ∨ pz_C h a = 102) (hd : decode m.2.2.1 pc = .ok (.arraylength, 1))
    (kk : W p l e R s mid args below meth c H locs cells slots Q (F0 mid (pc + 1) mls ((.int (Int32.ofNat (pz_L h a)) :: rest).map (pz_lv base sa)))) : W p l e R s mid args below meth c H locs cells slots Q (F0 mid pc mls ((.ref a :: rest).map (pz_lv base sa))) := by
  obtain ⟨hH, hS, hl⟩ := hA
  obtain ⟨hx, hb, hml, hown, hts, hK, hbs, hlk, hr, hnm⟩ := id hc
  obtain ⟨k, ty, hk, -⟩ := pz_arr_at hc hC
  exact va_alen hx hb hK hH.2.1 a k (pz_prim hH rfl (by omega) (by omega)) hk rfl hd kk
theorem pz_iald (hc : pz_Cx m D cT base p s mid args meth c) (hA : pz_At D cT base sa m s h ls H locs mls) {a : Nat} {i : Int32} (hC : pz_C h a = 100) (hi : pz_in i (pz_L h a) = true) (hd : decode m.2.2.1 pc = .ok (.iaload, 1))
    (kk : W p l e R s mid args below meth c H locs cells slots Q (F0 mid (pc + 1) mls ((.int (pz_I h a i.toNatClampNeg) :: rest).map (pz_lv base sa)))) : W p l e R s mid args below meth c H locs cells slots Q (F0 mid pc mls ((.int i :: .ref a :: rest).map (pz_lv base sa))) := by
  obtain ⟨hH, hS, hl⟩ := hA
  obtain ⟨hx, hb, hml, hown, hts, hK, hbs, hlk, hr, hnm⟩ := id hc
  exact va_iald hx hb hK hH.2.1 a 0 (pz_prim hH hC (by omega) (by omega)) rfl (pz_vin hi) hd kk
theorem pz_bald (hc : pz_Cx m D cT base p s mid args meth c) (hA : pz_At D cT base sa m s h ls H locs mls) {a : Nat} {i : Int32} (hC : pz_C h a = 101 ∨ pz_C h a = 102) (hi : pz_in i (pz_L h a) = true) (hd : decode m.2.2.1 pc = .ok (.baload, 1))
    (kk : W p l e R s mid args below meth c H locs cells slots Q (F0 mid (pc + 1) mls ((.int (pz_I h a i.toNatClampNeg) :: rest).map (pz_lv base sa)))) : W p l e R s mid args below meth c H locs cells slots Q (F0 mid pc mls ((.int i :: .ref a :: rest).map (pz_lv base sa))) := by
  obtain ⟨hH, hS, hl⟩ := hA
  obtain ⟨hx, hb, hml, hown, hts, hK, hbs, hlk, hr, hnm⟩ := id hc
  rcases hC with hC | hC
  · exact va_bald hx hb hK hH.2.1 a 1 (pz_prim hH hC (by omega) (by omega)) rfl (pz_vin hi) hd kk
  · exact va_zald hx hb hK hH.2.1 a 2 (pz_prim hH hC (by omega) (by omega)) rfl (pz_vin hi) hd kk
theorem pz_aald (hc : pz_Cx m D cT base p s mid args meth c) (hA : pz_At D cT base sa m s h ls H locs mls) {a : Nat} {i : Int32} (hC : pz_C h a = 110 ∨ pz_C h a = 111) (hi : pz_in i (pz_L h a) = true) (hd : decode m.2.2.1 pc = .ok (.aaload, 1))
    (kk : W p l e R s mid args below meth c H locs cells slots Q (F0 mid (pc + 1) mls ((pz_rf (pz_R h a i.toNatClampNeg) :: rest).map (pz_lv base sa)))) : W p l e R s mid args below meth c H locs cells slots Q (F0 mid pc mls ((.int i :: .ref a :: rest).map (pz_lv base sa))) := by
  obtain ⟨hH, hS, hl⟩ := hA
  obtain ⟨hx, hb, hml, hown, hts, hK, hbs, hlk, hr, hnm⟩ := id hc
  have e1 : va_rf ((pz_R h a i.toNatClampNeg).map (fun q => base + q)) = pz_lv base sa (pz_rf (pz_R h a i.toNatClampNeg)) := by
    cases pz_R h a i.toNatClampNeg <;> rfl
  rcases hC with hC | hC
  · exact va_aldq hx hb hK hH.2.1 a 3 (pz_refs hH hC (by omega) (by omega)) rfl (pz_vin hi) hd (by rw [e1]; exact kk)
  · exact va_aldq hx hb hK hH.2.1 a 4 (pz_refs hH hC (by omega) (by omega)) rfl (pz_vin hi) hd (by rw [e1]; exact kk)
/-- an array of numbers has other contents -/
theorem pz_At.row (hA : pz_At D cT base sa m s h ls H locs mls) {a t : Nat} {f : Nat → Int32} {h' : PzH} {H' : Heap} {locs' : List Loc} (hC : pz_C h a = t) (h1 : 100 ≤ t) (h2 : t < 110) (hN : pz_N h' = pz_N h) (hCC : pz_C h' = pz_C h) (hL : pz_L h' = pz_L h) (hI : ∀ b, b ≠ a → pz_I h' b = pz_I h b) (hIa : pz_I h' a = f) (hR : pz_R h' = pz_R h) (hJ : pz_J h' = pz_J h) (hfit : t = 101 → ∀ i, fits .byte (.int (f i)) = true)
    (hz : H'.size = H.size) (hat : H'[base + a]? = some (vp_cell (cT t) (pz_L h a, .inl f))) (oq : ∀ q : Nat, q ≠ base + a → H'[q]? = H[q]?) (hS' : va_S (fun q => base ≤ q) s.heap H' locs') : pz_At D cT base sa m s h' ls H' locs' mls := by
  obtain ⟨hH, hS, hl⟩ := hA
  refine ⟨hH.put (pz_prim hH hC h1 h2) hN hCC ?_ (x := .inl (cT t, pz_L h a, .inl f)) ?_ ?_ hz hat oq, hS', hl⟩
  · intro b hb
    unfold pz_ce
    rw [hCC, hL, hI b hb, hR]
    unfold pz_fv
    rw [hI b hb, hR, hJ]
  · rw [pz_ce_p (h := h') (by rw [hCC]; exact hC) h1 h2, hL, hIa]
  · intro b hb i
    by_cases hba : b = a
    · subst hba
      rw [hIa]
      exact hfit (by rw [← hC, ← hCC]; exact hb) i
    · rw [hI b hba]
      exact hH.2.2.2 b (by rw [← hCC]; exact hb) i
theorem pz_sI_I (h : PzH) (a k : Nat) (v : Int32) : pz_I (pz_sI h a k v) a = upd (pz_I h a) k v := by
  funext j
  show pz_u2 (pz_I h) a k v a j = _
  unfold pz_u2 upd
  by_cases hj : j = k
  · rw [if_pos ⟨rfl, hj⟩, if_pos hj]
  · rw [if_neg (fun q => hj q.2), if_neg hj]
theorem pz_sI_o (h : PzH) (a k : Nat) (v : Int32) (b : Nat) (hb : b ≠ a) : pz_I (pz_sI h a k v) b = pz_I h b := by
  funext j
  show pz_u2 (pz_I h) a k v b j = _
  unfold pz_u2
  rw [if_neg (fun q => hb q.1)]
theorem pz_upd_fit {f : Nat → Int32} {k : Nat} {x : Int32} (hf : ∀ i, fits .byte (.int (f i)) = true) (hx : fits .byte (.int x) = true) : ∀ i, fits .byte (.int (upd f k x i)) = true := by
  intro i
  unfold upd
  by_cases hi : i = k
  · rw [if_pos hi]; exact hx
  · rw [if_neg hi]; exact hf i
theorem pz_nar_fit (x : Int32) : fits .byte (.int (vp_nar .byte x)) = true := by
  rw [vp_nar_byte]
  exact pk_fb x
theorem pz_iast (hc : pz_Cx m D cT base p s mid args meth c) (hA : pz_At D cT base sa m s h ls H locs mls) {a : Nat} {i x : Int32} (hC : pz_C h a = 100) (hi : pz_in i (pz_L h a) = true) (hd : decode m.2.2.1 pc = .ok (.iastore, 1))
    (kk : ∀ (H' : Heap) (locs' : List Loc), pz_At D cT base sa m s (pz_sI h a i.toNatClampNeg x) ls H' locs' mls → W p l e R s mid args below meth c H' locs' cells slots Q (F0 mid (pc + 1) mls (rest.map (pz_lv base sa)))) : W p l e R s mid args below meth c H locs cells slots Q (F0 mid pc mls ((.int x :: .int i :: .ref a :: rest).map (pz_lv base sa))) := by
  obtain ⟨hH, hS, hl⟩ := id hA
  obtain ⟨hx, hb, hml, hown, hts, hK, hbs, hlk, hr, hnm⟩ := id hc
  refine W.iast hx hb (hH.2.1 a _ (pz_prim hH hC (by omega) (by omega))) ((hK.2 0 _ rfl).1 (pz_L h a) (fun j => .int (pz_I h a j))) (fun q => by cases q) (by show ¬ (i < 0 ∨ (arrV _ _ _).slots.size ≤ _); rw [arrV_size]; exact pz_vin hi) rfl rfl hd fun H1 e1 z oq => ?_
  refine kk H1 _ (hA.row hC (by omega) (by omega) rfl rfl rfl (pz_sI_o h a _ x) (pz_sI_I h a _ x) rfl rfl (fun q => by omega) z ?_ oq (hS.put z oq (Nat.le_add_right _ _)))
  rw [e1]
  show some ((arrV (cT 100) (pz_L h a) (fun j => .int (pz_I h a j))).setSlot _ _) = some (arrV (cT 100) (pz_L h a) (fun j => .int (upd (pz_I h a) _ x j)))
  rw [arrV_store]
  congr 2
  funext q
  by_cases hq : q = i.toNatClampNeg
  · subst hq
    simp [updV, upd]
  · simp [updV, upd, hq]
theorem pz_bast (hc : pz_Cx m D cT base p s mid args meth c) (hA : pz_At D cT base sa m s h ls H locs mls) {a : Nat} {i x : Int32} (hC : pz_C h a = 101 ∨ pz_C h a = 102) (hi : pz_in i (pz_L h a) = true) (hd : decode m.2.2.1 pc = .ok (.bastore, 1))
    (kk : ∀ (H' : Heap) (locs' : List Loc), pz_At D cT base sa m s (pz_sI h a i.toNatClampNeg (if pz_C h a = 101 then vp_nar .byte x else vp_nar .boolean x)) ls H' locs' mls → W p l e R s mid args below meth c H' locs' cells slots Q (F0 mid (pc + 1) mls (rest.map (pz_lv base sa)))) : W p l e R s mid args below meth c H locs cells slots Q (F0 mid pc mls ((.int x :: .int i :: .ref a :: rest).map (pz_lv base sa))) := by
  obtain ⟨hH, hS, hl⟩ := id hA
  obtain ⟨hx, hb, hml, hown, hts, hK, hbs, hlk, hr, hnm⟩ := id hc
  rcases hC with hC | hC
  · rw [if_pos hC] at kk
    refine W.bast hx hb (hH.2.1 a _ (pz_prim hH hC (by omega) (by omega))) ((hK.2 1 _ rfl).1 (pz_L h a) (fun j => .int (pz_I h a j))) (fun q => by cases q) (by show ¬ (i < 0 ∨ (arrV _ _ _).slots.size ≤ _); rw [arrV_size]; exact pz_vin hi) rfl rfl hd fun H1 e1 z oq => ?_
    refine kk H1 _ (hA.row hC (by omega) (by omega) rfl rfl rfl (pz_sI_o h a _ _) (pz_sI_I h a _ _) rfl rfl (fun _ => pz_upd_fit (hH.2.2.2 a hC) (pz_nar_fit x)) z ?_ oq (hS.put z oq (Nat.le_add_right _ _)))
    rw [e1]
    show some ((arrV (cT 101) (pz_L h a) (fun j => .int (pz_I h a j))).setSlot _ _) = some (arrV (cT 101) (pz_L h a) (fun j => .int (upd (pz_I h a) _ (vp_nar .byte x) j)))
    rw [arrV_store]
    congr 2
    funext q
    by_cases hq : q = i.toNatClampNeg
    · subst hq
      simp [updV, upd, vp_nar]
      try rfl
    · simp [updV, upd, hq]
  · rw [if_neg (by omega)] at kk
    refine W.zast hx hb (hH.2.1 a _ (pz_prim hH hC (by omega) (by omega))) ((hK.2 2 _ rfl).1 (pz_L h a) (fun j => .int (pz_I h a j))) (fun q => by cases q) (by show ¬ (i < 0 ∨ (arrV _ _ _).slots.size ≤ _); rw [arrV_size]; exact pz_vin hi) rfl rfl hd fun H1 e1 z oq => ?_
    refine kk H1 _ (hA.row hC (by omega) (by omega) rfl rfl rfl (pz_sI_o h a _ _) (pz_sI_I h a _ _) rfl rfl (fun q => by omega) z ?_ oq (hS.put z oq (Nat.le_add_right _ _)))
    rw [e1]
    show some ((arrV (cT 102) (pz_L h a) (fun j => .int (pz_I h a j))).setSlot _ _) = some (arrV (cT 102) (pz_L h a) (fun j => .int (upd (pz_I h a) _ (vp_nar .boolean x) j)))
    rw [arrV_store]
    congr 2
    funext q
    by_cases hq : q = i.toNatClampNeg
    · subst hq
      simp [updV, upd, vp_nar]
      try rfl
    · simp [updV, upd, hq]
theorem pz_aast (hc : pz_Cx m D cT base p s mid args meth c) (hA : pz_At D cT base sa m s h ls H locs mls) {a b : Nat} {i : Int32} (hC : (pz_C h a = 110 ∧ pz_C h b = 2) ∨ (pz_C h a = 111 ∧ pz_C h b = 3)) (hi : pz_in i (pz_L h a) = true) (hd : decode m.2.2.1 pc = .ok (.aastore, 1))
    (kk : ∀ (H' : Heap) (locs' : List Loc), pz_At D cT base sa m s (pz_sR h a i.toNatClampNeg (some b)) ls H' locs' mls → W p l e R s mid args below meth c H' locs' cells slots Q (F0 mid (pc + 1) mls (rest.map (pz_lv base sa)))) : W p l e R s mid args below meth c H locs cells slots Q (F0 mid pc mls ((.ref b :: .int i :: .ref a :: rest).map (pz_lv base sa))) := by
  obtain ⟨hH, hS, hl⟩ := id hA
  obtain ⟨hx, hb, hml, hown, hts, hK, hbs, hlk, hr, hnm⟩ := id hc
  obtain ⟨t, ci, t0, rr, hCa, hCb, ht1, ht2, hty, hcl⟩ : ∃ (t ci t0 : Nat) (rr : vw_C), pz_C h a = t ∧ pz_C h b = ci ∧ 110 ≤ t ∧ t < 999 ∧ (pz_tys cT)[t0]? = some (cT t, .object rr.1) ∧ vwCl[ci]? = some rr := by
    rcases hC with ⟨h1, h2⟩ | ⟨h1, h2⟩
    · exact ⟨110, 2, 3, _, h1, h2, by omega, by omega, rfl, rfl⟩
    · exact ⟨111, 3, 4, _, h1, h2, by omega, by omega, rfl, rfl⟩
  have hin := pz_vin hi
  have hlt : i.toNatClampNeg < pz_L h a := Nat.not_le.mp fun q => hin (Or.inr q)
  have h0 : ¬ i < 0 := fun q => hin (Or.inl q)
  have ha := pz_refs hH hCa ht1 ht2
  have hvb := pz_obj hH hCb hcl
  obtain ⟨r', hr', cellV, g1, g2, g3, -⟩ := hH.2.1 b _ hvb
  have hcls := (hK.1 ci rr hcl).2
  obtain ⟨kA, comp, k1, k2, k3, -⟩ := (hK.2 t0 _ hty).2
  have hcomp : comp = D.1 ci := Option.some.inj (k3.symm.trans hcls.1)
  subst hcomp
  obtain ⟨kC, hkC, -⟩ := hcls.2
  refine W.aast hx hb (hH.2.1 a _ ha) (fun q h => by cases h) (fun h => by cases h) k1 k2 rfl hkC ⟨h0, by show _ < (arrV _ _ _).slots.size; rw [arrV_size]; exact hlt⟩ g1 (fun q h => by rw [g3] at h; cases h) (by rw [g2]; exact hkC) (by rw [g2]; exact va_assign hcls) rfl rfl hd fun H1 e1 z oq => ?_
  refine kk H1 _ ⟨hH.put ha rfl rfl ?_ (x := .inl (cT t, pz_L h a, .inr (.inr (.inr (.inr (fun j => (pz_R (pz_sR h a i.toNatClampNeg (some b)) a j).map (fun q => base + q))))))) ?_ ?_ z ?_ oq, hS.put z oq (Nat.le_add_right _ _), hl⟩
  · intro x hxa
    have e2 : pz_R (pz_sR h a i.toNatClampNeg (some b)) x = pz_R h x := by
      funext j
      show pz_u2 (pz_R h) a _ _ x j = _
      unfold pz_u2
      rw [if_neg (fun q => hxa q.1)]
    unfold pz_ce pz_fv
    rw [e2]
    rfl
  · exact pz_ce_r (h := pz_sR h a i.toNatClampNeg (some b)) (t := t) hCa ht1
  · exact hH.2.2.2
  · show H1[base + a]? = some (vp_cell _ _)
    rw [e1]
    show some ((arrV (cT t) (pz_L h a) (fun j => va_rf ((pz_R h a j).map (fun q => base + q)))).setSlot _ _) = some (arrV (cT t) (pz_L h a) (fun j => va_rf ((pz_R (pz_sR h a i.toNatClampNeg (some b)) a j).map (fun q => base + q))))
    rw [arrV_store]
    congr 2
    funext q
    show updV _ _ _ q = va_rf ((pz_u2 (pz_R h) a i.toNatClampNeg (some b) a q).map (fun q => base + q))
    unfold updV pz_u2
    by_cases hq : q = i.toNatClampNeg
    · rw [if_pos hq, if_pos ⟨rfl, hq⟩]
      rfl
    · rw [if_neg hq, if_neg (fun z => hq z.2)]
end SND3
