/-! ===== the machine does what the pure machine does ===== -/
/-- what a method finds of the script and of the texts -/
def pz_EE (base : Nat) (sa : Nat → Nat) (L : Nat) (X : Nat → Int32) (U : State) : Prop := va_X (sa 1000) L X U U.heap ∧ sa 1000 < base ∧ (∃ sv, pz_ST base sa sv U U.heap) ∧ (∀ (oc x : Nat) (y : UInt32), pz_lk (pz_kTab oc) x = some (.float y) → ∃ tx, vk_R (pz_Rn oc) x tx (sa y.toNat) U)
section SND5
variable {p : Program} {l : Launch} {e : Env} {R : Room} {s : State} {mid : MethodId} {args : Array Value} {below : List Frame} {meth : Method} {c : Code} {H : Heap} {locs : List Loc} {cells slots : Nat} {Q : State → Prop}
variable {m : PzM} {base : Nat} {sa : Nat → Nat} {mls : Array Slot} {pc n : Nat} {ls st : List Value} {h : PzH} {i : Instr} {D : va_G} {cT : Nat → ClassId}
theorem pz_EE.k {L : Nat} {X : Nat → Int32} (hc : pz_Cx m D cT base p s mid args meth c) (hE : pz_EE base sa L X s) : pz_kOK sa m.1 args s := by
  intro x v hv
  have q := pz_ktOK m.1 _ (pz_lk_mem _ hv)
  cases v with
  | int y => exact hc.w q rfl
  | long y => exact hc.w q rfl
  | float y => exact hE.2.2.2 _ _ _ hv
  | _ => exact q.elim
theorem pz_fv_rf (o : Option Nat) : pz_lv base sa (pz_rf o) = pz_lv base (fun _ => 0) (pz_rf o) := by cases o <;> rfl
theorem pz_ty_int {ci k : Nat} (h : 0 = pz_kd (pz_tyf ci k)) : pz_tyf ci k = .int := by
  cases e : pz_tyf ci k <;> rw [e] at h <;> first | rfl | (exfalso; simp [pz_kd] at h)
theorem pz_ty_bool {ci k : Nat} (h : 1 = pz_kd (pz_tyf ci k)) : pz_tyf ci k = .boolean := by
  cases e : pz_tyf ci k <;> rw [e] at h <;> first | rfl | (exfalso; simp [pz_kd] at h)
theorem pz_ty_long {ci k : Nat} (h : 2 = pz_kd (pz_tyf ci k)) : pz_tyf ci k = .long := by
  cases e : pz_tyf ci k <;> rw [e] at h <;> first | rfl | (exfalso; simp [pz_kd] at h)
theorem pz_ty_ref {ci k : Nat} (h : 3 = pz_kd (pz_tyf ci k)) : (∃ n, pz_tyf ci k = .object n) ∨ ∃ t, pz_tyf ci k = .array t := by
  cases e : pz_tyf ci k <;> rw [e] at h <;> first | exact Or.inl ⟨_, rfl⟩ | exact Or.inr ⟨_, rfl⟩ | (exfalso; simp [pz_kd] at h)
theorem pz_len {L : Nat} {X : Nat → Int32} (hc : pz_Cx m D cT base p s mid args meth c) (hA : pz_At D cT base sa m s h ls H locs mls) (hE : pz_EE base sa L X s) {x nn : Nat} {kf : UInt32} {cc : PzM} {rest : List Value} (ht : pz_lk (pz_cTab m.1) x = some (5, cc, nn)) (hk : kf.toNat < pz_sn) (h8 : (rest.map fun v => v.category).sum ≤ 8) (hd : decode m.2.2.1 pc = .ok (.invokevirtual x, 3)) (hRf : 6 ≤ R.frames) (hRl : 300 ≤ R.locals) (hce : cells ≤ R.cells) (hsl : slots ≤ R.slots)
    (kk : W p l e R s mid args below meth c H locs cells slots Q (F0 mid (pc + 3) mls ((.int (nI (pz_sl.getD kf.toNat 0)) :: rest).map (pz_lv base sa)))) : W p l e R s mid args below meth c H locs cells slots Q (F0 mid pc mls ((.float kf :: rest).map (pz_lv base sa))) := by
  obtain ⟨hx, hb, hml, hown, hts, hK, hbs, hlk, hr, hnm⟩ := id hc
  obtain ⟨sv, hST⟩ := hE.2.2.1
  have w1 := pz_cOK m.1 _ (pz_lk_mem _ ht)
  refine pz_afterR (va_runV (As := []) (rest := rest.map (pz_lv base sa)) (C := "java/lang/String") (b := sa kf.toNat) (n := 0) ⟨hx, hb, hml, hown, hts⟩ (j_length l (base := base) (sv := sv) hk) ⟨⟨rfl, rfl, (show 2 + 1 ≤ R.frames by omega), (show 8 + (1 + 11) + 100 ≤ R.locals by omega), pz_jws hts jw_code_J0_length_8abf5, List.mem_cons_self, hts _ (pz_WL_in jw_code_J0_length_8abf5 rfl), hts _ (pz_WL_in jw_ini_S rfl), ⟨by decide, by decide⟩, fun sig h => (by have q : (parseMethodDescriptor yJ0_length_8abf5.desc).map (fun d => d.parameters.length) = some 0 := (by decide +kernel); rw [h] at q; exact (Option.some.inj q).symm), hts _ (pz_WL_in w1 rfl)⟩, hts _ (pz_WL_in jw_inst_J0_length_8abf5 rfl), hts _ (pz_WL_in jw_sel_J0_length_8abf5 rfl)⟩ ⟨pz_TP_blind, vk_recv (i := 0) (hST.1 kf.toNat hk) (by decide) hA.2.1, fun U hU hW => ⟨rfl, by show pz_ST base sa sv U U.heap; rw [hU]; exact (hST.kept (fun a ha hb => hA.2.1.2.1 a ha hb)).moved hW.alike⟩⟩ rfl rfl hA.2.2.1 rfl (by show 2 * 0 + _ ≤ 8; rw [pz_lv_sum]; omega) hd ⟨hce, hsl⟩) kk
theorem pz_cat {L : Nat} {X : Nat → Int32} (hc : pz_Cx m D cT base p s mid args meth c) (hA : pz_At D cT base sa m s h ls H locs mls) (hE : pz_EE base sa L X s) {x nn : Nat} {y : Int32} {kf : UInt32} {cc : PzM} {rest : List Value} (ht : pz_lk (pz_cTab m.1) x = some (6, cc, nn)) (hk : kf.toNat < pz_sn) (hy : pz_in y (pz_sl.getD kf.toNat 0) = true) (h8 : (rest.map fun v => v.category).sum ≤ 8) (hd : decode m.2.2.1 pc = .ok (.invokevirtual x, 3)) (hRf : 6 ≤ R.frames) (hRl : 300 ≤ R.locals) (hce : cells ≤ R.cells) (hsl : slots ≤ R.slots)
    (kk : W p l e R s mid args below meth c H locs cells slots Q (F0 mid (pc + 3) mls ((.int (pz_ch kf.toNat y.toNatClampNeg) :: rest).map (pz_lv base sa)))) : W p l e R s mid args below meth c H locs cells slots Q (F0 mid pc mls ((.int y :: .float kf :: rest).map (pz_lv base sa))) := by
  obtain ⟨hx, hb, hml, hown, hts, hK, hbs, hlk, hr, hnm⟩ := id hc
  obtain ⟨sv, hST⟩ := hE.2.2.1
  have w1 := pz_cOK m.1 _ (pz_lk_mem _ ht)
  have h1000 := pz_sl_lt kf.toNat hk
  obtain ⟨j, hj, rfl⟩ := vp_in_of (pz_vin hy) (by omega)
  rw [nI_clamp (by omega)] at kk
  refine pz_afterR (va_runV (As := [.int (nI j)]) (rest := rest.map (pz_lv base sa)) (C := "java/lang/String") (b := sa kf.toNat) (n := 1) ⟨hx, hb, hml, hown, hts⟩ (j_charAt l (base := base) (sv := sv) hk hj) ⟨⟨rfl, rfl, (show 4 + 1 ≤ R.frames by omega), (show 8 + (2 + 11) + 260 ≤ R.locals by omega), pz_jws hts jw_code_J0_charAt_5068e, List.mem_cons_self, hts _ (pz_WL_in jw_code_J0_charAt_5068e rfl), hts _ (pz_WL_in jw_ini_S rfl), ⟨by decide, by decide⟩, fun sig h => (by have q : (parseMethodDescriptor yJ0_charAt_5068e.desc).map (fun d => d.parameters.length) = some 1 := (by decide +kernel); rw [h] at q; exact (Option.some.inj q).symm), hts _ (pz_WL_in w1 rfl)⟩, hts _ (pz_WL_in jw_inst_J0_charAt_5068e rfl), hts _ (pz_WL_in jw_sel_J0_charAt_5068e rfl)⟩ ⟨pz_TP_blind, vk_recv (i := 0) (hST.1 kf.toNat hk) (by decide) hA.2.1, fun U hU hW => ⟨rfl, by show pz_ST base sa sv U U.heap; rw [hU]; exact (hST.kept (fun a ha hb => hA.2.1.2.1 a ha hb)).moved hW.alike⟩⟩ rfl rfl hA.2.2.1 rfl (by show 2 * 0 + _ ≤ 8; rw [pz_lv_sum]; omega) hd ⟨hce, hsl⟩) kk
set_option maxHeartbeats 4000000 in
theorem pz_snd2 (hc : pz_Cx m D cT base p s mid args meth c) (hA : pz_At D cT base sa m s h ls H locs mls) (hE : pz_EE base sa (pz_XL h) (pz_XS h) s) (hRf : 6 ≤ R.frames) (hRl : 300 ≤ R.locals) (hce : cells ≤ R.cells) (hsl : slots ≤ R.slots) {pc' : Nat} {ls' st' : List Value} {h' : PzH} (hd : decode m.2.2.1 pc = .ok (i, n)) (hs : pz_e2 m i n pc ls st h = some (.inl (pc', ls', st', h'))) (hroom : cells + (pz_N h' - pz_N h) ≤ R.cells ∧ slots + (pz_S h' - pz_S h) ≤ R.slots)
    (kk : ∀ (ce sl : Nat) (H' : Heap) (locs' : List Loc), ce = cells + (pz_N h' - pz_N h) → sl = slots + (pz_S h' - pz_S h) → pz_At D cT base sa m s h' ls H' locs' mls → W p l e R s mid args below meth c H' locs' ce sl Q (F0 mid pc' mls (st'.map (pz_lv base sa)))) : W p l e R s mid args below meth c H locs cells slots Q (F0 mid pc mls (st.map (pz_lv base sa))) := by
  obtain ⟨hx, hb, hml, hown, hts, hK, hbs, hlk, hr, hnm⟩ := id hc
  have z0 : cells = cells + (pz_N h - pz_N h) := by omega
  have z1 : slots = slots + (pz_S h - pz_S h) := by omega
  cases i with
  | getfield x =>
    replace hs := pz_gd_s hs
    obtain ⟨rfl, hs⟩ := hs
    replace hs := pz_a1_s hs
    obtain ⟨a, t, rfl, hs⟩ := hs
    split at hs
    · rename_i ci k kd fin ht
      replace hs := pz_gd_s hs
      obtain ⟨hC, hs⟩ := hs
      cases hs
      exact pz_getf hc hA ht hC hd (kk _ _ _ _ z0 z1 hA)
    · cases hs
  | putfield x =>
    replace hs := pz_gd_s hs
    obtain ⟨rfl, hs⟩ := hs
    split at hs
    · rename_i v a t
      split at hs
      · rename_i ci k kd fin ht
        replace hs := pz_gd_s hs
        obtain ⟨⟨hC, hfi⟩, hs⟩ := hs
        obtain ⟨⟨C, T, N⟩, hq, hk, hkd, hfin, hw⟩ := pz_fOK m.1 _ (pz_lk_mem _ ht)
        obtain ⟨c1, c2, c3, c4, c5, c6, c7, c8, c9, c10, c11⟩ := pz_clOK ci _ hq
        dsimp only at hk hkd c7
        have hkk : kd = pz_kd (pz_tyf ci k) := hkd.trans (c7 k hk)
        unfold pz_fw at hs
        split at hs
        · replace hs := pz_vi_s hs
          obtain ⟨y, rfl, hs⟩ := hs
          cases hs
          have ty := pz_ty_int hkk
          exact pz_putf hc hA (h' := pz_sI h a k y) ht hC hfi hd (by rw [ty]; rfl) (by rw [ty]; rfl) rfl rfl rfl (pz_sI_o h a k y) (fun _ _ => rfl) (fun _ _ => rfl) (fun j => by
            rw [pz_fv_set_I (kd := 0) (Or.inl rfl) a j _ (fun _ e => by rw [e]; exact hkd.symm)]
            by_cases hj : j = k
            · rw [if_pos ⟨rfl, hj⟩, if_pos hj]
            · rw [if_neg (fun z => hj z.2), if_neg hj]) rfl (fun H' locs' q => kk _ _ _ _ z0 z1 q)
        · replace hs := pz_vi_s hs
          obtain ⟨y, rfl, hs⟩ := hs
          replace hs := pz_gd_s hs
          obtain ⟨hy, hs⟩ := hs
          cases hs
          have ty := pz_ty_bool hkk
          exact pz_putf hc hA (h' := pz_sI h a k y) ht hC hfi hd (by rw [ty]; rcases hy with rfl | rfl <;> rfl) (by rw [ty]; rcases hy with rfl | rfl <;> rfl) rfl rfl rfl (pz_sI_o h a k y) (fun _ _ => rfl) (fun _ _ => rfl) (fun j => by
            rw [pz_fv_set_I (kd := 1) (Or.inr rfl) a j _ (fun _ e => by rw [e]; exact hkd.symm)]
            by_cases hj : j = k
            · rw [if_pos ⟨rfl, hj⟩, if_pos hj]
            · rw [if_neg (fun z => hj z.2), if_neg hj]) rfl (fun H' locs' q => kk _ _ _ _ z0 z1 q)
        · replace hs := pz_vj_s hs
          obtain ⟨y, rfl, hs⟩ := hs
          cases hs
          have ty := pz_ty_long hkk
          exact pz_putf hc hA (h' := pz_sJ h a k y) ht hC hfi hd (by rw [ty]; rfl) (by rw [ty]; rfl) rfl rfl rfl (fun _ _ => rfl) (fun _ _ => rfl) (fun b hb => by
            funext j
            show pz_u2 (pz_J h) a k y b j = _
            unfold pz_u2
            rw [if_neg (fun q => hb q.1)]) (fun j => by
            rw [pz_fv_set_J a j _ (fun _ e => by rw [e]; exact hkd.symm)]
            by_cases hj : j = k
            · rw [if_pos ⟨rfl, hj⟩, if_pos hj]
            · rw [if_neg (fun z => hj z.2), if_neg hj]) rfl (fun H' locs' q => kk _ _ _ _ z0 z1 q)
        · have ty := pz_ty_ref hkk
          have ho : ∀ (z : Option Nat) (b : Nat), b ≠ a → pz_R (pz_sR h a k z) b = pz_R h b := fun z b hb => by
            funext j
            show pz_u2 (pz_R h) a k z b j = _
            unfold pz_u2
            rw [if_neg (fun q => hb q.1)]
          split at hs
          · rename_i b
            cases hs
            exact pz_putf hc hA (h' := pz_sR h a k (some b)) ht hC hfi hd (by rcases ty with ⟨n, ty⟩ | ⟨n, ty⟩ <;> rw [ty] <;> rfl) (by rcases ty with ⟨n, ty⟩ | ⟨n, ty⟩ <;> rw [ty] <;> rfl) rfl rfl rfl (fun _ _ => rfl) (ho _) (fun _ _ => rfl) (fun j => by
              rw [pz_fv_set_R a j _ (fun _ e => by rw [e]; exact hkd.symm)]
              by_cases hj : j = k
              · rw [if_pos ⟨rfl, hj⟩, if_pos hj]; rfl
              · rw [if_neg (fun z => hj z.2), if_neg hj]) rfl (fun H' locs' q => kk _ _ _ _ z0 z1 q)
          · cases hs
            exact pz_putf hc hA (h' := pz_sR h a k none) ht hC hfi hd (by rcases ty with ⟨n, ty⟩ | ⟨n, ty⟩ <;> rw [ty] <;> rfl) (by rcases ty with ⟨n, ty⟩ | ⟨n, ty⟩ <;> rw [ty] <;> rfl) rfl rfl rfl (fun _ _ => rfl) (ho _) (fun _ _ => rfl) (fun j => by
              rw [pz_fv_set_R a j _ (fun _ e => by rw [e]; exact hkd.symm)]
              by_cases hj : j = k
              · rw [if_pos ⟨rfl, hj⟩, if_pos hj]; rfl
              · rw [if_neg (fun z => hj z.2), if_neg hj]) rfl (fun H' locs' q => kk _ _ _ _ z0 z1 q)
          · cases hs
        · cases hs
      · cases hs
    · cases hs
  | new x =>
    replace hs := pz_gd_s hs
    obtain ⟨rfl, hs⟩ := hs
    split at hs
    · rename_i ci nf ht
      cases hs
      have e1 : pz_N (pz_new h ci 0 nf) - pz_N h = 1 := by show pz_N h + 1 - pz_N h = 1; omega
      have e2 : pz_S (pz_new h ci 0 nf) - pz_S h = nf := by show pz_S h + nf - pz_S h = nf; omega
      rw [e1, e2] at hroom
      exact pz_newo hc hA ht hd hroom.1 hroom.2 (fun H' q => kk _ _ _ _ (by rw [e1]) (by rw [e2]) q)
    · cases hs
  | newarray t =>
    replace hs := pz_gd_s hs
    obtain ⟨rfl, hs⟩ := hs
    replace hs := pz_i1_s hs
    obtain ⟨x, r, rfl, hs⟩ := hs
    replace hs := pz_gd_s hs
    obtain ⟨⟨g1, g2, g3⟩, hs⟩ := hs
    cases hs
    have e1 : pz_N (pz_new h (pz_at t) x.toNatClampNeg x.toNatClampNeg) - pz_N h = 1 := by show pz_N h + 1 - pz_N h = 1; omega
    have e2 : pz_S (pz_new h (pz_at t) x.toNatClampNeg x.toNatClampNeg) - pz_S h = x.toNatClampNeg := by show pz_S h + x.toNatClampNeg - pz_S h = _; omega
    rw [e1, e2] at hroom
    exact pz_newp hc hA g1 g2 g3 hd hroom.1 hroom.2 (fun H' q => kk _ _ _ _ (by rw [e1]) (by rw [e2]) q)
  | anewarray x =>
    replace hs := pz_gd_s hs
    obtain ⟨rfl, hs⟩ := hs
    replace hs := pz_i1_s hs
    obtain ⟨y, r, rfl, hs⟩ := hs
    split at hs
    · rename_i tag ci ht
      replace hs := pz_gd_s hs
      obtain ⟨⟨g1, g2⟩, hs⟩ := hs
      cases hs
      have e1 : pz_N (pz_new h tag y.toNatClampNeg y.toNatClampNeg) - pz_N h = 1 := by show pz_N h + 1 - pz_N h = 1; omega
      have e2 : pz_S (pz_new h tag y.toNatClampNeg y.toNatClampNeg) - pz_S h = y.toNatClampNeg := by show pz_S h + y.toNatClampNeg - pz_S h = _; omega
      rw [e1, e2] at hroom
      exact pz_newr hc hA ht g1 g2 hd hroom.1 hroom.2 (fun H' q => kk _ _ _ _ (by rw [e1]) (by rw [e2]) q)
    · cases hs
  | arraylength =>
    replace hs := pz_gd_s hs
    obtain ⟨rfl, hs⟩ := hs
    split at hs
    · replace hs := pz_gd_s hs
      obtain ⟨hC, hs⟩ := hs
      cases hs
      exact pz_alen hc hA hC hd (kk _ _ _ _ z0 z1 hA)
    · cases hs
      exact va_slen hx hb (A := fun q => base ≤ q) hE.1 (Nat.lt_of_lt_of_le hE.2.1 hbs) (Nat.not_le.mpr hE.2.1) hA.2.1 hd (kk _ _ _ _ z0 z1 hA)
    · cases hs
  | iaload =>
    replace hs := pz_gd_s hs
    obtain ⟨rfl, hs⟩ := hs
    split at hs
    · replace hs := pz_gd_s hs
      obtain ⟨⟨hC, hi⟩, hs⟩ := hs
      cases hs
      exact pz_iald hc hA hC hi hd (kk _ _ _ _ z0 z1 hA)
    · replace hs := pz_gd_s hs
      obtain ⟨hi, hs⟩ := hs
      cases hs
      exact va_sld hx hb (A := fun q => base ≤ q) hE.1 (Nat.lt_of_lt_of_le hE.2.1 hbs) (Nat.not_le.mpr hE.2.1) hA.2.1 (pz_vin hi) hd (kk _ _ _ _ z0 z1 hA)
    · cases hs
  | baload =>
    replace hs := pz_gd_s hs
    obtain ⟨rfl, hs⟩ := hs
    split at hs
    · replace hs := pz_gd_s hs
      obtain ⟨⟨hC, hi⟩, hs⟩ := hs
      cases hs
      exact pz_bald hc hA hC hi hd (kk _ _ _ _ z0 z1 hA)
    · cases hs
  | iastore =>
    replace hs := pz_gd_s hs
    obtain ⟨rfl, hs⟩ := hs
    split at hs
    · replace hs := pz_gd_s hs
      obtain ⟨⟨hC, hi⟩, hs⟩ := hs
      cases hs
      exact pz_iast hc hA hC hi hd (fun H' locs' q => kk _ _ _ _ z0 z1 q)
    · cases hs
  | bastore =>
    replace hs := pz_gd_s hs
    obtain ⟨rfl, hs⟩ := hs
    split at hs
    · replace hs := pz_gd_s hs
      obtain ⟨⟨hC, hi⟩, hs⟩ := hs
      cases hs
      exact pz_bast hc hA hC hi hd (fun H' locs' q => kk _ _ _ _ z0 z1 q)
    · cases hs
  | aaload =>
    replace hs := pz_gd_s hs
    obtain ⟨rfl, hs⟩ := hs
    split at hs
    · replace hs := pz_gd_s hs
      obtain ⟨⟨hC, hi⟩, hs⟩ := hs
      cases hs
      exact pz_aald hc hA hC hi hd (kk _ _ _ _ z0 z1 hA)
    · cases hs
  | aastore =>
    replace hs := pz_gd_s hs
    obtain ⟨rfl, hs⟩ := hs
    split at hs
    · replace hs := pz_gd_s hs
      obtain ⟨⟨hC, hi⟩, hs⟩ := hs
      cases hs
      exact pz_aast hc hA hC hi hd (fun H' locs' q => kk _ _ _ _ z0 z1 q)
    · cases hs
  | invokevirtual x =>
    replace hs := pz_gd_s hs
    obtain ⟨rfl, hs⟩ := hs
    split at hs
    · rename_i kd cc k ht
      replace hs := pz_gd_s hs
      obtain ⟨hkd, hs⟩ := hs
      rcases hkd with rfl | rfl | rfl
      · exfalso
        unfold pz_call at hs
        replace hs := pz_pa_s _ _ _ hs
        obtain ⟨xs, rest, -, -, hs⟩ := hs
        split at hs
        · exact absurd (pz_gd_s hs).2 (by intro q; cases q)
        · cases hs
      · simp only [pz_call] at hs
        split at hs
        · rename_i kf r
          replace hs := pz_gd_s hs
          obtain ⟨⟨g1, g2⟩, hs⟩ := hs
          cases hs
          exact pz_len hc hA hE ht g1 g2 hd hRf hRl hce hsl (kk _ _ _ _ z0 z1 hA)
        · cases hs
      · simp only [pz_call] at hs
        split at hs
        · rename_i xi kf r
          replace hs := pz_gd_s hs
          obtain ⟨⟨g1, g2, g3⟩, hs⟩ := hs
          cases hs
          exact pz_cat hc hA hE ht g1 g2 g3 hd hRf hRl hce hsl (kk _ _ _ _ z0 z1 hA)
        · cases hs
    · cases hs
  | invokestatic x =>
    replace hs := pz_gd_s hs
    obtain ⟨rfl, hs⟩ := hs
    split at hs
    · rename_i kd cc k ht
      replace hs := pz_gd_s hs
      obtain ⟨hkd, hs⟩ := hs
      rcases hkd with rfl | rfl | rfl | rfl | rfl
      · exfalso
        unfold pz_call at hs
        replace hs := pz_pa_s _ _ _ hs
        obtain ⟨xs, rest, -, -, hs⟩ := hs
        exact absurd (pz_gd_s hs).2 (by intro q; cases q)
      · simp only [pz_call] at hs
        split at hs
        · replace hs := pz_gd_s hs
          obtain ⟨⟨g1, g2, g3, g4, g5, g6, g7, g8⟩, hs⟩ := hs
          cases hs
          exact pz_copy hc hA ht hd g8 (by omega) (by omega) g1 g2 g3 g4 g5 g6 g7 (fun H' locs' q => kk _ _ _ _ z0 z1 q)
        · cases hs
      · exfalso
        unfold pz_call at hs
        replace hs := pz_pa_s _ _ _ hs
        obtain ⟨xs, rest, -, -, hs⟩ := hs
        exact absurd (pz_gd_s hs).2 (by intro q; cases q)
      · unfold pz_call at hs
        replace hs := pz_i2_s hs
        obtain ⟨a, b, r, rfl, hs⟩ := hs
        replace hs := pz_gd_s hs
        obtain ⟨g1, hs⟩ := hs
        cases hs
        exact pz_mm hc hA ht (Or.inl rfl) hd g1 (by omega) (by omega) hce hsl (kk _ _ _ _ z0 z1 hA)
      · unfold pz_call at hs
        replace hs := pz_i2_s hs
        obtain ⟨a, b, r, rfl, hs⟩ := hs
        replace hs := pz_gd_s hs
        obtain ⟨g1, hs⟩ := hs
        cases hs
        exact pz_mm hc hA ht (Or.inr rfl) hd g1 (by omega) (by omega) hce hsl (kk _ _ _ _ z0 z1 hA)
    · cases hs
  | invokespecial x =>
    replace hs := pz_gd_s hs
    obtain ⟨rfl, hs⟩ := hs
    split at hs
    · rename_i kd cc k ht
      replace hs := pz_gd_s hs
      obtain ⟨hkd, hs⟩ := hs
      rcases hkd with rfl | rfl | rfl
      · exfalso
        unfold pz_call at hs
        replace hs := pz_pa_s _ _ _ hs
        obtain ⟨xs, rest, -, -, hs⟩ := hs
        split at hs
        · exact absurd (pz_gd_s hs).2 (by intro q; cases q)
        · cases hs
      · unfold pz_call at hs
        replace hs := pz_a1_s hs
        obtain ⟨a, r, rfl, hs⟩ := hs
        replace hs := pz_gd_s hs
        obtain ⟨g1, hs⟩ := hs
        cases hs
        exact pz_objI hc hA ht hd g1 (by omega) (by omega) (kk _ _ _ _ z0 z1 hA)
      · exfalso
        unfold pz_call at hs
        replace hs := pz_pa_s _ _ _ hs
        obtain ⟨xs, rest, -, -, hs⟩ := hs
        split at hs
        · exact absurd (pz_gd_s hs).2 (by intro q; cases q)
        · cases hs
    · cases hs
  | ireturn =>
    replace hs := pz_gd_s hs
    obtain ⟨rfl, hs⟩ := hs
    split at hs
    · exact absurd (pz_gd_s hs).2 (by intro q; cases q)
    · cases hs
  | lreturn =>
    replace hs := pz_gd_s hs
    obtain ⟨rfl, hs⟩ := hs
    split at hs
    · exact absurd (pz_gd_s hs).2 (by intro q; cases q)
    · cases hs
  | areturn =>
    replace hs := pz_gd_s hs
    obtain ⟨rfl, hs⟩ := hs
    split at hs
    · split at hs <;> cases hs
    · split at hs <;> cases hs
    · cases hs
  | return_ =>
    replace hs := pz_gd_s hs
    obtain ⟨rfl, hs⟩ := hs
    split at hs
    · exact absurd (pz_gd_s hs).2 (by intro q; cases q)
    · cases hs
  | _ => cases hs
end SND5
