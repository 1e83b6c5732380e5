/-! ===== the whole: a run of the pure machine is a run of the machine ===== -/
def pz_nr (o : Option PzR) : Prop := ∀ z, o ≠ some (.inr (.inl z))
theorem pz_nr_go {pc : Nat} {ls st : List Value} {h : PzH} : pz_nr (pz_go pc ls st h) := fun z e => by cases e
theorem pz_nr_no : pz_nr none := fun z e => by cases e
theorem pz_nr_ca {x : PzM × List Value × PzH × Nat × List Value × List Value} : pz_nr (some (.inr (.inr x))) := fun z e => by cases e
theorem pz_nr_gd {p : Prop} [Decidable p] {k : Option PzR} (g : pz_nr k) : pz_nr (pz_gd p k) := fun z e => g z (pz_gd_s e).2
theorem pz_nr_i1 {st : List Value} {k : Int32 → List Value → Option PzR} (g : ∀ a t, pz_nr (k a t)) : pz_nr (pz_i1 st k) := fun z e => by obtain ⟨a, t, -, e⟩ := pz_i1_s e; exact g a t z e
theorem pz_nr_i2 {st : List Value} {k : Int32 → Int32 → List Value → Option PzR} (g : ∀ a b t, pz_nr (k a b t)) : pz_nr (pz_i2 st k) := fun z e => by obtain ⟨a, b, t, -, e⟩ := pz_i2_s e; exact g a b t z e
theorem pz_nr_a1 {st : List Value} {k : Nat → List Value → Option PzR} (g : ∀ a t, pz_nr (k a t)) : pz_nr (pz_a1 st k) := fun z e => by obtain ⟨a, t, -, e⟩ := pz_a1_s e; exact g a t z e
theorem pz_nr_pa {n : Nat} {acc st : List Value} {k : List Value → List Value → Option PzR} (g : ∀ a b, pz_nr (k a b)) : pz_nr (pz_pa n acc st k) := fun z e => by
  obtain ⟨xs, rest, -, -, e⟩ := pz_pa_s _ _ _ e
  exact g _ _ z e
theorem pz_nr_fw {h : PzH} {a k kd : Nat} {v : Value} {kk : PzH → Option PzR} (g : ∀ h', pz_nr (kk h')) : pz_nr (pz_fw h a k kd v kk) := by
  unfold pz_fw
  split
  · exact fun z e => by obtain ⟨x, -, e⟩ := pz_vi_s e; exact g _ z e
  · exact fun z e => by obtain ⟨x, -, e⟩ := pz_vi_s e; exact g _ z (pz_gd_s e).2
  · exact fun z e => by obtain ⟨x, -, e⟩ := pz_vj_s e; exact g _ z e
  · split
    · exact g _
    · exact g _
    · exact pz_nr_no
  · exact pz_nr_no
theorem pz_nr_call {m : PzM} {kd : Nat} {c : PzM} {n pc : Nat} {ls st : List Value} {h : PzH} : pz_nr (pz_call m kd c n pc ls st h) := by
  unfold pz_call
  split
  all_goals repeat' first | exact pz_nr_ca | exact pz_nr_no | exact pz_nr_go | refine pz_nr_gd ?_ | refine pz_nr_i2 (fun _ _ _ => ?_) | refine pz_nr_a1 (fun _ _ => ?_) | refine pz_nr_pa (fun _ _ => ?_) | split
section SND7
variable {p : Program} {l : Launch} {e : Env} {R : Room} {s : State} {mid : MethodId} {args : Array Value} {below : List Frame} {meth : Method} {c : Code} {H : Heap} {locs : List Loc} {cells slots : Nat} {Q : State → Prop}
variable {m : PzM} {base : Nat} {sa : Nat → Nat} {mls : Array Slot} {pc n : Nat} {ls st : List Value} {h : PzH} {i : Instr} {D : va_G} {cT : Nat → ClassId}
set_option maxHeartbeats 4000000 in
theorem pz_sndr (hc : pz_Cx m D cT base p s mid args meth c) (hA : pz_At D cT base sa m s h ls H locs mls) {v : Option Value} {h2 : PzH} (hd : decode m.2.2.1 pc = .ok (i, n)) (hs : pz_e2 m i n pc ls st h = some (.inr (.inl (v, h2)))) : W p l e R s mid args below meth c H locs cells slots (MQ below (pz_QQ D cT base sa v h) args s cells slots (fun q => base ≤ q)) (F0 mid pc mls (st.map (pz_lv base sa))) := by
  obtain ⟨hx, hb, hml, hown, hts, hK, hbs, hlk, hr, hnm⟩ := id hc
  have hq : ∀ (o : Outcome), o = .returned (v.map (pz_lv base sa)) → ∀ t : State, t.heap = H → s.WarmedH t.vm → pz_QQ D cT base sa v h args s o t := by
    intro o ho t ht _
    refine ⟨ho, by rw [ht]; exact hA.1, by rw [ht]; exact hA.2.1.1, fun q g1 g2 => ?_⟩
    rw [ht]
    exact hA.2.1.2.1 q g1 g2
  have hf := hA.2.1.2.2
  cases i with
  | ireturn =>
    replace hs := pz_gd_s hs
    obtain ⟨rfl, hs⟩ := hs
    split at hs
    · obtain ⟨g, hs⟩ := pz_gd_s hs
      cases hs
      rcases g with g | ⟨g, g2⟩
      · exact W.iret hx hb (by rw [hr]; exact g) (hq _ rfl) hf hd hlk
      · exact W.zret hx hb (by rw [hr]; exact g) (by rcases g2 with rfl | rfl <;> rfl) (hq _ rfl) hf hd hlk
    · cases hs
  | lreturn =>
    replace hs := pz_gd_s hs
    obtain ⟨rfl, hs⟩ := hs
    split at hs
    · obtain ⟨g, hs⟩ := pz_gd_s hs
      cases hs
      exact W.lret hx hb (by rw [hr]; exact g) (hq _ rfl) hf hd hlk
    · cases hs
  | areturn =>
    replace hs := pz_gd_s hs
    obtain ⟨rfl, hs⟩ := hs
    split at hs
    · split at hs
      · rename_i a _ _ g
        cases hs
        exact W.aret (v := .ref (base + a)) hx hb (by rw [hr]; exact g) (Or.inl ⟨_, rfl⟩) (Or.inr ⟨_, rfl⟩) (hq _ rfl) hf hd hlk
      · rename_i a _ _ g
        cases hs
        exact W.aret (v := .ref (base + a)) hx hb (by rw [hr]; exact g) (Or.inr ⟨_, rfl⟩) (Or.inr ⟨_, rfl⟩) (hq _ rfl) hf hd hlk
      · cases hs
    · split at hs
      · rename_i _ _ g
        cases hs
        exact W.aret (v := .null) hx hb (by rw [hr]; exact g) (Or.inl ⟨_, rfl⟩) (Or.inl rfl) (hq _ rfl) hf hd hlk
      · rename_i _ _ g
        cases hs
        exact W.aret (v := .null) hx hb (by rw [hr]; exact g) (Or.inr ⟨_, rfl⟩) (Or.inl rfl) (hq _ rfl) hf hd hlk
      · cases hs
    · cases hs
  | return_ =>
    replace hs := pz_gd_s hs
    obtain ⟨rfl, hs⟩ := hs
    split at hs
    · obtain ⟨g, hs⟩ := pz_gd_s hs
      cases hs
      exact W.vret hx hb (by rw [hr]; exact g) (hq _ rfl) hf hd hlk
    · cases hs
  | _ =>
    exfalso
    refine (show pz_nr _ from ?_) _ hs
    simp only [pz_e2]
    repeat' first | exact pz_nr_no | exact pz_nr_go | exact pz_nr_call | (refine pz_nr_fw (fun _ => ?_); exact pz_nr_go) | refine pz_nr_gd ?_ | refine pz_nr_i1 (fun _ _ => ?_) | refine pz_nr_a1 (fun _ _ => ?_) | split
/-- the body of a method, from any place on -/
theorem pz_body {d : Nat} (IH : pz_Snd d) (hc : pz_Cx m D cT base p s mid args meth c) (hRf : d + 7 ≤ R.frames) (hRl : 360 + 60 * d ≤ R.locals) {v : Option Value} {hf : PzH} {CE SL : Nat} (hCE : CE ≤ R.cells) (hSL : SL ≤ R.slots)
    (hret : ∀ (pc n : Nat) (i : Instr) (ls st : List Value) (H : Heap) (locs : List Loc) (mls : Array Slot), decode m.2.2.1 pc = .ok (i, n) → pz_e2 m i n pc ls st hf = some (.inr (.inl (v, hf))) → pz_At D cT base sa m s hf ls H locs mls → W p l e R s mid args below meth c H locs CE SL Q (F0 mid pc mls (st.map (pz_lv base sa))))
    (hW : pz_W (pz_M d) m (fun a b => a = v ∧ b = hf) (pc, ls, st, h)) :
    ∀ (cells slots : Nat) (H : Heap) (locs : List Loc) (mls : Array Slot), cells + (pz_N hf - pz_N h) = CE → slots + (pz_S hf - pz_S h) = SL → pz_At D cT base sa m s h ls H locs mls → pz_EE base sa (pz_XL h) (pz_XS h) s → W p l e R s mid args below meth c H locs cells slots Q (F0 mid pc mls (st.map (pz_lv base sa))) := by
  have hC := pz_M_mono d
  refine (hW (fun q => pz_le q.2.2.2 hf ∧ ∀ (cells slots : Nat) (H : Heap) (locs : List Loc) (mls : Array Slot), cells + (pz_N hf - pz_N q.2.2.2) = CE → slots + (pz_S hf - pz_S q.2.2.2) = SL → pz_At D cT base sa m s q.2.2.2 q.2.1 H locs mls → pz_EE base sa (pz_XL q.2.2.2) (pz_XS q.2.2.2) s → W p l e R s mid args below meth c H locs cells slots Q (F0 mid q.1 mls (q.2.2.1.map (pz_lv base sa)))) ?_).2
  rintro ⟨pc, ls, st, h⟩ hs
  unfold pz_SP at hs
  dsimp only at hs ⊢
  cases hst : pz_st m pc ls st h with
  | none => rw [hst] at hs; exact hs.elim
  | some r =>
    rw [hst] at hs
    match r, hs, hst with
    | .inl (pc', ls', st', h'), hs, hst =>
      obtain ⟨hle, hk⟩ := hs
      dsimp only at hle hk
      have hle1 := pz_st_le hst
      refine ⟨pz_le_tr hle1 hle, fun cells slots H locs mls e1 e2 hA hE => ?_⟩
      have n1 := hle1.1
      have n2 := hle1.2.1
      have n3 := hle.1
      have n4 := hle.2.1
      have hE' : pz_EE base sa (pz_XL h') (pz_XS h') s := by rw [hle1.2.2.1, hle1.2.2.2]; exact hE
      obtain ⟨i, n, hd, ⟨-, e⟩ | ⟨-, e⟩⟩ := pz_st_s hst
      · have hls : ls' = ls := (pz_e2_g m i n st _ e).1
        subst hls
        exact pz_snd2 hc hA hE (by omega) (by omega) (by omega) (by omega) hd e ⟨by omega, by omega⟩ (fun ce sl H' locs' q1 q2 hA' => hk ce sl H' locs' mls (by omega) (by omega) hA' hE')
      · obtain ⟨a, b, c', q⟩ := pz_e1_g m i n pc ls st _ e
        cases q
        exact pz_snd1 hc.1 hc.2.1 hc.2.2.2.1 (hE.k hc) hd hA.2.2 e (fun pc2 ls2 st2 q mls' hl' => by
          cases q
          exact hk cells slots H locs mls' e1 e2 ⟨hA.1, hA.2.1, hl'⟩ hE)
    | .inr (.inl (v', h')), hs, hst =>
      obtain ⟨rfl, rfl⟩ := hs
      have q := pz_st_rt hst
      subst q
      refine ⟨⟨Nat.le_refl _, Nat.le_refl _, rfl, rfl⟩, fun cells slots H locs mls e1 e2 hA hE => ?_⟩
      have e1' : cells = CE := by omega
      have e2' : slots = SL := by omega
      rw [e1', e2']
      obtain ⟨i, n, hd, ⟨-, e⟩ | ⟨-, e⟩⟩ := pz_st_s hst
      · exact hret pc n i ls st H locs mls hd e hA
      · obtain ⟨a, b, c', q⟩ := pz_e1_g m i n pc ls st _ e
        cases q
    | .inr (.inr (cal, as, h2, pc', ls', rest)), hs, hst =>
      obtain ⟨rfl, rfl, rfl⟩ := pz_st_ca hst
      obtain ⟨r1, h1, ⟨hle, hk⟩, hM⟩ := pz_M_det d _ _ _ _ hs
      obtain ⟨r2, h3, ⟨⟨rfl, rfl⟩, hle1⟩, -⟩ := pz_M_det d _ _ _ _ (pz_M_le d _ _ _ _ hM)
      refine ⟨pz_le_tr hle1 hle, fun cells slots H locs mls e1 e2 hA hE => ?_⟩
      have n1 := hle1.1
      have n2 := hle1.2.1
      have n3 := hle.1
      have n4 := hle.2.1
      have hE' : pz_EE base sa (pz_XL h3) (pz_XS h3) s := by rw [hle1.2.2.1, hle1.2.2.2]; exact hE
      obtain ⟨i, n, hd, ⟨-, e⟩ | ⟨-, e⟩⟩ := pz_st_s hst
      · exact pz_sndc IH hc hA hE hRf hRl hd e hM ⟨by omega, by omega⟩ (fun H' locs' hA' => hk _ _ H' locs' mls (by omega) (by omega) hA' hE')
      · obtain ⟨a, b, c', q⟩ := pz_e1_g m i n pc _ st _ e
        cases q
end SND7
theorem pz_Snd_all : ∀ d, pz_Snd d
  | 0 => fun m as h v h' _ _ hM => hM.elim
  | d + 1 => by
    intro m as h v h' hm har hM l D cT base sa
    obtain ⟨v2, h3, ⟨⟨rfl, rfl⟩, hle⟩, -⟩ := pz_M_det (d + 1) _ _ _ _ (pz_M_le (d + 1) _ _ _ _ hM)
    have n1 := hle.1
    have n2 := hle.2.1
    obtain ⟨m1, m2, m3, m4, m5, m6, m7⟩ := id hm
    refine Met.ofW (cc := m.2.2.1) (maxL := m.2.2.2.1) (ret := m.2.2.2.2) m4 rfl ?_
    intro p e s mid args below meth c s₁ B hml hv
    obtain ⟨rfl, hH, hK, hE⟩ := hv
    have hts := atoms_spec (ws := pz_wsm m) B.pre
    have hown : s.vm.findClass m.2.1.cls = some mid.cls := findClass_of_methodNamed B.named
    have hnm : meth.name = m.2.1.name := (name_of_methodNamed B.named B.method).1
    have hbs : base ≤ s.heap.size := by rw [hH.1]; exact Nat.le_add_right _ _
    have hc : pz_Cx m D cT base p s mid (as.map (pz_lv base sa)).toArray meth c := ⟨B.exec, B.bytes, hml, by rw [← m3]; exact hown, fun w hw => hts w (List.mem_cons_of_mem _ hw), hK, hbs, B.notSynchronized, B.returns, fun q => hnm.trans q⟩
    rw [lg_entry_eq]
    have hA : pz_At D cT base sa m s h (pz_en m as) s.heap [] ((lg_sl (as.map (pz_lv base sa)) ++ List.replicate (m.2.2.2.1 - (lg_sl (as.map (pz_lv base sa))).length) Slot.unset).toArray) := ⟨hH, va_S.rf, pz_entry base sa m as har⟩
    have hRl : 360 + 60 * d ≤ (headSpec (pz_wsm m) (pz_rm (d + 1) (pz_N h3 - pz_N h) (pz_S h3 - pz_S h))).room.locals := by
      show 360 + 60 * d ≤ 300 + 60 * (d + 1)
      omega
    exact pz_body (pz_Snd_all d) hc (R := (headSpec (pz_wsm m) (pz_rm (d + 1) (pz_N h3 - pz_N h) (pz_S h3 - pz_S h))).room) (show d + 7 ≤ d + 1 + 6 by omega) hRl (CE := pz_N h3 - pz_N h) (SL := pz_S h3 - pz_S h) (Nat.le_refl _) (Nat.le_refl _) (fun pc n i ls st H locs mls hd hs hA => pz_sndr hc hA hd hs) hM 0 0 s.heap [] _ (Nat.zero_add _) (Nat.zero_add _) hA hE
