/-! ===== calls and returns ===== -/
def pz_wsm (m : PzM) : List Cond := Cond.code m.2.1 m.2.2.1 m.2.2.2.1 m.2.2.2.2 :: pz_WL
def pz_rm (d mc ms : Nat) : Room := { frames := d + 6, cells := mc, slots := ms, locals := 300 + 60 * d }
def pz_UU (D : va_G) (cT : Nat → ClassId) (base : Nat) (sa : Nat → Nat) (h : PzH) (U : State) : Prop := pz_HH D cT base h U.heap ∧ va_K D vwCl (pz_tys cT) U ∧ pz_EE base sa (pz_XL h) (pz_XS h) U
def pz_QQ (D : va_G) (cT : Nat → ClassId) (base : Nat) (sa : Nat → Nat) (v : Option Value) (h1 : PzH) : Array Value → State → Outcome → State → Prop := fun _ st o t => o = .returned (v.map (pz_lv base sa)) ∧ pz_HH D cT base h1 t.heap ∧ st.heap.size ≤ t.heap.size ∧ ∀ q : Nat, q < st.heap.size → ¬ base ≤ q → t.heap[q]? = st.heap[q]?
/-- the pure machine's runs of depth d are the machine's -/
def pz_Snd (d : Nat) : Prop := ∀ (m : PzM) (as : List Value) (h : PzH) (v : Option Value) (h' : PzH), pz_mP m → (pz_ar as).length ≤ m.2.2.2.1 → pz_M d m as h (fun a b => a = v ∧ b = h') → ∀ (l : Launch) (D : va_G) (cT : Nat → ClassId) (base : Nat) (sa : Nat → Nat), Met l m.2.1 (pz_wsm m) (pz_rm d (pz_N h' - pz_N h) (pz_S h' - pz_S h)) (va_Pc (as.map (pz_lv base sa)) (pz_UU D cT base sa h)) (pz_QQ D cT base sa v h') (pz_N h' - pz_N h) (pz_S h' - pz_S h) (fun q => base ≤ q)
def pz_nc (o : Option PzR) : Prop := ∀ z, o ≠ some (.inr (.inr z))
theorem pz_nc_go {pc : Nat} {ls st : List Value} {h : PzH} : pz_nc (pz_go pc ls st h) := fun z e => by cases e
theorem pz_nc_no : pz_nc none := fun z e => by cases e
theorem pz_nc_rt {v : Option Value} {h : PzH} : pz_nc (some (.inr (.inl (v, h)))) := fun z e => by cases e
theorem pz_nc_gd {p : Prop} [Decidable p] {k : Option PzR} (g : pz_nc k) : pz_nc (pz_gd p k) := fun z e => g z (pz_gd_s e).2
theorem pz_nc_i1 {st : List Value} {k : Int32 → List Value → Option PzR} (g : ∀ a t, pz_nc (k a t)) : pz_nc (pz_i1 st k) := fun z e => by obtain ⟨a, t, -, e⟩ := pz_i1_s e; exact g a t z e
theorem pz_nc_a1 {st : List Value} {k : Nat → List Value → Option PzR} (g : ∀ a t, pz_nc (k a t)) : pz_nc (pz_a1 st k) := fun z e => by obtain ⟨a, t, -, e⟩ := pz_a1_s e; exact g a t z e
theorem pz_nc_fw {h : PzH} {a k kd : Nat} {v : Value} {kk : PzH → Option PzR} (g : ∀ h', pz_nc (kk h')) : pz_nc (pz_fw h a k kd v kk) := by
  unfold pz_fw
  split
  · exact fun z e => by obtain ⟨x, -, e⟩ := pz_vi_s e; exact g _ z e
  · exact fun z e => by obtain ⟨x, -, e⟩ := pz_vi_s e; exact g _ z (pz_gd_s e).2
  · exact fun z e => by obtain ⟨x, -, e⟩ := pz_vj_s e; exact g _ z e
  · split
    · exact g _
    · exact g _
    · exact pz_nc_no
  · exact pz_nc_no
/-- the kinds of calls -/
def pz_inv (i : Instr) (x kd : Nat) : Prop := (i = .invokevirtual x ∧ kd = 0) ∨ (i = .invokestatic x ∧ (kd = 1 ∨ kd = 8)) ∨ (i = .invokespecial x ∧ (kd = 2 ∨ kd = 7))
theorem pz_call_nc {m : PzM} {kd : Nat} (hk : kd = 3 ∨ kd = 4 ∨ kd = 9 ∨ kd = 10 ∨ kd = 5 ∨ kd = 6) {c : PzM} {n pc : Nat} {ls st : List Value} {h : PzH} : pz_nc (pz_call m kd c n pc ls st h) := by
  rcases hk with rfl | rfl | rfl | rfl | rfl | rfl
  · exact pz_nc_a1 fun _ _ => pz_nc_gd pz_nc_go
  · simp only [pz_call]
    split
    · exact pz_nc_gd pz_nc_go
    · exact pz_nc_no
  · exact fun z e => by obtain ⟨a, b, t, -, e⟩ := pz_i2_s e; exact pz_nc_gd pz_nc_go z e
  · exact fun z e => by obtain ⟨a, b, t, -, e⟩ := pz_i2_s e; exact pz_nc_gd pz_nc_go z e
  · simp only [pz_call]
    split
    · exact pz_nc_gd pz_nc_go
    · exact pz_nc_no
  · simp only [pz_call]
    split
    · exact pz_nc_gd pz_nc_go
    · exact pz_nc_no
set_option maxHeartbeats 4000000 in
theorem pz_e2_call {m : PzM} {i : Instr} {n pc : Nat} {ls st : List Value} {h : PzH} {z : PzM × List Value × PzH × Nat × List Value × List Value} (hs : pz_e2 m i n pc ls st h = some (.inr (.inr z))) : ∃ x kd c k, pz_inv i x kd ∧ n = 3 ∧ pz_lk (pz_cTab m.1) x = some (kd, c, k) ∧ pz_call m kd c k pc ls st h = some (.inr (.inr z)) := by
  cases i with
  | invokevirtual x =>
    obtain ⟨hn, hs⟩ := pz_gd_s hs
    split at hs
    · rename_i kd c k ht
      obtain ⟨hk, hs⟩ := pz_gd_s hs
      rcases hk with hk | hk | hk
      · exact ⟨x, kd, c, k, Or.inl ⟨rfl, hk⟩, hn, ht, hs⟩
      · exact absurd hs (pz_call_nc (by omega) z)
      · exact absurd hs (pz_call_nc (by omega) z)
    · cases hs
  | invokestatic x =>
    obtain ⟨hn, hs⟩ := pz_gd_s hs
    split at hs
    · rename_i kd c k ht
      obtain ⟨hk, hs⟩ := pz_gd_s hs
      rcases hk with hk | hk | hk | hk | hk
      · exact ⟨x, kd, c, k, Or.inr (Or.inl ⟨rfl, Or.inl hk⟩), hn, ht, hs⟩
      · exact absurd hs (pz_call_nc (by omega) z)
      · exact ⟨x, kd, c, k, Or.inr (Or.inl ⟨rfl, Or.inr hk⟩), hn, ht, hs⟩
      · exact absurd hs (pz_call_nc (by omega) z)
      · exact absurd hs (pz_call_nc (by omega) z)
    · cases hs
  | invokespecial x =>
    obtain ⟨hn, hs⟩ := pz_gd_s hs
    split at hs
    · rename_i kd c k ht
      obtain ⟨hk, hs⟩ := pz_gd_s hs
      rcases hk with hk | hk | hk
      · exact ⟨x, kd, c, k, Or.inr (Or.inr ⟨rfl, Or.inl hk⟩), hn, ht, hs⟩
      · exact absurd hs (pz_call_nc (by omega) z)
      · exact ⟨x, kd, c, k, Or.inr (Or.inr ⟨rfl, Or.inr hk⟩), hn, ht, hs⟩
    · cases hs
  | _ =>
    exfalso
    refine (show pz_nc _ from ?_) z hs
    simp only [pz_e2]
    repeat' first | exact pz_nc_no | exact pz_nc_rt | exact pz_nc_go | (refine pz_nc_fw (fun _ => ?_); exact pz_nc_go) | refine pz_nc_gd ?_ | refine pz_nc_i1 (fun _ _ => ?_) | refine pz_nc_a1 (fun _ _ => ?_) | split
theorem pz_call_s {m c cal : PzM} {kd k pc pc' : Nat} {ls st as ls' rest : List Value} {h h2 : PzH} (hk : kd = 0 ∨ (kd = 1 ∨ kd = 8) ∨ (kd = 2 ∨ kd = 7)) (hs : pz_call m kd c k pc ls st h = some (.inr (.inr (cal, as, h2, pc', ls', rest)))) :
    cal = c ∧ (rest.map fun v => v.category).sum ≤ 8 ∧ (pz_ar as).length ≤ c.2.2.2.1 ∧ ((kd = 0 ∧ ∃ b ps, as = .ref b :: ps ∧ ps.length = k ∧ st = ps.reverse ++ .ref b :: rest ∧ pz_C h b = c.1) ∨ ((kd = 1 ∨ kd = 8) ∧ as.length = k ∧ st = as.reverse ++ rest) ∨ ((kd = 2 ∨ kd = 7) ∧ ∃ b ps, as = .ref b :: ps ∧ ps.length = k ∧ st = ps.reverse ++ .ref b :: rest)) := by
  have rv : ∀ (xs : List Value) (b : Nat) (ps : List Value), xs.reverse ++ [] = .ref b :: ps → xs.length = k + 1 → ps.length = k ∧ ∀ r, xs ++ r = ps.reverse ++ .ref b :: r := by
    intro xs b ps e hl
    have e1 : xs = ps.reverse ++ [.ref b] := by
      have := congrArg List.reverse e
      simpa using this
    refine ⟨?_, fun r => ?_⟩
    · rw [e1] at hl
      simp at hl
      exact hl
    · rw [e1]
      simp
  rcases hk with rfl | (rfl | rfl) | (rfl | rfl)
  · obtain ⟨xs, r0, e1, e2, hs⟩ := pz_pa_s _ _ _ hs
    split at hs
    · rename_i b ps e3
      obtain ⟨⟨g1, g2, g3⟩, hs⟩ := pz_gd_s hs
      cases hs
      obtain ⟨f1, f2⟩ := rv xs b ps e3 e2
      rw [e3] at g3 ⊢
      exact ⟨rfl, g2, g3, Or.inl ⟨rfl, b, ps, rfl, f1, e1.trans (f2 _), g1⟩⟩
    · cases hs
  · obtain ⟨xs, r0, e1, e2, hs⟩ := pz_pa_s _ _ _ hs
    obtain ⟨⟨g2, g3⟩, hs⟩ := pz_gd_s hs
    cases hs
    exact ⟨rfl, g2, g3, Or.inr (Or.inl ⟨Or.inl rfl, by simp [e2], by simp [e1]⟩)⟩
  · obtain ⟨xs, r0, e1, e2, hs⟩ := pz_pa_s _ _ _ hs
    obtain ⟨⟨g2, g3⟩, hs⟩ := pz_gd_s hs
    cases hs
    exact ⟨rfl, g2, g3, Or.inr (Or.inl ⟨Or.inr rfl, by simp [e2], by simp [e1]⟩)⟩
  · obtain ⟨xs, r0, e1, e2, hs⟩ := pz_pa_s _ _ _ hs
    split at hs
    · rename_i b ps e3
      obtain ⟨⟨g2, g3⟩, hs⟩ := pz_gd_s hs
      cases hs
      obtain ⟨f1, f2⟩ := rv xs b ps e3 e2
      rw [e3] at g3 ⊢
      exact ⟨rfl, g2, g3, Or.inr (Or.inr ⟨Or.inl rfl, b, ps, rfl, f1, e1.trans (f2 _)⟩)⟩
    · cases hs
  · obtain ⟨xs, r0, e1, e2, hs⟩ := pz_pa_s _ _ _ hs
    split at hs
    · rename_i b ps e3
      obtain ⟨⟨g2, g3⟩, hs⟩ := pz_gd_s hs
      cases hs
      obtain ⟨f1, f2⟩ := rv xs b ps e3 e2
      rw [e3] at g3 ⊢
      exact ⟨rfl, g2, g3, Or.inr (Or.inr ⟨Or.inr rfl, b, ps, rfl, f1, e1.trans (f2 _)⟩)⟩
    · cases hs
section SND6
variable {p : Program} {l : Launch} {e : Env} {R : Room} {s : State} {mid : MethodId} {args : Array Value} {below : List Frame} {meth : Method} {c : Code} {H : Heap} {locs : List Loc} {cells slots : Nat} {Q : State → Prop}
variable {m : PzM} {base : Nat} {sa : Nat → Nat} {mls : Array Slot} {pc n : Nat} {ls st : List Value} {h : PzH} {i : Instr} {D : va_G} {cT : Nat → ClassId}
theorem pz_after (hA : pz_At D cT base sa m s h ls H locs mls) {a : Array Value} {mc ms : Nat} {v : Option Value} {h1 : PzH} {rest st0 : List Value} (hr : va_Run p l e R s mid args below meth c H locs cells slots mc ms (F0 mid pc mls st0) (rest.map (pz_lv base sa)) (pz_QQ D cT base sa v h1 a) (fun q => base ≤ q))
    (kk : ∀ (H' : Heap) (locs' : List Loc), pz_At D cT base sa m s h1 ls H' locs' mls → W p l e R s mid args below meth c H' locs' (cells + mc) (slots + ms) Q (F0 mid (pc + 3) mls ((v.toList ++ rest).map (pz_lv base sa)))) : W p l e R s mid args below meth c H locs cells slots Q (F0 mid pc mls st0) := by
  intro T hT X
  obtain ⟨v', st₀, t, T', L, h0, X', hL, e1, e2, ⟨hv, hh1, hz, hk⟩, step⟩ := hr T hT X
  cases hv
  rw [h0] at hz hk
  have hS := hA.2.1
  obtain ⟨t2, a1, b1⟩ := kk T'.heap (locs ++ L) ⟨by rw [e1]; exact hh1, ⟨Nat.le_trans hS.1 (by rw [e1]; exact hz), fun q g1 g2 => by
      rw [e1, hk q (Nat.lt_of_lt_of_le g1 hS.1) g2]
      exact hS.2.1 q g1 g2, fun q hq => by
      rcases List.mem_append.mp hq with g | g
      · exact hS.2.2 q g
      · exact hL q g⟩, hA.2.2⟩ T' rfl X'
  have e3 : (v.toList ++ rest).map (pz_lv base sa) = (v.map (pz_lv base sa)).toList ++ rest.map (pz_lv base sa) := by cases v <;> simp
  rw [e3] at a1
  exact ⟨t2, step t2 a1, b1⟩
theorem pz_blind {as : List Value} : FrameBlind (va_Pc as (pz_UU D cT base sa h)) := fun a U g mk q => ⟨q.1, q.2.1, va_K.moved (u := U) (U := U.calling g mk a) (Vm.Alike.refl U.vm) q.2.2.1, va_X.moved (u := U) (U := U.calling g mk a) (Vm.Alike.refl U.vm) q.2.2.2.1, q.2.2.2.2.1, ⟨q.2.2.2.2.2.1.choose, pz_ST.moved (u := U) (U := U.calling g mk a) (Vm.Alike.refl U.vm) q.2.2.2.2.2.1.choose_spec⟩, fun oc x y hy => by
  obtain ⟨tx, hz⟩ := q.2.2.2.2.2.2 oc x y hy
  exact ⟨tx, vk_R.same (u := U) (U := U.calling g mk a) rfl hz⟩⟩
theorem pz_pre (hc : pz_Cx m D cT base p s mid args meth c) (hA : pz_At D cT base sa m s h ls H locs mls) (hE : pz_EE base sa (pz_XL h) (pz_XS h) s) {U : State} (hU : U.heap = H) (hW : s.WarmedH U.vm) : pz_UU D cT base sa h U := by
  obtain ⟨hx, hb, hml, hown, hts, hK, hbs, hlk, hr, hnm⟩ := id hc
  refine ⟨by rw [hU]; exact hA.1, va_K.moved hW.alike hK, ?_, hE.2.1, ?_, fun oc x y hy => ?_⟩
  · rw [hU]
    exact va_X.moved hW.alike (hE.1.kept (hA.2.1.2.1 _ (Nat.lt_of_lt_of_le hE.2.1 hbs) (Nat.not_le.mpr hE.2.1)))
  · obtain ⟨sv, hST⟩ := hE.2.2.1
    refine ⟨sv, ?_⟩
    rw [hU]
    exact (hST.kept (fun a ha hb => hA.2.1.2.1 a ha hb)).moved hW.alike
  · obtain ⟨tx, hz⟩ := hE.2.2.2 oc x y hy
    exact ⟨tx, vk_R.warm hW hz⟩
theorem pz_hws (hc : pz_Cx m D cT base p s mid args meth c) {cal : PzM} (hm : pz_mP cal) : ∀ w ∈ pz_wsm cal, ∀ (a' : Array Value) (U : State), s.WarmedH U.vm → w.before a' U = true := by
  intro w hw a' U hW
  rcases List.mem_cons.mp hw with rfl | hw
  · exact pz_keep rfl hW (hc.w hm.1 rfl)
  · exact pz_keep (List.mem_filter.mp hw).2 hW (hc.2.2.2.2.1 w hw)
theorem pz_cls11 : ∀ ci, ci < 11 → ∃ q, vwCl[ci]? = some q := by
  intro ci hci
  exact ⟨vwCl[ci]'(by exact hci), List.getElem?_eq_getElem (by exact hci)⟩
set_option maxHeartbeats 4000000 in
theorem pz_sndc {d : Nat} (IH : pz_Snd d) (hc : pz_Cx m D cT base p s mid args meth c) (hA : pz_At D cT base sa m s h ls H locs mls) (hE : pz_EE base sa (pz_XL h) (pz_XS h) s) (hRf : d + 7 ≤ R.frames) (hRl : 360 + 60 * d ≤ R.locals) {cal : PzM} {as rest ls' : List Value} {h2 h1 : PzH} {pc' : Nat} {v : Option Value} (hd : decode m.2.2.1 pc = .ok (i, n)) (hs : pz_e2 m i n pc ls st h = some (.inr (.inr (cal, as, h2, pc', ls', rest)))) (hM : pz_M d cal as h (fun a b => a = v ∧ b = h1))
    (hroom : cells + (pz_N h1 - pz_N h) ≤ R.cells ∧ slots + (pz_S h1 - pz_S h) ≤ R.slots)
    (kk : ∀ (H' : Heap) (locs' : List Loc), pz_At D cT base sa m s h1 ls H' locs' mls → W p l e R s mid args below meth c H' locs' (cells + (pz_N h1 - pz_N h)) (slots + (pz_S h1 - pz_S h)) Q (F0 mid (pc + 3) mls ((v.toList ++ rest).map (pz_lv base sa)))) : W p l e R s mid args below meth c H locs cells slots Q (F0 mid pc mls (st.map (pz_lv base sa))) := by
  obtain ⟨x, kd, c0, k, hinv, rfl, ht, hcall⟩ := pz_e2_call hs
  obtain ⟨hx, hb, hml, hown, hts, hK, hbs, hlk, hr, hnm⟩ := id hc
  have hP := pz_cOK m.1 _ (pz_lk_mem _ ht)
  have hkd : kd = 0 ∨ (kd = 1 ∨ kd = 8) ∨ (kd = 2 ∨ kd = 7) := by
    rcases hinv with ⟨-, q⟩ | ⟨-, q⟩ | ⟨-, q⟩
    · exact Or.inl q
    · exact Or.inr (Or.inl q)
    · exact Or.inr (Or.inr q)
  obtain ⟨rfl, hsum, har, hshape⟩ := pz_call_s hkd hcall
  have S : CallFix p mid c m.2.2.1 m.2.2.2.1 s args pz_WL (pz_Rn m.1) := ⟨hx, hb, hml, hown, hts⟩
  have hW8 : 2 * (F0 mid pc mls (st.map (pz_lv base sa))).monitorRoom + ((rest.map (pz_lv base sa)).map fun v => v.category).sum ≤ 8 := by
    rw [pz_lv_sum]
    show 2 * 0 + _ ≤ 8
    omega
  have room : ∀ ml : Nat, ml ≤ 41 → (pz_rm d (pz_N h1 - pz_N h) (pz_S h1 - pz_S h)).frames + 1 ≤ R.frames ∧ 8 + (ml + 11) + (pz_rm d (pz_N h1 - pz_N h) (pz_S h1 - pz_S h)).locals ≤ R.locals := by
    intro ml hml
    refine ⟨hRf, ?_⟩
    show 8 + (ml + 11) + (300 + 60 * d) ≤ R.locals
    omega
  have np : ∀ k', pz_np cal k' → ∀ sig, parseMethodDescriptor cal.2.1.desc = some sig → k' = sig.parameters.length := by
    intro k' hk sig hsig
    unfold pz_np at hk
    rw [hsig] at hk
    exact (Option.some.inj hk).symm
  rcases hshape with ⟨rfl, b, ps, rfl, hlen, rfl, hC⟩ | ⟨hk2, hlen, rfl⟩ | ⟨hk2, b, ps, rfl, hlen, rfl⟩
  · obtain ⟨rfl, -⟩ : i = .invokevirtual x ∧ True := by
      rcases hinv with ⟨q, -⟩ | ⟨-, q⟩ | ⟨-, q⟩
      · exact ⟨q, trivial⟩
      · omega
      · omega
    obtain ⟨hm, hnp, w1, w2, w3, w4⟩ := hP
    obtain ⟨m1, m2, m3, m4, m5, m6, m7⟩ := id hm
    dsimp only at w1 w2 w3 w4 hm hnp m1 m2 m3 m4 m5 m6 m7
    obtain ⟨q, hq⟩ := pz_cls11 cal.1 w4
    have hrec := va_recv hK hA.1.2.1 hq (pz_obj hA.1 hC hq)
    rw [(pz_clOK _ _ hq).2.2.1, ← m3] at hrec
    have hmet := IH cal _ h v h1 hm har hM l D cT base sa
    refine pz_after hA (va_runV (As := ps.map (pz_lv base sa)) (rest := rest.map (pz_lv base sa)) (b := base + b) (C := cal.2.1.cls) (n := k) S hmet ⟨⟨rfl, rfl, (room _ m7).1, (room _ m7).2, pz_hws hc hm, List.mem_cons_self, hc.w m1 rfl, hc.w m2 rfl, ⟨m5, m6⟩, np k hnp, hc.w w1 rfl⟩, hc.w w2 rfl, hc.w w3 rfl⟩ ⟨pz_blind, hrec, fun U hU hW => ⟨rfl, pz_pre hc hA hE hU hW⟩⟩ rfl (by simpa using hlen) hA.2.2.1 ?_ hW8 hd hroom) kk
    show (ps.reverse ++ .ref b :: rest).map (pz_lv base sa) = _
    simp [pz_lv]
  · rcases hk2 with rfl | rfl
    · obtain ⟨rfl, -⟩ : i = .invokestatic x ∧ True := by
        rcases hinv with ⟨-, q⟩ | ⟨q, -⟩ | ⟨-, q⟩
        · omega
        · exact ⟨q, trivial⟩
        · omega
      obtain ⟨hm, hnp, w1, w2⟩ := hP
      obtain ⟨m1, m2, m3, m4, m5, m6, m7⟩ := id hm
      dsimp only at w1 w2 hm hnp m1 m2 m3 m4 m5 m6 m7
      have hmet := IH cal _ h v h1 hm har hM l D cT base sa
      refine pz_after hA (va_runS (As := as.map (pz_lv base sa)) (rest := rest.map (pz_lv base sa)) (n := k) S hmet ⟨⟨rfl, rfl, (room _ m7).1, (room _ m7).2, pz_hws hc hm, List.mem_cons_self, hc.w m1 rfl, hc.w m2 rfl, ⟨m5, m6⟩, np k hnp, hc.w w1 rfl⟩, hc.w w2 rfl⟩ ⟨pz_blind, fun U hU hW => ⟨rfl, pz_pre hc hA hE hU hW⟩⟩ rfl (by simpa using hlen) hA.2.2.1 ?_ hW8 hd hroom) kk
      show (as.reverse ++ rest).map (pz_lv base sa) = _
      simp
    · obtain ⟨rfl, -⟩ : i = .invokestatic x ∧ True := by
        rcases hinv with ⟨-, q⟩ | ⟨q, -⟩ | ⟨-, q⟩
        · omega
        · exact ⟨q, trivial⟩
        · omega
      obtain ⟨hm, hnp, ⟨host, w1⟩, w2⟩ := hP
      obtain ⟨m1, m2, m3, m4, m5, m6, m7⟩ := id hm
      dsimp only at w1 w2 hm hnp m1 m2 m3 m4 m5 m6 m7
      have hmet := IH cal _ h v h1 hm har hM l D cT base sa
      refine pz_after hA (va_runSN (As := as.map (pz_lv base sa)) (rest := rest.map (pz_lv base sa)) (n := k) S hmet ⟨⟨⟨rfl, rfl, (room _ m7).1, (room _ m7).2, pz_hws hc hm, List.mem_cons_self⟩, hc.w m1 rfl, hc.w m2 rfl, ⟨m5, m6⟩, np k hnp, hc.w w1 rfl⟩, hc.w w2 rfl, trivial⟩ ⟨pz_blind, fun U hU hW => ⟨rfl, pz_pre hc hA hE hU hW⟩⟩ rfl (by simpa using hlen) hA.2.2.1 ?_ hW8 hd hroom) kk
      show (as.reverse ++ rest).map (pz_lv base sa) = _
      simp
  · rcases hk2 with rfl | rfl
    · obtain ⟨rfl, -⟩ : i = .invokespecial x ∧ True := by
        rcases hinv with ⟨-, q⟩ | ⟨-, q⟩ | ⟨q, -⟩
        · omega
        · omega
        · exact ⟨q, trivial⟩
      obtain ⟨hm, hnp, w1, w2, w3, w4⟩ := hP
      obtain ⟨m1, m2, m3, m4, m5, m6, m7⟩ := id hm
      dsimp only at w1 w2 w3 w4 hm hnp m1 m2 m3 m4 m5 m6 m7
      have hmet := IH cal _ h v h1 hm har hM l D cT base sa
      rw [w4] at m1
      refine pz_after hA (va_runI (As := ps.map (pz_lv base sa)) (rest := rest.map (pz_lv base sa)) (b := base + b) (n := k) S hmet ⟨⟨rfl, rfl, (room _ m7).1, (room _ m7).2, pz_hws hc hm, by unfold pz_wsm; rw [w4]; exact List.mem_cons_self, hc.w m1 rfl, hc.w m2 rfl, ⟨m5, m6⟩, np k hnp, hc.w w1 rfl⟩, w3, hc.w w2 rfl⟩ ⟨pz_blind, fun U hU hW => ⟨rfl, pz_pre hc hA hE hU hW⟩⟩ rfl (by simpa using hlen) hA.2.2.1 ?_ hW8 hd hroom) kk
      show (ps.reverse ++ .ref b :: rest).map (pz_lv base sa) = _
      simp [pz_lv]
    · obtain ⟨rfl, -⟩ : i = .invokespecial x ∧ True := by
        rcases hinv with ⟨-, q⟩ | ⟨-, q⟩ | ⟨q, -⟩
        · omega
        · omega
        · exact ⟨q, trivial⟩
      obtain ⟨hm, hnp, ⟨host, w1⟩, w2, w3, w4⟩ := hP
      obtain ⟨m1, m2, m3, m4, m5, m6, m7⟩ := id hm
      dsimp only at w1 w2 w3 w4 hm hnp m1 m2 m3 m4 m5 m6 m7
      have hmet := IH cal _ h v h1 hm har hM l D cT base sa
      rw [w4] at m1
      refine pz_after hA (va_runIN (As := ps.map (pz_lv base sa)) (rest := rest.map (pz_lv base sa)) (b := base + b) (n := k) S hmet ⟨⟨⟨rfl, rfl, (room _ m7).1, (room _ m7).2, pz_hws hc hm, by unfold pz_wsm; rw [w4]; exact List.mem_cons_self⟩, hc.w m1 rfl, hc.w m2 rfl, ⟨m5, m6⟩, np k hnp, hc.w w1 rfl⟩, w3, hc.w w2 rfl⟩ ⟨pz_blind, fun U hU hW => ⟨rfl, pz_pre hc hA hE hU hW⟩⟩ rfl (by simpa using hlen) hA.2.2.1 ?_ hW8 hd hroom) kk
      show (ps.reverse ++ .ref b :: rest).map (pz_lv base sa) = _
      simp [pz_lv]
end SND6
