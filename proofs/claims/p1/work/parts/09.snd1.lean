/-! ===== what the kit's rows say of the pure machine's instructions: those that leave the cells alone ===== -/
theorem pz_gd_s {p : Prop} [Decidable p] {k : Option PzR} {r : PzR} (h : pz_gd p k = some r) : p ∧ k = some r := by
  unfold pz_gd at h
  by_cases hp : p
  · rw [if_pos hp] at h; exact ⟨hp, h⟩
  · rw [if_neg hp] at h; cases h
theorem pz_i1_s {st : List Value} {k : Int32 → List Value → Option PzR} {r : PzR} (h : pz_i1 st k = some r) : ∃ a t, st = .int a :: t ∧ k a t = some r := by
  unfold pz_i1 at h
  split at h
  · exact ⟨_, _, rfl, h⟩
  · cases h
theorem pz_i2_s {st : List Value} {k : Int32 → Int32 → List Value → Option PzR} {r : PzR} (h : pz_i2 st k = some r) : ∃ a b t, st = .int b :: .int a :: t ∧ k a b t = some r := by
  unfold pz_i2 at h
  split at h
  · exact ⟨_, _, _, rfl, h⟩
  · cases h
theorem pz_j1_s {st : List Value} {k : Int64 → List Value → Option PzR} {r : PzR} (h : pz_j1 st k = some r) : ∃ a t, st = .long a :: t ∧ k a t = some r := by
  unfold pz_j1 at h
  split at h
  · exact ⟨_, _, rfl, h⟩
  · cases h
theorem pz_j2_s {st : List Value} {k : Int64 → Int64 → List Value → Option PzR} {r : PzR} (h : pz_j2 st k = some r) : ∃ a b t, st = .long b :: .long a :: t ∧ k a b t = some r := by
  unfold pz_j2 at h
  split at h
  · exact ⟨_, _, _, rfl, h⟩
  · cases h
theorem pz_ji_s {st : List Value} {k : Int64 → Int32 → List Value → Option PzR} {r : PzR} (h : pz_ji st k = some r) : ∃ a b t, st = .int b :: .long a :: t ∧ k a b t = some r := by
  unfold pz_ji at h
  split at h
  · exact ⟨_, _, _, rfl, h⟩
  · cases h
theorem pz_a1_s {st : List Value} {k : Nat → List Value → Option PzR} {r : PzR} (h : pz_a1 st k = some r) : ∃ a t, st = .ref a :: t ∧ k a t = some r := by
  unfold pz_a1 at h
  split at h
  · exact ⟨_, _, rfl, h⟩
  · cases h
theorem pz_vi_s {v : Value} {k : Int32 → Option PzR} {r : PzR} (h : pz_vi v k = some r) : ∃ a, v = .int a ∧ k a = some r := by
  unfold pz_vi at h
  split at h
  · exact ⟨_, rfl, h⟩
  · cases h
theorem pz_vj_s {v : Value} {k : Int64 → Option PzR} {r : PzR} (h : pz_vj v k = some r) : ∃ a, v = .long a ∧ k a = some r := by
  unfold pz_vj at h
  split at h
  · exact ⟨_, rfl, h⟩
  · cases h
theorem pz_va_s {v : Value} {k : Value → Option PzR} {r : PzR} (h : pz_va v k = some r) : ((∃ a, v = .ref a) ∨ v = .null ∨ ∃ x, v = .float x) ∧ k v = some r := by
  unfold pz_va at h
  split at h
  · exact ⟨Or.inl ⟨_, rfl⟩, h⟩
  · exact ⟨Or.inr (Or.inl rfl), h⟩
  · exact ⟨Or.inr (Or.inr ⟨_, rfl⟩), h⟩
  · cases h
theorem pz_br_s {pc : Nat} {off : Int} {k : Nat → Option PzR} {r : PzR} (h : pz_br pc off k = some r) : ∃ t : Nat, (pc : Int) + off = (t : Int) ∧ k t = some r := by
  obtain ⟨h1, h2⟩ := pz_gd_s h
  exact ⟨_, by omega, h2⟩
theorem pz_lh_v {base : Nat} {sa : Nat → Nat} {nL i : Nat} {ls : List Value} {mls : Array Slot} {v : Value} (h : pz_lh base sa nL ls mls) (e : pz_lg ls i = v) (hv : v ≠ .retAddr 0) : mls[i]? = some (.val (pz_lv base sa v)) := by
  rw [← e] at hv ⊢
  exact h.2.2 i hv
section SND1
variable {p : Program} {l : Launch} {e : Env} {R : Room} {s : State} {mid : MethodId} {args : Array Value} {below : List Frame} {meth : Method} {c : Code} {H : Heap} {locs : List Loc} {cells slots : Nat} {Q : State → Prop}
variable {m : PzM} {base : Nat} {sa : Nat → Nat} {mls : Array Slot} {pc n : Nat} {ls st : List Value} {h : PzH} {r : PzR} {i : Instr}
/-- constants: what the tables say of them -/
def pz_kOK (sa : Nat → Nat) (oc : Nat) (args : Array Value) (s : State) : Prop := ∀ (x : Nat) (v : Value), pz_lk (pz_kTab oc) x = some v → match v with
  | .int y => (Cond.constant (pz_Rn oc) x y).before args s = true
  | .long y => (Cond.constantLong (pz_Rn oc) x y).before args s = true
  | .float y => ∃ tx, vk_R (pz_Rn oc) x tx (sa y.toNat) s
  | _ => False
set_option maxHeartbeats 4000000 in
theorem pz_snd1 (hx : p.tables.exec = Jvm.exec) (hb : c.code = m.2.2.1) (hown : s.vm.findClass (pz_Rn m.1) = some mid.cls) (hk : pz_kOK sa m.1 args s) (hd : decode m.2.2.1 pc = .ok (i, n)) (hl : pz_lh base sa m.2.2.2.1 ls mls) (hs : pz_e1 m i n pc ls st h = some r)
    (kk : ∀ (pc' : Nat) (ls' st' : List Value), r = .inl (pc', ls', st', h) → ∀ mls', pz_lh base sa m.2.2.2.1 ls' mls' → W p l e R s mid args below meth c H locs cells slots Q (F0 mid pc' mls' (st'.map (pz_lv base sa)))) : W p l e R s mid args below meth c H locs cells slots Q (F0 mid pc mls (st.map (pz_lv base sa))) := by
  cases i with
  | iconst x =>
    replace hs := pz_gd_s hs
    obtain ⟨rfl, hs⟩ := hs
    cases hs
    exact lv_iconst hx hb hd rfl (kk _ _ _ rfl _ hl)
  | bipush x =>
    replace hs := pz_gd_s hs
    obtain ⟨rfl, hs⟩ := hs
    cases hs
    exact lv_bipush hx hb hd rfl (kk _ _ _ rfl _ hl)
  | sipush x =>
    replace hs := pz_gd_s hs
    obtain ⟨rfl, hs⟩ := hs
    cases hs
    exact lv_sipush hx hb hd rfl (kk _ _ _ rfl _ hl)
  | lconst x =>
    replace hs := pz_gd_s hs
    obtain ⟨rfl, hs⟩ := hs
    cases hs
    exact lv_lconst hx hb hd rfl (kk _ _ _ rfl _ hl)
  | aconst_null =>
    replace hs := pz_gd_s hs
    obtain ⟨rfl, hs⟩ := hs
    cases hs
    exact lv_null hx hb hd (kk _ _ _ rfl _ hl)
  | ldc x =>
    replace hs := pz_gd_s hs
    obtain ⟨rfl, hs⟩ := hs
    split at hs
    · rename_i y hy
      cases hs
      exact lv_ldc hx hb hown (hk _ _ hy) hd (kk _ _ _ rfl _ hl)
    · rename_i y hy
      cases hs
      obtain ⟨tx, hz⟩ := hk _ _ hy
      exact va_ldcS hx hb hown hz hd (kk _ _ _ rfl _ hl)
    · cases hs
  | ldc2_w x =>
    replace hs := pz_gd_s hs
    obtain ⟨rfl, hs⟩ := hs
    split at hs
    · rename_i y hy
      cases hs
      exact lv_ldc2 hx hb hown (hk _ _ hy) hd (kk _ _ _ rfl _ hl)
    · cases hs
  | iload k =>
    replace hs := pz_gd_s hs
    obtain ⟨rfl, hs⟩ := hs
    replace hs := pz_vi_s hs
    obtain ⟨x, e1, hs⟩ := hs
    cases hs
    exact lv_iload hx hb hd (pz_lh_v hl e1 (by intro q; cases q)) (kk _ _ _ rfl _ hl)
  | iload_n k =>
    replace hs := pz_gd_s hs
    obtain ⟨rfl, hs⟩ := hs
    replace hs := pz_vi_s hs
    obtain ⟨x, e1, hs⟩ := hs
    cases hs
    exact lv_iload_n hx hb hd rfl (pz_lh_v hl e1 (by intro q; cases q)) (kk _ _ _ rfl _ hl)
  | lload k =>
    replace hs := pz_gd_s hs
    obtain ⟨rfl, hs⟩ := hs
    replace hs := pz_vj_s hs
    obtain ⟨x, e1, hs⟩ := hs
    cases hs
    exact lv_lload hx hb hd (pz_lh_v hl e1 (by intro q; cases q)) (kk _ _ _ rfl _ hl)
  | lload_n k =>
    replace hs := pz_gd_s hs
    obtain ⟨rfl, hs⟩ := hs
    replace hs := pz_vj_s hs
    obtain ⟨x, e1, hs⟩ := hs
    cases hs
    exact lv_lload_n hx hb hd rfl (pz_lh_v hl e1 (by intro q; cases q)) (kk _ _ _ rfl _ hl)
  | aload k =>
    replace hs := pz_gd_s hs
    obtain ⟨rfl, hs⟩ := hs
    replace hs := pz_va_s hs
    obtain ⟨e1, hs⟩ := hs
    cases hs
    rcases e1 with ⟨x, e1⟩ | e1 | ⟨x, e1⟩
    · exact lv_aload hx hb hd (pz_lh_v hl e1 (by intro q; cases q)) (by have q := kk _ _ _ rfl _ hl; rw [e1] at q; exact q)
    · exact lv_aloadN hx hb hd (pz_lh_v hl e1 (by intro q; cases q)) (by have q := kk _ _ _ rfl _ hl; rw [e1] at q; exact q)
    · exact lv_aload hx hb hd (pz_lh_v hl e1 (by intro q; cases q)) (by have q := kk _ _ _ rfl _ hl; rw [e1] at q; exact q)
  | aload_n k =>
    replace hs := pz_gd_s hs
    obtain ⟨rfl, hs⟩ := hs
    replace hs := pz_va_s hs
    obtain ⟨e1, hs⟩ := hs
    cases hs
    rcases e1 with ⟨x, e1⟩ | e1 | ⟨x, e1⟩
    · exact lv_aload_n hx hb hd rfl (pz_lh_v hl e1 (by intro q; cases q)) (by have q := kk _ _ _ rfl _ hl; rw [e1] at q; exact q)
    · exact lv_aload_nN hx hb hd rfl (pz_lh_v hl e1 (by intro q; cases q)) (by have q := kk _ _ _ rfl _ hl; rw [e1] at q; exact q)
    · exact lv_aload_n hx hb hd rfl (pz_lh_v hl e1 (by intro q; cases q)) (by have q := kk _ _ _ rfl _ hl; rw [e1] at q; exact q)
  | istore k =>
    replace hs := pz_gd_s hs
    obtain ⟨⟨rfl, hk⟩, hs⟩ := hs
    replace hs := pz_i1_s hs
    obtain ⟨x, t, rfl, hs⟩ := hs
    cases hs
    exact lv_istore hx hb hd (pz_lh_has hl) hk rfl (fun ls' h' => kk _ _ _ rfl _ (pz_lh_1 (v := .int x) h'))
  | istore_n k =>
    replace hs := pz_gd_s hs
    obtain ⟨⟨rfl, hk⟩, hs⟩ := hs
    replace hs := pz_i1_s hs
    obtain ⟨x, t, rfl, hs⟩ := hs
    cases hs
    exact lv_istore_n hx hb hd rfl (pz_lh_has hl) hk rfl (fun ls' h' => kk _ _ _ rfl _ (pz_lh_1 (v := .int x) h'))
  | lstore k =>
    replace hs := pz_gd_s hs
    obtain ⟨⟨rfl, hk⟩, hs⟩ := hs
    replace hs := pz_j1_s hs
    obtain ⟨x, t, rfl, hs⟩ := hs
    cases hs
    exact lv_lstore hx hb hd (pz_lh_has hl) hk rfl (fun ls' h' => kk _ _ _ rfl _ (pz_lh_2 (v := .long x) h'))
  | lstore_n k =>
    replace hs := pz_gd_s hs
    obtain ⟨⟨rfl, hk⟩, hs⟩ := hs
    replace hs := pz_j1_s hs
    obtain ⟨x, t, rfl, hs⟩ := hs
    cases hs
    exact lv_lstore_n hx hb hd rfl (pz_lh_has hl) hk rfl (fun ls' h' => kk _ _ _ rfl _ (pz_lh_2 (v := .long x) h'))
  | astore k =>
    replace hs := pz_gd_s hs
    obtain ⟨⟨rfl, hk⟩, hs⟩ := hs
    split at hs
    · rename_i a t
      cases hs
      exact lv_astore hx hb hd (pz_lh_has hl) hk rfl (fun ls' h' => kk _ _ _ rfl _ (pz_lh_1 (v := .ref a) h'))
    · cases hs
      exact lv_astoreN hx hb hd (pz_lh_has hl) hk rfl (fun ls' h' => kk _ _ _ rfl _ (pz_lh_1 (v := .null) h'))
    · cases hs
  | astore_n k =>
    replace hs := pz_gd_s hs
    obtain ⟨⟨rfl, hk⟩, hs⟩ := hs
    split at hs
    · rename_i a t
      cases hs
      exact lv_astore_n hx hb hd rfl (pz_lh_has hl) hk rfl (fun ls' h' => kk _ _ _ rfl _ (pz_lh_1 (v := .ref a) h'))
    · cases hs
      exact lv_astore_nN hx hb hd rfl (pz_lh_has hl) hk rfl (fun ls' h' => kk _ _ _ rfl _ (pz_lh_1 (v := .null) h'))
    · cases hs
  | iinc k z =>
    replace hs := pz_gd_s hs
    obtain ⟨⟨rfl, hk⟩, hs⟩ := hs
    replace hs := pz_vi_s hs
    obtain ⟨x, e1, hs⟩ := hs
    cases hs
    have hm : (k, pz_lv base sa (.int x)) ∈ pz_la base sa ls := by
      have q := pz_la_mem (base := base) (sa := sa) (ls := ls) (j := k) (by rw [e1]; intro q; cases q)
      rw [e1] at q
      exact q
    obtain ⟨q, hq⟩ := List.getElem?_of_mem hm
    exact lv_iinc hx hb hd (pz_lh_has hl) hq rfl hk rfl (fun ls' h' => kk _ _ _ rfl _ (pz_lh_1 (v := .int (x + Int32.ofInt z)) h'))
  | iadd =>
    replace hs := pz_gd_s hs
    obtain ⟨rfl, hs⟩ := hs
    replace hs := pz_i2_s hs
    obtain ⟨a, b, t, rfl, hs⟩ := hs
    cases hs
    exact lv_iadd hx hb hd (kk _ _ _ rfl _ hl)
  | isub =>
    replace hs := pz_gd_s hs
    obtain ⟨rfl, hs⟩ := hs
    replace hs := pz_i2_s hs
    obtain ⟨a, b, t, rfl, hs⟩ := hs
    cases hs
    exact lv_isub hx hb hd (kk _ _ _ rfl _ hl)
  | imul =>
    replace hs := pz_gd_s hs
    obtain ⟨rfl, hs⟩ := hs
    replace hs := pz_i2_s hs
    obtain ⟨a, b, t, rfl, hs⟩ := hs
    cases hs
    exact lv_imul hx hb hd (kk _ _ _ rfl _ hl)
  | iand =>
    replace hs := pz_gd_s hs
    obtain ⟨rfl, hs⟩ := hs
    replace hs := pz_i2_s hs
    obtain ⟨a, b, t, rfl, hs⟩ := hs
    cases hs
    exact lv_iand hx hb hd (kk _ _ _ rfl _ hl)
  | ior =>
    replace hs := pz_gd_s hs
    obtain ⟨rfl, hs⟩ := hs
    replace hs := pz_i2_s hs
    obtain ⟨a, b, t, rfl, hs⟩ := hs
    cases hs
    exact lv_ior hx hb hd (kk _ _ _ rfl _ hl)
  | ixor =>
    replace hs := pz_gd_s hs
    obtain ⟨rfl, hs⟩ := hs
    replace hs := pz_i2_s hs
    obtain ⟨a, b, t, rfl, hs⟩ := hs
    cases hs
    exact lv_ixor hx hb hd (kk _ _ _ rfl _ hl)
  | idiv =>
    replace hs := pz_gd_s hs
    obtain ⟨rfl, hs⟩ := hs
    replace hs := pz_i2_s hs
    obtain ⟨a, b, t, rfl, hs⟩ := hs
    replace hs := pz_gd_s hs
    obtain ⟨hne, hs⟩ := hs
    cases hs
    exact lv_idiv hx hb hd hne (kk _ _ _ rfl _ hl)
  | irem =>
    replace hs := pz_gd_s hs
    obtain ⟨rfl, hs⟩ := hs
    replace hs := pz_i2_s hs
    obtain ⟨a, b, t, rfl, hs⟩ := hs
    replace hs := pz_gd_s hs
    obtain ⟨hne, hs⟩ := hs
    cases hs
    exact lv_irem hx hb hd hne (kk _ _ _ rfl _ hl)
  | ineg =>
    replace hs := pz_gd_s hs
    obtain ⟨rfl, hs⟩ := hs
    replace hs := pz_i1_s hs
    obtain ⟨a, t, rfl, hs⟩ := hs
    cases hs
    exact lv_ineg hx hb hd (kk _ _ _ rfl _ hl)
  | ishl =>
    replace hs := pz_gd_s hs
    obtain ⟨rfl, hs⟩ := hs
    replace hs := pz_i2_s hs
    obtain ⟨a, b, t, rfl, hs⟩ := hs
    cases hs
    exact lv_ishl hx hb hd (kk _ _ _ rfl _ hl)
  | ishr =>
    replace hs := pz_gd_s hs
    obtain ⟨rfl, hs⟩ := hs
    replace hs := pz_i2_s hs
    obtain ⟨a, b, t, rfl, hs⟩ := hs
    cases hs
    exact lv_ishr hx hb hd (kk _ _ _ rfl _ hl)
  | iushr =>
    replace hs := pz_gd_s hs
    obtain ⟨rfl, hs⟩ := hs
    replace hs := pz_i2_s hs
    obtain ⟨a, b, t, rfl, hs⟩ := hs
    cases hs
    exact lv_iushr hx hb hd rfl (kk _ _ _ rfl _ hl)
  | ladd =>
    replace hs := pz_gd_s hs
    obtain ⟨rfl, hs⟩ := hs
    replace hs := pz_j2_s hs
    obtain ⟨a, b, t, rfl, hs⟩ := hs
    cases hs
    exact lv_ladd hx hb hd (kk _ _ _ rfl _ hl)
  | lsub =>
    replace hs := pz_gd_s hs
    obtain ⟨rfl, hs⟩ := hs
    replace hs := pz_j2_s hs
    obtain ⟨a, b, t, rfl, hs⟩ := hs
    cases hs
    exact lv_lsub hx hb hd (kk _ _ _ rfl _ hl)
  | lmul =>
    replace hs := pz_gd_s hs
    obtain ⟨rfl, hs⟩ := hs
    replace hs := pz_j2_s hs
    obtain ⟨a, b, t, rfl, hs⟩ := hs
    cases hs
    exact lv_lmul hx hb hd (kk _ _ _ rfl _ hl)
  | land =>
    replace hs := pz_gd_s hs
    obtain ⟨rfl, hs⟩ := hs
    replace hs := pz_j2_s hs
    obtain ⟨a, b, t, rfl, hs⟩ := hs
    cases hs
    exact lv_land hx hb hd (kk _ _ _ rfl _ hl)
  | lor =>
    replace hs := pz_gd_s hs
    obtain ⟨rfl, hs⟩ := hs
    replace hs := pz_j2_s hs
    obtain ⟨a, b, t, rfl, hs⟩ := hs
    cases hs
    exact lv_lor hx hb hd (kk _ _ _ rfl _ hl)
  | lxor =>
    replace hs := pz_gd_s hs
    obtain ⟨rfl, hs⟩ := hs
    replace hs := pz_j2_s hs
    obtain ⟨a, b, t, rfl, hs⟩ := hs
    cases hs
    exact lv_lxor hx hb hd (kk _ _ _ rfl _ hl)
  | lshl =>
    replace hs := pz_gd_s hs
    obtain ⟨rfl, hs⟩ := hs
    replace hs := pz_ji_s hs
    obtain ⟨a, b, t, rfl, hs⟩ := hs
    cases hs
    exact lv_lshl hx hb hd rfl (kk _ _ _ rfl _ hl)
  | lshr =>
    replace hs := pz_gd_s hs
    obtain ⟨rfl, hs⟩ := hs
    replace hs := pz_ji_s hs
    obtain ⟨a, b, t, rfl, hs⟩ := hs
    cases hs
    exact lv_lshr hx hb hd rfl (kk _ _ _ rfl _ hl)
  | lushr =>
    replace hs := pz_gd_s hs
    obtain ⟨rfl, hs⟩ := hs
    replace hs := pz_ji_s hs
    obtain ⟨a, b, t, rfl, hs⟩ := hs
    cases hs
    exact lv_lushr hx hb hd rfl (kk _ _ _ rfl _ hl)
  | lcmp =>
    replace hs := pz_gd_s hs
    obtain ⟨rfl, hs⟩ := hs
    replace hs := pz_j2_s hs
    obtain ⟨a, b, t, rfl, hs⟩ := hs
    cases hs
    exact W.lcmp hx hb hd (kk _ _ _ rfl _ hl)
  | i2l =>
    replace hs := pz_gd_s hs
    obtain ⟨rfl, hs⟩ := hs
    replace hs := pz_i1_s hs
    obtain ⟨a, t, rfl, hs⟩ := hs
    cases hs
    exact lv_i2l hx hb hd rfl (kk _ _ _ rfl _ hl)
  | l2i =>
    replace hs := pz_gd_s hs
    obtain ⟨rfl, hs⟩ := hs
    replace hs := pz_j1_s hs
    obtain ⟨a, t, rfl, hs⟩ := hs
    cases hs
    exact lv_l2i hx hb hd rfl (kk _ _ _ rfl _ hl)
  | i2b =>
    replace hs := pz_gd_s hs
    obtain ⟨rfl, hs⟩ := hs
    replace hs := pz_i1_s hs
    obtain ⟨a, t, rfl, hs⟩ := hs
    cases hs
    exact lv_i2b hx hb hd rfl (kk _ _ _ rfl _ hl)
  | dup =>
    replace hs := pz_gd_s hs
    obtain ⟨rfl, hs⟩ := hs
    split at hs
    · replace hs := pz_gd_s hs
      obtain ⟨hc, hs⟩ := hs
      cases hs
      exact lv_dup hx hb hd (by rw [pz_lv_cat]; exact hc) (kk _ _ _ rfl _ hl)
    · cases hs
  | dup2 =>
    replace hs := pz_gd_s hs
    obtain ⟨rfl, hs⟩ := hs
    split at hs
    · cases hs
      exact lv_dup2_2 hx hb hd rfl (kk _ _ _ rfl _ hl)
    · replace hs := pz_gd_s hs
      obtain ⟨hc, hs⟩ := hs
      cases hs
      exact lv_dup2_11 hx hb hd (by rw [pz_lv_cat]; exact hc.1) (by rw [pz_lv_cat]; exact hc.2) (kk _ _ _ rfl _ hl)
    · cases hs
  | pop =>
    replace hs := pz_gd_s hs
    obtain ⟨rfl, hs⟩ := hs
    split at hs
    · replace hs := pz_gd_s hs
      obtain ⟨hc, hs⟩ := hs
      cases hs
      exact lv_pop hx hb hd (by rw [pz_lv_cat]; exact hc) (kk _ _ _ rfl _ hl)
    · cases hs
  | ifCond cd off =>
    replace hs := pz_gd_s hs
    obtain ⟨rfl, hs⟩ := hs
    replace hs := pz_i1_s hs
    obtain ⟨a, t, rfl, hs⟩ := hs
    replace hs := pz_br_s hs
    obtain ⟨tg, ht, hs⟩ := hs
    cases hs
    have k1 : ∀ b : Bool, pz_if cd a = b → W p l e R s mid args below meth c H locs cells slots Q (F0 mid (pz_jmp b tg (pc + 3)) mls (t.map (pz_lv base sa))) := fun b hb => by rw [← hb]; exact kk _ _ _ rfl _ hl
    cases cd with
    | eq => exact lv_if_eq hx hb hd ht (fun q => k1 true (decide_eq_true q)) (fun q => k1 false (decide_eq_false q))
    | ne => exact lv_if_ne hx hb hd ht (fun q => k1 true (decide_eq_true q)) (fun q => k1 false (decide_eq_false (fun z => z q)))
    | lt => exact lv_if_lt hx hb hd ht (fun q => k1 true (decide_eq_true q)) (fun q => k1 false (decide_eq_false q))
    | ge => exact lv_if_ge hx hb hd ht (fun q => k1 true (decide_eq_true q)) (fun q => k1 false (decide_eq_false q))
    | gt => exact lv_if_gt hx hb hd ht (fun q => k1 true (decide_eq_true q)) (fun q => k1 false (decide_eq_false q))
    | le => exact lv_if_le hx hb hd ht (fun q => k1 true (decide_eq_true q)) (fun q => k1 false (decide_eq_false q))
  | if_icmp cd off =>
    replace hs := pz_gd_s hs
    obtain ⟨rfl, hs⟩ := hs
    replace hs := pz_i2_s hs
    obtain ⟨a, b, t, rfl, hs⟩ := hs
    replace hs := pz_br_s hs
    obtain ⟨tg, ht, hs⟩ := hs
    cases hs
    have k1 : ∀ z : Bool, pz_ic cd a b = z → W p l e R s mid args below meth c H locs cells slots Q (F0 mid (pz_jmp z tg (pc + 3)) mls (t.map (pz_lv base sa))) := fun z hz => by rw [← hz]; exact kk _ _ _ rfl _ hl
    cases cd with
    | eq => exact lv_icmp_eq hx hb hd ht (fun q => k1 true (decide_eq_true q)) (fun q => k1 false (decide_eq_false q))
    | ne => exact lv_icmp_ne hx hb hd ht (fun q => k1 true (decide_eq_true q)) (fun q => k1 false (decide_eq_false (fun z => z q)))
    | lt => exact lv_icmp_lt hx hb hd ht (fun q => k1 true (decide_eq_true q)) (fun q => k1 false (decide_eq_false q))
    | ge => exact lv_icmp_ge hx hb hd ht (fun q => k1 true (decide_eq_true q)) (fun q => k1 false (decide_eq_false q))
    | gt => exact lv_icmp_gt hx hb hd ht (fun q => k1 true (decide_eq_true q)) (fun q => k1 false (decide_eq_false q))
    | le => exact lv_icmp_le hx hb hd ht (fun q => k1 true (decide_eq_true q)) (fun q => k1 false (decide_eq_false q))
  | ifnull off =>
    replace hs := pz_gd_s hs
    obtain ⟨rfl, hs⟩ := hs
    split at hs
    · replace hs := pz_br_s hs
      obtain ⟨tg, ht, hs⟩ := hs
      cases hs
      exact lv_ifnullN hx hb hd ht (kk _ _ _ rfl _ hl)
    · cases hs
      exact lv_ifnull hx hb hd (kk _ _ _ rfl _ hl)
    · cases hs
  | ifnonnull off =>
    replace hs := pz_gd_s hs
    obtain ⟨rfl, hs⟩ := hs
    split at hs
    · replace hs := pz_br_s hs
      obtain ⟨tg, ht, hs⟩ := hs
      cases hs
      exact lv_ifnonnull hx hb hd ht (kk _ _ _ rfl _ hl)
    · cases hs
      exact lv_ifnonnullN hx hb hd (kk _ _ _ rfl _ hl)
    · cases hs
  | goto off =>
    replace hs := pz_gd_s hs
    obtain ⟨rfl, hs⟩ := hs
    replace hs := pz_br_s hs
    obtain ⟨tg, ht, hs⟩ := hs
    cases hs
    exact lv_goto hx hb hd ht (kk _ _ _ rfl _ hl)
  | tableswitch df lo hi offs =>
    replace hs := pz_i1_s hs
    obtain ⟨x, t, rfl, hs⟩ := hs
    by_cases hq : x.toInt < lo ∨ hi < x.toInt
    · rw [if_pos hq] at hs
      replace hs := pz_br_s hs
      obtain ⟨tg, ht, hs⟩ := hs
      cases hs
      exact lv_tableOut hx hb hd hq ht (kk _ _ _ rfl _ hl)
    · rw [if_neg hq] at hs
      split at hs
      · rename_i off ho
        replace hs := pz_br_s hs
        obtain ⟨tg, ht, hs⟩ := hs
        cases hs
        exact lv_tableIn hx hb hd (fun z => hq (Or.inl z)) (fun z => hq (Or.inr z)) ho ht (kk _ _ _ rfl _ hl)
      · cases hs
  | _ => cases hs
end SND1
