/-! ===== texts: String.length() and charAt() of the claim's constants ===== -/
def pz_QR (v : Option Value) : Array Value → State → Outcome → State → Prop := fun _ st o t => o = .returned v ∧ t.heap = st.heap
/-- texts and the two statics, as they lie below base -/
def pz_ST (base : Nat) (sa sv : Nat → Nat) (U : State) (H : Heap) : Prop := (∀ i, i < pz_sn → vk_S 1 [pz_sl.getD i 0] [pz_sb.getD i []] (fun _ => sa i) (fun _ => sv i) (fun q => base ≤ q) U H) ∧ va_Z "java/lang/String" "COMPACT_STRINGS" "Z" (.int 1) (fun q => base ≤ q) U H ∧ va_Zq "jdk/internal/util/Preconditions" "SIOOBE_FORMATTER" "Ljava/util/function/BiFunction;" (fun q => base ≤ q) U H
theorem pz_ST.moved {base : Nat} {sa sv : Nat → Nat} {u U : State} {H : Heap} (hvm : u.vm.Alike U.vm) (h : pz_ST base sa sv u H) : pz_ST base sa sv U H := ⟨fun i hi => vk_S.moved hvm (h.1 i hi), va_Z.moved hvm h.2.1, va_Zq.moved hvm h.2.2⟩
theorem pz_ST.kept {base : Nat} {sa sv : Nat → Nat} {U : State} {H H1 : Heap} (h : pz_ST base sa sv U H) (hq : ∀ a : Nat, a < H.size → ¬ base ≤ a → H1[a]? = H[a]?) : pz_ST base sa sv U H1 := ⟨fun i hi => vk_S.kept (h.1 i hi) hq, va_Z.kept h.2.1 hq, va_Zq.kept h.2.2 hq⟩
def pz_jw (y : MethodName) (cc : ByteArray) (ml : Nat) (ret : Option FieldType) : List Cond := Cond.code y cc ml ret :: pz_WL
def pz_jr (f lo : Nat) : Room := { frames := f, cells := 0, slots := 0, locals := lo }
section TX
variable {p : Program} {l : Launch} {e : Env} {R : Room} {s : State} {mid : MethodId} {args : Array Value} {below : List Frame} {meth : Method} {c : Code} {H : Heap} {locs : List Loc} {cells slots : Nat} {Q : State → Prop} {pc : Nat} {mls : Array Slot}
theorem pz_afterR {a : Array Value} {v : Option Value} {st0 rest : List Value} (hr : va_Run p l e R s mid args below meth c H locs cells slots 0 0 (F0 mid pc mls st0) rest (pz_QR v a) (fun _ => False))
    (kk : W p l e R s mid args below meth c H locs cells slots Q (F0 mid (pc + 3) mls (v.toList ++ rest))) : W p l e R s mid args below meth c H locs cells slots Q (F0 mid pc mls st0) := by
  intro T hT X
  obtain ⟨v', st₀, t, T', L, h0, X', hL, e1, e2, ⟨hv, hh⟩, step⟩ := hr T hT X
  cases hv
  have hL0 : L = [] := by
    cases L with
    | nil => rfl
    | cons a l => exact (hL a List.mem_cons_self).elim
  subst hL0
  rw [List.append_nil] at X'
  obtain ⟨t2, a1, b1⟩ := kk T' (by rw [e1, hh, h0]) X'
  exact ⟨t2, step t2 a1, b1⟩
theorem pz_jws (hts : ∀ w ∈ pz_WL, w.before args s = true) {y : MethodName} {cc : ByteArray} {ml : Nat} {ret : Option FieldType} (hm : Cond.code y cc ml ret ∈ lw_tbl) : ∀ w ∈ pz_jw y cc ml ret, ∀ (a' : Array Value) (U : State), s.WarmedH U.vm → w.before a' U = true := by
  intro w hw a' U hW
  rcases List.mem_cons.mp hw with rfl | hw
  · exact pz_keep rfl hW (hts _ (pz_WL_in hm rfl))
  · exact pz_keep (List.mem_filter.mp hw).2 hW (hts w hw)
end TX
def pz_TP (base : Nat) (sa sv : Nat → Nat) (as : List Value) : Array Value → State → Prop := va_Pc as (fun U => pz_ST base sa sv U U.heap)
theorem pz_TP_blind {base : Nat} {sa sv : Nat → Nat} {as : List Value} : FrameBlind (pz_TP base sa sv as) := fun a U g mk q => ⟨q.1, pz_ST.moved (u := U) (U := U.calling g mk a) (Vm.Alike.refl U.vm) q.2⟩
set_option maxHeartbeats 4000000 in
theorem j_coder (l : Launch) {base : Nat} {sa sv : Nat → Nat} {i : Nat} (hi : i < pz_sn) : Met l yJ0_coder_7d493 (pz_jw yJ0_coder_7d493 cJ0_coder_7d493 1 (some .byte)) (pz_jr 1 40) (pz_TP base sa sv [.ref (sa i)]) (pz_QR (some (.int 0))) 0 0 (fun _ => False) := by
  refine Met.ofW (cc := cJ0_coder_7d493) (maxL := 1) (ret := some .byte) (by decide) rfl ?_
  intro p e s m args below meth c s₁ B hml hv
  obtain ⟨rfl, hST⟩ := hv
  have hx := B.exec
  have hb := B.bytes
  have hr := B.returns
  have hts : ∀ w ∈ pz_WL, w.before _ s = true := fun w hw => atoms_spec (ws := pz_jw yJ0_coder_7d493 cJ0_coder_7d493 1 (some .byte)) B.pre w (List.mem_cons_of_mem _ hw)
  have hown : s.vm.findClass "java/lang/String" = some m.cls := findClass_of_methodNamed B.named
  have hlocks := B.notSynchronized
  have hS : va_S (fun q => base ≤ q) s.heap s.heap [] := va_S.rf
  have hl := lv_entry ([.ref (sa i)]) (n := 1) (Nat.le_of_ble_eq_true rfl)
  rw [lg_entry_eq]
  generalize (lg_sl ([.ref (sa i)]) ++ List.replicate (1 - (lg_sl ([.ref (sa i)])).length) Slot.unset).toArray = ls at hl ⊢
  have hl : lv_has ls 1 [(0, .ref (sa i))] := hl
  refine va_gets hx hb hST.2.1 hS hown (hts _ (pz_WL_in jw_fld_compact rfl)) (fun _ h => h) dJ0_coder_7d493_0 ?_
  refine lv_if_eq (tgt := 13) hx hb dJ0_coder_7d493_3 (by decide) (fun q => absurd q (by decide)) (fun _ => ?_)
  refine lv_aload_n hx hb dJ0_coder_7d493_6 rfl (lv_at hl 0 rfl) ?_
  refine vk_getf hx hb ((hST.1 i hi).1 0 (by decide)).2.1 hS hown (hts _ (pz_WL_in jw_fld_coder rfl)) (fun _ h => h) dJ0_coder_7d493_7 ?_
  refine lv_goto (tgt := 14) hx hb dJ0_coder_7d493_10 (by decide) ?_
  exact W.zret hx hb hr (by decide) (fun t ht _ => ⟨rfl, ht⟩) (fun q hq => by cases hq) dJ0_coder_7d493_14
-- TAIL
set_option maxHeartbeats 4000000 in
theorem j_length (l : Launch) {base : Nat} {sa sv : Nat → Nat} {i : Nat} (hi : i < pz_sn) : Met l yJ0_length_8abf5 (pz_jw yJ0_length_8abf5 cJ0_length_8abf5 1 (some .int)) (pz_jr 2 100) (pz_TP base sa sv [.ref (sa i)]) (pz_QR (some (.int (nI (pz_sl.getD i 0))))) 0 0 (fun _ => False) := by
  refine Met.ofW (cc := cJ0_length_8abf5) (maxL := 1) (ret := (some .int)) (by decide) rfl ?_
  intro p e s m args below meth c s₁ B hml hv
  obtain ⟨rfl, hST⟩ := hv
  have hx := B.exec
  have hb := B.bytes
  have hr := B.returns
  have hts : ∀ w ∈ pz_WL, w.before _ s = true := fun w hw => atoms_spec (ws := pz_jw yJ0_length_8abf5 cJ0_length_8abf5 1 (some .int)) B.pre w (List.mem_cons_of_mem _ hw)
  have hown : s.vm.findClass "java/lang/String" = some m.cls := findClass_of_methodNamed B.named
  have hlocks := B.notSynchronized
  have hS : va_S (fun q => base ≤ q) s.heap s.heap [] := va_S.rf
  have hl := lv_entry ([.ref (sa i)]) (n := 1) (Nat.le_of_ble_eq_true rfl)
  rw [lg_entry_eq]
  generalize (lg_sl ([.ref (sa i)]) ++ List.replicate (1 - (lg_sl ([.ref (sa i)])).length) Slot.unset).toArray = ls at hl ⊢
  have hl : lv_has ls 1 [(0, .ref (sa i))] := hl
  obtain ⟨w1, w2, w3, w4⟩ := (hST.1 i hi).1 0 (by decide)
  refine lv_aload_n hx hb dJ0_length_8abf5_0 rfl (lv_at hl 0 rfl) ?_
  refine vk_getf hx hb w3 hS hown (hts _ (pz_WL_in jw_fld_value rfl)) (fun _ h => h) dJ0_length_8abf5_1 ?_
  refine va_tlen (N := pz_sl.getD i 0) hx hb w4 hS rfl dJ0_length_8abf5_4 ?_
  refine lv_aload_n hx hb dJ0_length_8abf5_5 rfl (lv_at hl 0 rfl) ?_
  refine pz_afterR (va_runV (As := []) (rest := [.int (Int32.ofNat (pz_sl.getD i 0))]) (C := "java/lang/String") (n := 0) ⟨hx, hb, hml, hown, hts⟩ (j_coder l (base := base) (sv := sv) hi) ⟨⟨rfl, rfl, (by decide), (by decide), pz_jws hts jw_code_J0_coder_7d493, List.mem_cons_self, hts _ (pz_WL_in jw_code_J0_coder_7d493 rfl), hts _ (pz_WL_in jw_ini_S rfl), ⟨by decide, by decide⟩, fun sig h => (by revert h; exact (fun h => by have q : (parseMethodDescriptor yJ0_coder_7d493.desc).map (fun d => d.parameters.length) = some 0 := (by decide +kernel); rw [h] at q; exact (Option.some.inj q).symm)), hts _ (pz_WL_in jw_link_J0_coder_7d493 rfl)⟩, hts _ (pz_WL_in jw_inst_J0_coder_7d493 rfl), hts _ (pz_WL_in jw_sel_J0_coder_7d493 rfl)⟩ ⟨pz_TP_blind, vk_recv (i := 0) (hST.1 i hi) (by decide) hS, fun U hU hW => ⟨rfl, by show pz_ST base sa sv U U.heap; rw [hU]; exact hST.moved hW.alike⟩⟩ rfl rfl hl.1 rfl (lv_room (Nat.le_of_ble_eq_true rfl)) dJ0_length_8abf5_6 ⟨Nat.le_refl _, Nat.le_refl _⟩) ?_
  refine lv_ishr hx hb dJ0_length_8abf5_9 ?_
  have e9 : Int32.ofNat (pz_sl.getD i 0) >>> ((0 : Int32) &&& 31) = nI (pz_sl.getD i 0) := sb_shr0 _
  rw [e9]
  exact W.iret hx hb hr (fun t ht _ => ⟨rfl, ht⟩) (fun q hq => by cases hq) dJ0_length_8abf5_10
set_option maxHeartbeats 4000000 in
theorem j_latin (l : Launch) {base : Nat} {sa sv : Nat → Nat} {i : Nat} (hi : i < pz_sn) : Met l yJ0_isLatin1_aae02 (pz_jw yJ0_isLatin1_aae02 cJ0_isLatin1_aae02 1 (some .boolean)) (pz_jr 1 40) (pz_TP base sa sv [.ref (sa i)]) (pz_QR (some (.int 1))) 0 0 (fun _ => False) := by
  refine Met.ofW (cc := cJ0_isLatin1_aae02) (maxL := 1) (ret := (some .boolean)) (by decide) rfl ?_
  intro p e s m args below meth c s₁ B hml hv
  obtain ⟨rfl, hST⟩ := hv
  have hx := B.exec
  have hb := B.bytes
  have hr := B.returns
  have hts : ∀ w ∈ pz_WL, w.before _ s = true := fun w hw => atoms_spec (ws := pz_jw yJ0_isLatin1_aae02 cJ0_isLatin1_aae02 1 (some .boolean)) B.pre w (List.mem_cons_of_mem _ hw)
  have hown : s.vm.findClass "java/lang/String" = some m.cls := findClass_of_methodNamed B.named
  have hlocks := B.notSynchronized
  have hS : va_S (fun q => base ≤ q) s.heap s.heap [] := va_S.rf
  have hl := lv_entry ([.ref (sa i)]) (n := 1) (Nat.le_of_ble_eq_true rfl)
  rw [lg_entry_eq]
  generalize (lg_sl ([.ref (sa i)]) ++ List.replicate (1 - (lg_sl ([.ref (sa i)])).length) Slot.unset).toArray = ls at hl ⊢
  have hl : lv_has ls 1 [(0, .ref (sa i))] := hl
  obtain ⟨w1, w2, w3, w4⟩ := (hST.1 i hi).1 0 (by decide)
  refine va_gets hx hb hST.2.1 hS hown (hts _ (pz_WL_in jw_fld_compact rfl)) (fun _ h => h) dJ0_isLatin1_aae02_0 ?_
  refine lv_if_eq (tgt := 17) hx hb dJ0_isLatin1_aae02_3 (by decide) (fun q => absurd q (by decide)) (fun _ => ?_)
  refine lv_aload_n hx hb dJ0_isLatin1_aae02_6 rfl (lv_at hl 0 rfl) ?_
  refine vk_getf hx hb w2 hS hown (hts _ (pz_WL_in jw_fld_coder rfl)) (fun _ h => h) dJ0_isLatin1_aae02_7 ?_
  refine lv_if_ne (tgt := 17) hx hb dJ0_isLatin1_aae02_10 (by decide) (fun q => absurd rfl q) (fun _ => ?_)
  refine lv_iconst (v := 1) hx hb dJ0_isLatin1_aae02_13 (by decide) ?_
  refine lv_goto (tgt := 18) hx hb dJ0_isLatin1_aae02_14 (by decide) ?_
  exact W.zret hx hb hr (by decide) (fun t ht _ => ⟨rfl, ht⟩) (fun q hq => by cases hq) dJ0_isLatin1_aae02_18
set_option maxHeartbeats 4000000 in
theorem j_check3 (l : Launch) {base : Nat} {sa sv : Nat → Nat} {x n : Int32} {f : Value} (hf : f = .null ∨ ∃ t, f = .ref t) (h0 : ¬ x < 0) (h1 : x < n) : Met l yJ3_checkIndex_8e157 (pz_jw yJ3_checkIndex_8e157 cJ3_checkIndex_8e157 3 (some .int)) (pz_jr 1 40) (pz_TP base sa sv [.int x, .int n, f]) (pz_QR (some (.int x))) 0 0 (fun _ => False) := by
  refine Met.ofW (cc := cJ3_checkIndex_8e157) (maxL := 3) (ret := (some .int)) (by decide) rfl ?_
  intro p e s m args below meth c s₁ B hml hv
  obtain ⟨rfl, hST⟩ := hv
  have hx := B.exec
  have hb := B.bytes
  have hr := B.returns
  have hts : ∀ w ∈ pz_WL, w.before _ s = true := fun w hw => atoms_spec (ws := pz_jw yJ3_checkIndex_8e157 cJ3_checkIndex_8e157 3 (some .int)) B.pre w (List.mem_cons_of_mem _ hw)
  have hown : s.vm.findClass "jdk/internal/util/Preconditions" = some m.cls := findClass_of_methodNamed B.named
  have hlocks := B.notSynchronized
  have hS : va_S (fun q => base ≤ q) s.heap s.heap [] := va_S.rf
  have hfc : f.category = 1 := by rcases hf with rfl | ⟨t, rfl⟩ <;> rfl
  have hlen : (lg_sl ([.int x, .int n, f])).length ≤ 3 := by rcases hf with rfl | ⟨t, rfl⟩ <;> exact Nat.le_of_ble_eq_true rfl
  have hl := lv_entry ([.int x, .int n, f]) (n := 3) hlen
  rw [lg_entry_eq]
  generalize (lg_sl ([.int x, .int n, f]) ++ List.replicate (3 - (lg_sl ([.int x, .int n, f])).length) Slot.unset).toArray = ls at hl ⊢
  have h0l : ls[0]? = some (.val (.int x)) := hl.2.2 (0, .int x) (by simp [lv_args])
  have h1l : ls[1]? = some (.val (.int n)) := hl.2.2 (1, .int n) (by simp [lv_args, Value.category])
  refine lv_iload_n hx hb dJ3_checkIndex_8e157_0 rfl h0l ?_
  refine lv_if_lt (tgt := 9) hx hb dJ3_checkIndex_8e157_1 (by decide) (fun q => absurd q h0) (fun _ => ?_)
  refine lv_iload_n hx hb dJ3_checkIndex_8e157_4 rfl h0l ?_
  refine lv_iload_n hx hb dJ3_checkIndex_8e157_5 rfl h1l ?_
  refine lv_icmp_lt (tgt := 16) hx hb dJ3_checkIndex_8e157_6 (by decide) (fun _ => ?_) (fun q => absurd h1 q)
  refine lv_iload_n hx hb dJ3_checkIndex_8e157_16 rfl h0l ?_
  exact W.iret hx hb hr (fun t ht _ => ⟨rfl, ht⟩) (fun q hq => by cases hq) dJ3_checkIndex_8e157_17
-- TAIL2
set_option maxHeartbeats 4000000 in
theorem j_check0 (l : Launch) {base : Nat} {sa sv : Nat → Nat} {x n : Int32} (h0 : ¬ x < 0) (h1 : x < n) : Met l yJ0_checkIndex_df160 (pz_jw yJ0_checkIndex_df160 cJ0_checkIndex_df160 2 none) (pz_jr 2 110) (pz_TP base sa sv [.int x, .int n]) (pz_QR none) 0 0 (fun _ => False) := by
  refine Met.ofW (cc := cJ0_checkIndex_df160) (maxL := 2) (ret := none) (by decide) rfl ?_
  intro p e s m args below meth c s₁ B hml hv
  obtain ⟨rfl, hST⟩ := hv
  have hx := B.exec
  have hb := B.bytes
  have hr := B.returns
  have hts : ∀ w ∈ pz_WL, w.before _ s = true := fun w hw => atoms_spec (ws := pz_jw yJ0_checkIndex_df160 cJ0_checkIndex_df160 2 none) B.pre w (List.mem_cons_of_mem _ hw)
  have hown : s.vm.findClass "java/lang/String" = some m.cls := findClass_of_methodNamed B.named
  have hlocks := B.notSynchronized
  have hS : va_S (fun q => base ≤ q) s.heap s.heap [] := va_S.rf
  have hl := lv_entry ([.int x, .int n]) (n := 2) (Nat.le_of_ble_eq_true rfl)
  rw [lg_entry_eq]
  generalize (lg_sl ([.int x, .int n]) ++ List.replicate (2 - (lg_sl ([.int x, .int n])).length) Slot.unset).toArray = ls at hl ⊢
  have hl : lv_has ls 2 [(0, .int x), (1, .int n)] := hl
  refine lv_iload_n hx hb dJ0_checkIndex_df160_0 rfl (lv_at hl 0 rfl) ?_
  refine lv_iload_n hx hb dJ0_checkIndex_df160_1 rfl (lv_at hl 1 rfl) ?_
  obtain ⟨f, hf, hZ⟩ : ∃ f : Value, (f = .null ∨ ∃ t, f = .ref t) ∧ va_Z "jdk/internal/util/Preconditions" "SIOOBE_FORMATTER" "Ljava/util/function/BiFunction;" f (fun q => base ≤ q) s s.heap := by
    rcases hST.2.2 with q | ⟨t, q⟩
    · exact ⟨.null, Or.inl rfl, q⟩
    · exact ⟨.ref t, Or.inr ⟨t, rfl⟩, q⟩
  refine va_gets hx hb hZ hS hown (hts _ (pz_WL_in jw_fld_fmt rfl)) (fun _ h => h) dJ0_checkIndex_df160_2 ?_
  refine pz_afterR (va_runS (As := [.int x, .int n, f]) (rest := []) (n := 3) ⟨hx, hb, hml, hown, hts⟩ (j_check3 l (base := base) (sa := sa) (sv := sv) hf h0 h1) ⟨⟨rfl, rfl, (by decide), (by decide), pz_jws hts jw_code_J3_checkIndex_8e157, List.mem_cons_self, hts _ (pz_WL_in jw_code_J3_checkIndex_8e157 rfl), hts _ (pz_WL_in jw_ini_P rfl), ⟨by decide, by decide⟩, fun sig h => (by have q : (parseMethodDescriptor yJ3_checkIndex_8e157.desc).map (fun d => d.parameters.length) = some 3 := (by decide +kernel); rw [h] at q; exact (Option.some.inj q).symm), hts _ (pz_WL_in jw_link_J3_checkIndex_8e157 rfl)⟩, hts _ (pz_WL_in jw_stat_J3_checkIndex_8e157 rfl)⟩ ⟨pz_TP_blind, fun U hU hW => ⟨rfl, by show pz_ST base sa sv U U.heap; rw [hU]; exact hST.moved hW.alike⟩⟩ rfl rfl hl.1 rfl (lv_room (Nat.le_of_ble_eq_true rfl)) dJ0_checkIndex_df160_5 ⟨Nat.le_refl _, Nat.le_refl _⟩) ?_
  refine lv_pop hx hb dJ0_checkIndex_df160_8 rfl ?_
  exact W.vret hx hb hr (fun t ht _ => ⟨rfl, ht⟩) (fun q hq => by cases hq) dJ0_checkIndex_df160_9
theorem pz_ch_ok : ∀ i, i < pz_sn → ∀ k, k < pz_sl.getD i 0 → ((pz_ch i k &&& 255).toUInt32 % 65536).toInt32 = pz_ch i k ∧ narrow .char (.int (pz_ch i k)) = .int (pz_ch i k) := by decide +kernel
theorem pz_sl_lt : ∀ i, i < pz_sn → pz_sl.getD i 0 < 1000 := by decide
set_option maxHeartbeats 4000000 in
theorem j_charL (l : Launch) {base : Nat} {sa sv : Nat → Nat} {i k : Nat} (hi : i < pz_sn) (hk : k < pz_sl.getD i 0) : Met l yJ1_charAt_3b067 (pz_jw yJ1_charAt_3b067 cJ1_charAt_3b067 2 (some .char)) (pz_jr 3 180) (pz_TP base sa sv [.ref (sv i), .int (nI k)]) (pz_QR (some (.int (pz_ch i k)))) 0 0 (fun _ => False) := by
  refine Met.ofW (cc := cJ1_charAt_3b067) (maxL := 2) (ret := (some .char)) (by decide) rfl ?_
  intro p e s m args below meth c s₁ B hml hv
  obtain ⟨rfl, hST⟩ := hv
  have hx := B.exec
  have hb := B.bytes
  have hr := B.returns
  have hts : ∀ w ∈ pz_WL, w.before _ s = true := fun w hw => atoms_spec (ws := pz_jw yJ1_charAt_3b067 cJ1_charAt_3b067 2 (some .char)) B.pre w (List.mem_cons_of_mem _ hw)
  have hown : s.vm.findClass "java/lang/StringLatin1" = some m.cls := findClass_of_methodNamed B.named
  have hlocks := B.notSynchronized
  have hS : va_S (fun q => base ≤ q) s.heap s.heap [] := va_S.rf
  have hl := lv_entry ([.ref (sv i), .int (nI k)]) (n := 2) (Nat.le_of_ble_eq_true rfl)
  rw [lg_entry_eq]
  generalize (lg_sl ([.ref (sv i), .int (nI k)]) ++ List.replicate (2 - (lg_sl ([.ref (sv i), .int (nI k)])).length) Slot.unset).toArray = ls at hl ⊢
  have hl : lv_has ls 2 [(0, .ref (sv i)), (1, .int (nI k))] := hl
  have h1000 := pz_sl_lt i hi
  obtain ⟨w1, w2, w3, w4⟩ := (hST.1 i hi).1 0 (by decide)
  refine lv_iload_n hx hb dJ1_charAt_3b067_0 rfl (lv_at hl 1 rfl) ?_
  refine lv_aload_n hx hb dJ1_charAt_3b067_1 rfl (lv_at hl 0 rfl) ?_
  refine va_tlen (v := nI (pz_sl.getD i 0)) hx hb w4 hS rfl dJ1_charAt_3b067_2 ?_
  refine pz_afterR (va_runS (As := [.int (nI k), .int (nI (pz_sl.getD i 0))]) (rest := []) (n := 2) ⟨hx, hb, hml, hown, hts⟩ (j_check0 l (base := base) (sa := sa) (sv := sv) (nI_pos (by omega)) (nI_lt hk (by omega))) ⟨⟨rfl, rfl, (by decide), (by decide), pz_jws hts jw_code_J0_checkIndex_df160, List.mem_cons_self, hts _ (pz_WL_in jw_code_J0_checkIndex_df160 rfl), hts _ (pz_WL_in jw_ini_S rfl), ⟨by decide, by decide⟩, fun sig h => (by have q : (parseMethodDescriptor yJ0_checkIndex_df160.desc).map (fun d => d.parameters.length) = some 2 := (by decide +kernel); rw [h] at q; exact (Option.some.inj q).symm), hts _ (pz_WL_in jw_link_J0_checkIndex_df160 rfl)⟩, hts _ (pz_WL_in jw_stat_J0_checkIndex_df160 rfl)⟩ ⟨pz_TP_blind, fun U hU hW => ⟨rfl, by show pz_ST base sa sv U U.heap; rw [hU]; exact hST.moved hW.alike⟩⟩ rfl rfl hl.1 rfl (lv_room (Nat.le_of_ble_eq_true rfl)) dJ1_charAt_3b067_3 ⟨Nat.le_refl _, Nat.le_refl _⟩) ?_
  refine lv_aload_n hx hb dJ1_charAt_3b067_6 rfl (lv_at hl 0 rfl) ?_
  refine lv_iload_n hx hb dJ1_charAt_3b067_7 rfl (lv_at hl 1 rfl) ?_
  refine va_tb (v := .int (pz_ch i k)) hx hb w4 hS (vp_in_nI hk (by show pz_sl.getD i 0 < 2 ^ 31; omega)) (by rw [nI_clamp (by omega)]; rfl) dJ1_charAt_3b067_8 ?_
  refine lv_sipush (v := 255) hx hb dJ1_charAt_3b067_9 (by decide) ?_
  refine lv_iand hx hb dJ1_charAt_3b067_12 ?_
  refine lv_i2c hx hb dJ1_charAt_3b067_13 (pz_ch_ok i hi k hk).1 ?_
  exact W.zret hx hb hr (pz_ch_ok i hi k hk).2 (fun t ht _ => ⟨rfl, ht⟩) (fun q hq => by cases hq) dJ1_charAt_3b067_14
set_option maxHeartbeats 4000000 in
theorem j_charAt (l : Launch) {base : Nat} {sa sv : Nat → Nat} {i k : Nat} (hi : i < pz_sn) (hk : k < pz_sl.getD i 0) : Met l yJ0_charAt_5068e (pz_jw yJ0_charAt_5068e cJ0_charAt_5068e 2 (some .char)) (pz_jr 4 260) (pz_TP base sa sv [.ref (sa i), .int (nI k)]) (pz_QR (some (.int (pz_ch i k)))) 0 0 (fun _ => False) := by
  refine Met.ofW (cc := cJ0_charAt_5068e) (maxL := 2) (ret := (some .char)) (by decide) rfl ?_
  intro p e s m args below meth c s₁ B hml hv
  obtain ⟨rfl, hST⟩ := hv
  have hx := B.exec
  have hb := B.bytes
  have hr := B.returns
  have hts : ∀ w ∈ pz_WL, w.before _ s = true := fun w hw => atoms_spec (ws := pz_jw yJ0_charAt_5068e cJ0_charAt_5068e 2 (some .char)) B.pre w (List.mem_cons_of_mem _ hw)
  have hown : s.vm.findClass "java/lang/String" = some m.cls := findClass_of_methodNamed B.named
  have hlocks := B.notSynchronized
  have hS : va_S (fun q => base ≤ q) s.heap s.heap [] := va_S.rf
  have hl := lv_entry ([.ref (sa i), .int (nI k)]) (n := 2) (Nat.le_of_ble_eq_true rfl)
  rw [lg_entry_eq]
  generalize (lg_sl ([.ref (sa i), .int (nI k)]) ++ List.replicate (2 - (lg_sl ([.ref (sa i), .int (nI k)])).length) Slot.unset).toArray = ls at hl ⊢
  have hl : lv_has ls 2 [(0, .ref (sa i)), (1, .int (nI k))] := hl
  obtain ⟨w1, w2, w3, w4⟩ := (hST.1 i hi).1 0 (by decide)
  refine lv_aload_n hx hb dJ0_charAt_5068e_0 rfl (lv_at hl 0 rfl) ?_
  refine pz_afterR (va_runV (As := []) (rest := []) (C := "java/lang/String") (n := 0) ⟨hx, hb, hml, hown, hts⟩ (j_latin l (base := base) (sv := sv) hi) ⟨⟨rfl, rfl, (by decide), (by decide), pz_jws hts jw_code_J0_isLatin1_aae02, List.mem_cons_self, hts _ (pz_WL_in jw_code_J0_isLatin1_aae02 rfl), hts _ (pz_WL_in jw_ini_S rfl), ⟨by decide, by decide⟩, fun sig h => (by have q : (parseMethodDescriptor yJ0_isLatin1_aae02.desc).map (fun d => d.parameters.length) = some 0 := (by decide +kernel); rw [h] at q; exact (Option.some.inj q).symm), hts _ (pz_WL_in jw_link_J0_isLatin1_aae02 rfl)⟩, hts _ (pz_WL_in jw_inst_J0_isLatin1_aae02 rfl), hts _ (pz_WL_in jw_sel_J0_isLatin1_aae02 rfl)⟩ ⟨pz_TP_blind, vk_recv (i := 0) (hST.1 i hi) (by decide) hS, fun U hU hW => ⟨rfl, by show pz_ST base sa sv U U.heap; rw [hU]; exact hST.moved hW.alike⟩⟩ rfl rfl hl.1 rfl (lv_room (Nat.le_of_ble_eq_true rfl)) dJ0_charAt_5068e_1 ⟨Nat.le_refl _, Nat.le_refl _⟩) ?_
  refine lv_if_eq (tgt := 16) hx hb dJ0_charAt_5068e_4 (by decide) (fun q => absurd q (by decide)) (fun _ => ?_)
  refine lv_aload_n hx hb dJ0_charAt_5068e_7 rfl (lv_at hl 0 rfl) ?_
  refine vk_getf hx hb w3 hS hown (hts _ (pz_WL_in jw_fld_value rfl)) (fun _ h => h) dJ0_charAt_5068e_8 ?_
  refine lv_iload_n hx hb dJ0_charAt_5068e_11 rfl (lv_at hl 1 rfl) ?_
  refine pz_afterR (va_runS (As := [.ref (sv i), .int (nI k)]) (rest := []) (n := 2) ⟨hx, hb, hml, hown, hts⟩ (j_charL l (base := base) (sa := sa) (sv := sv) hi hk) ⟨⟨rfl, rfl, (by decide), (by decide), pz_jws hts jw_code_J1_charAt_3b067, List.mem_cons_self, hts _ (pz_WL_in jw_code_J1_charAt_3b067 rfl), hts _ (pz_WL_in jw_ini_L rfl), ⟨by decide, by decide⟩, fun sig h => (by have q : (parseMethodDescriptor yJ1_charAt_3b067.desc).map (fun d => d.parameters.length) = some 2 := (by decide +kernel); rw [h] at q; exact (Option.some.inj q).symm), hts _ (pz_WL_in jw_link_J1_charAt_3b067 rfl)⟩, hts _ (pz_WL_in jw_stat_J1_charAt_3b067 rfl)⟩ ⟨pz_TP_blind, fun U hU hW => ⟨rfl, by show pz_ST base sa sv U U.heap; rw [hU]; exact hST.moved hW.alike⟩⟩ rfl rfl hl.1 rfl (lv_room (Nat.le_of_ble_eq_true rfl)) dJ0_charAt_5068e_12 ⟨Nat.le_refl _, Nat.le_refl _⟩) ?_
  exact W.zret hx hb hr (pz_ch_ok i hi k hk).2 (fun t ht _ => ⟨rfl, ht⟩) (fun q hq => by cases hq) dJ0_charAt_5068e_15
