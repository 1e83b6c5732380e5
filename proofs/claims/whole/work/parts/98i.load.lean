/-! ===== the class: load ===== -/
/-- as HF, but the text, the draft and the torrent may be others -/
def HG (cs : List Nat) (h h' : PzH) : Prop := pz_C h' = pz_C h ∧ pz_L h' = pz_L h ∧ (∀ x y, ¬ ((x = 11 ∧ y = 0) ∨ (x = 10 ∧ y = 2) ∨ (x = 23 ∧ y = 3)) → pz_R h' x y = pz_R h x y) ∧ pz_N h' = pz_N h ∧ pz_S h' = pz_S h ∧ pz_XL h' = pz_XL h ∧ pz_XS h' = pz_XS h ∧ (∀ b, b ∉ cs → pz_I h' b = pz_I h b) ∧ (∀ b, b ∉ cs → pz_J h' b = pz_J h b)
section
variable {d : Nat} {h h' : PzH} {Q : Option Value → PzH → Prop} {A A' : St} {l c p : Nat}
theorem HG_HF {cs : List Nat} {h1 h2 : PzH} (f : HF cs h1 h2) : HG cs h1 h2 := by
  obtain ⟨a1, a2, a3, a4, a5, a6, a7, a8, a9⟩ := f
  exact ⟨a1, a2, fun x y _ => by rw [a3], a4, a5, a6, a7, a8, a9⟩
theorem HG_trans {cs : List Nat} {h1 h2 h3 : PzH} (a : HG cs h1 h2) (b : HG cs h2 h3) : HG cs h1 h3 := by
  obtain ⟨a1, a2, a3, a4, a5, a6, a7, a8, a9⟩ := a
  obtain ⟨b1, b2, b3, b4, b5, b6, b7, b8, b9⟩ := b
  exact ⟨b1.trans a1, b2.trans a2, fun x y z => (b3 x y z).trans (a3 x y z), b4.trans a4, b5.trans a5, b6.trans a6, b7.trans a7, fun x hx => (b8 x hx).trans (a8 x hx), fun x hx => (b9 x hx).trans (a9 x hx)⟩
theorem HG_up {cs cs' : List Nat} {h1 h2 : PzH} (a : HG cs h1 h2) (s : ∀ b, b ∈ cs → b ∈ cs') : HG cs' h1 h2 := by
  obtain ⟨a1, a2, a3, a4, a5, a6, a7, a8, a9⟩ := a
  exact ⟨a1, a2, a3, a4, a5, a6, a7, fun x hx => a8 x (fun z => hx (s x z)), fun x hx => a9 x (fun z => hx (s x z))⟩
theorem HG_sR {cs : List Nat} {x y : Nat} {v : Option Nat} (z : (x = 11 ∧ y = 0) ∨ (x = 10 ∧ y = 2) ∨ (x = 23 ∧ y = 3)) : HG cs h (pz_sR h x y v) := ⟨rfl, rfl, fun u w q => by rw [pq_R_sR, if_neg (fun k => q (by rw [k.1, k.2]; exact z))], rfl, rfl, rfl, rfl, fun _ _ => rfl, fun _ _ => rfl⟩
theorem HC_HG {cs : List Nat} (f : HG cs h h') (hc : ∀ x, x ∈ cs → x < 138) : HC h h' := by
  obtain ⟨a1, a2, a3, a4, a5, a6, a7, a8, a9⟩ := f
  refine ⟨fun b hb => ⟨by rw [a1], by rw [a2], a8 b (fun z => by have := hc b z; omega), a9 b (fun z => by have := hc b z; omega), ?_⟩, a4, a5, a6, a7⟩
  funext y
  exact a3 b y (by omega)
theorem ROW_G {cs : List Nat} {r a cap : Nat} {l : List Int8} (w : ROW h r a cap l) (f : HG cs h h') (hr : r ∉ cs) (ha : a ∉ cs) (hn : r ≠ 11) : ROW h' r a cap l := by
  obtain ⟨w1, w2, w3, w4, w5, w6, w7, w8, w9⟩ := w
  obtain ⟨a1, a2, a3, _, _, _, _, a8, _⟩ := f
  refine ⟨by rw [a1]; exact w1, by rw [a3 r 0 (by omega)]; exact w2, by rw [a1]; exact w3, by rw [a2]; exact w4, w5, w6, by rw [a8 r hr]; exact w7, w8, by rw [a8 a ha]; exact w9⟩
theorem TOR_G {cs : List Nat} {t : Nat} (T : TOR h t) (f : HG cs h h') (ht : t = 15 ∨ t = 28) : TOR h' t := by
  obtain ⟨a1, a2, a3, _⟩ := f
  obtain ⟨q1, ⟨q2, q3, q4⟩, ⟨q5, q6, q7⟩, ⟨q8, q9, q10⟩, q11, q12⟩ := T
  refine ⟨?_, ?_, ?_, ?_, ?_, ?_⟩
  · rw [a1]; exact q1
  · rw [a1, a2, a3 t 4 (by omega)]; exact ⟨q2, q3, q4⟩
  · rw [a1, a2, a3 t 5 (by omega)]; exact ⟨q5, q6, q7⟩
  · rw [a1, a2, a3 t 6 (by omega)]; exact ⟨q8, q9, q10⟩
  · rw [a3 t 7 (by omega)]; exact q11
  · rw [a3 t 8 (by omega)]; exact q12
theorem CO_G {cs : List Nat} (C : CO h) (f : HG cs h h') : CO h' := by
  have f' := f
  obtain ⟨a1, a2, a3, _⟩ := f
  obtain ⟨⟨d0, d1, d2, d3, d4, d5, d6, d7⟩, ⟨s1, s2, s3, s4, s5, s6, s7⟩, ⟨o1, o2, o3, o4, o5, o6, o7⟩, T1, T2, ⟨n1, ⟨n2, n3, n4⟩, ⟨n5, n6, n7⟩, n8⟩, CL, LL, ⟨c1, c2, c3, c4, c5, c6, c7, c8⟩⟩ := C
  refine ⟨⟨?_, ?_, ?_, ?_, ?_, ?_, ?_, ?_⟩, ⟨?_, ?_, ?_, ?_, ?_, ?_, ?_⟩, ⟨?_, ?_, ?_, ?_, ?_, ?_, ?_⟩, TOR_G T1 f' (Or.inl rfl), TOR_G T2 f' (Or.inr rfl), ⟨?_, ⟨?_, ?_, ?_⟩, ⟨?_, ?_, ?_⟩, ?_⟩, fun k hk => ?_, fun k hk h6 => ?_, ⟨?_, ?_, ?_, ?_, ?_, ?_, ?_, ?_⟩⟩
  · rw [a1]; exact d0
  · rw [a3 0 0 (by decide)]; exact d1
  · rw [a3 0 1 (by decide)]; exact d2
  · rw [a3 0 2 (by decide)]; exact d3
  · rw [a3 0 3 (by decide)]; exact d4
  · rw [a3 0 4 (by decide)]; exact d5
  · rw [a3 0 5 (by decide)]; exact d6
  · rw [a3 0 6 (by decide)]; exact d7
  · rw [a1]; exact s1
  · rw [a3 7 0 (by decide)]; exact s2
  · rw [a1]; exact s3
  · rw [a2]; exact s4
  · rw [a3 7 1 (by decide)]; exact s5
  · rw [a1]; exact s6
  · rw [a2]; exact s7
  · rw [a1]; exact o1
  · rw [a3 10 0 (by decide)]; exact o2
  · rw [a3 10 1 (by decide)]; exact o3
  · rw [a1]; exact o4
  · rw [a3 11 1 (by decide)]; exact o5
  · rw [a1]; exact o6
  · rw [a2]; exact o7
  · rw [a1]; exact n1
  · rw [a3 23 0 (by decide)]; exact n2
  · rw [a1]; exact n3
  · rw [a2]; exact n4
  · rw [a3 23 1 (by decide)]; exact n5
  · rw [a1]; exact n6
  · rw [a2]; exact n7
  · rw [a3 23 2 (by decide)]; exact n8
  · obtain ⟨k1, k2, k3, k4, k5, k6⟩ := CL k hk
    unfold CLI
    rw [a3 24 k (by omega), a1, a2, a3 (36 + 4 * k) 1 (by omega), a3 (36 + 4 * k) 3 (by omega)]
    exact ⟨k1, k2, k3, k4, k5, k6⟩
  · obtain ⟨k1, k2, k3, k4, k5, k6⟩ := LL k hk h6
    have lin := lkA_in hk h6
    unfold LNK
    rw [a3 25 k (by omega), a1, a2, a3 (lkA k) 2 (by omega), a3 (lkA k) 11 (by omega)]
    exact ⟨k1, k2, k3, k4, k5, k6⟩
  · rw [a1]; exact c1
  · rw [a3 132 0 (by decide)]; exact c2
  · rw [a3 132 1 (by decide)]; exact c3
  · rw [a3 132 2 (by decide)]; exact c4
  · rw [a3 132 3 (by decide)]; exact c5
  · rw [a3 132 4 (by decide)]; exact c6
  · rw [a1]; exact c7
  · rw [a2]; exact c8
theorem CR_G {cs : List Nat} {k : Nat} (C : CR h A k) (f : HG cs h h') (hc : ∀ x, 36 + 4 * k ≤ x → x ≤ 39 + 4 * k → x ∉ cs) (e : ∀ r, r ∈ [18, 20, 21, 22] → sB A' r = sB A r) (eD : sD A' = sD A) : CR h' A' k := by
  obtain ⟨c0, ⟨l, w⟩, c1⟩ := C
  have f8 := f.2.2.2.2.2.2.2.1
  have f9 := f.2.2.2.2.2.2.2.2
  unfold CR
  rw [f8 (36 + 4 * k) (hc _ (by omega) (by omega)), f8 (39 + 4 * k) (hc _ (by omega) (by omega)), f9 (36 + 4 * k) (hc _ (by omega) (by omega)), e 18 (by decide), e 20 (by decide), e 21 (by decide), e 22 (by decide), eD]
  refine ⟨c0, ⟨l, ROW_G w f (hc _ (by omega) (by omega)) (hc _ (by omega) (by omega)) (by omega)⟩, fun z => ?_⟩
  obtain ⟨d1, d2⟩ := c1 z
  exact ⟨ROW_G d1 f (hc _ (by omega) (by omega)) (hc _ (by omega) (by omega)) (by omega), d2⟩
theorem LR_G {cs : List Nat} {a b : Nat} (R : LR h A a b) (f : HG cs h h') (hc : ∀ x, x ∈ lkC (5 * a + b) → x ∉ cs) (hl : 52 ≤ lkA (5 * a + b)) : LR h' A a b := by
  have m0 : lkA (5 * a + b) ∉ cs := hc _ (lkC_m.mpr (by omega))
  have m1 : lkA (5 * a + b) + 1 ∉ cs := hc _ (lkC_m.mpr (by omega))
  have m2 : lkA (5 * a + b) + 2 ∉ cs := hc _ (lkC_m.mpr (by omega))
  have m3 : lkA (5 * a + b) + 3 ∉ cs := hc _ (lkC_m.mpr (by omega))
  obtain ⟨r0, r1, r3, r4, r5, r6, r7, r8, r9, r10, r12, r11, r13, rw⟩ := R
  have f8 := f.2.2.2.2.2.2.2.1
  have f9 := f.2.2.2.2.2.2.2.2
  unfold LR
  rw [f8 _ m0, f9 _ m0, f8 _ m3]
  exact ⟨r0, r1, r3, r4, r5, r6, r7, r8, r9, r10, r12, r11, r13, ROW_G rw f m1 m2 (by omega)⟩
/-- all is told anew but clients and links -/
theorem RC_G {cs : List Nat} (R : RC h A) (f : HG cs h h') (hc : ∀ x, x ∈ cs → x ≤ 22 ∨ 28 ≤ x ∧ x ≤ 35) (T' : TRS h' A') (B' : BYS h' A') (eW : sW A' = sW A) (eL : sL A' = sL A) (eD : sD A' = sD A) (eB : ∀ r, r ≠ 0 → sB A' r = sB A r) : RC h' A' := by
  obtain ⟨C, _, _, CL, LL, ⟨⟨l1, w1⟩, ⟨l2, w2⟩, ⟨l3, w3⟩⟩⟩ := R
  have out : ∀ x, (23 ≤ x ∧ x ≤ 27 ∨ 36 ≤ x) → x ∉ cs := fun x hx z => by have := hc x z; omega
  refine ⟨CO_G C f, T', B', fun k hk => CR_G (CL k hk) f (fun x h1 h2 => out x (by omega)) (fun r hr => eB r (by rintro rfl; revert hr; decide)) eD, fun a b ha hb hab => ?_, ⟨l1, ROW_G w1 f (out _ (by omega)) (out _ (by omega)) (by decide)⟩, ⟨l2, ROW_G w2 f (out _ (by omega)) (out _ (by omega)) (by decide)⟩, ⟨l3, ROW_G w3 f (out _ (by omega)) (out _ (by omega)) (by decide)⟩⟩
  have lin := lkA_in (k := 5 * a + b) (by omega) (by omega)
  refine LR_A (LR_G (LL a b ha hb hab) f (fun z hz => out z (by rw [lkC_m] at hz; omega)) (by omega)) (fun r hr => by rw [eB r (by rintro rfl; revert hr; decide)]) (fun q hq => by rw [eB 30 (by decide)]) (by rw [eL]) (by rw [eW])
theorem TR_G {cs : List Nat} {t : Nat} (T : TR h A t) (f : HG cs h h') (ht : t = 15 ∨ t = 28) (hc : ∀ x, t ≤ x → x ≤ t + 7 → x ∉ cs) (e0 : ∀ j, (j = 18 ∨ j = 19 ∨ j = 20 ∨ j = 21) → sB A' 0 j = sB A 0 j) (e2 : sV A' 2 = sV A 2) (e3 : sV A' 3 = sV A 3) (eF : sF A' = sF A) : TR h' A' t := by
  obtain ⟨t0, t1, t2, t3, tf, w1, w2⟩ := T
  have f8 := f.2.2.2.2.2.2.2.1
  unfold TR
  rw [f8 t (hc t (by omega) (by omega)), f8 (t + 1) (hc _ (by omega) (by omega)), f8 (t + 2) (hc _ (by omega) (by omega)), f8 (t + 3) (hc _ (by omega) (by omega)), e0 18 (by decide), e0 19 (by decide), e0 20 (by decide), e0 21 (by decide), e2, e3, eF]
  exact ⟨t0, t1, t2, t3, tf, ROW_G w1 f (hc _ (by omega) (by omega)) (hc _ (by omega) (by omega)) (by omega), ROW_G w2 f (hc _ (by omega) (by omega)) (hc _ (by omega) (by omega)) (by omega)⟩
/-- the torrent and the draft of a desk -/
theorem TD_of (R : RC h A) : ∃ t dr, (t = 15 ∧ dr = 28 ∨ t = 28 ∧ dr = 15) ∧ pz_R h 23 3 = some t ∧ LD h dr ∧ pz_C h t = 8 ∧ TR h A t ∧ (∃ l, ROW h (dr + 4) (dr + 5) 20 l) ∧ (∃ l, ROW h (dr + 6) (dr + 7) 1280 l) := by
  obtain ⟨t, ht, r1, r2, T, w1, w2⟩ := R.2.1
  obtain ⟨o1, o2, o3, _⟩ := R.1.2.2.1
  rcases ht with rfl | rfl
  · exact ⟨15, 28, Or.inl ⟨rfl, rfl⟩, r1, ⟨⟨o1, o2, o3, r2⟩, R.1.2.2.2.2.1, Or.inr rfl⟩, R.1.2.2.2.1.1, T, w1, w2⟩
  · exact ⟨28, 15, Or.inr ⟨rfl, rfl⟩, r1, ⟨⟨o1, o2, o3, r2⟩, R.1.2.2.2.1, Or.inl rfl⟩, R.1.2.2.2.2.1.1, T, w1, w2⟩
theorem TRS_mk {t dr : Nat} (ht : t = 15 ∧ dr = 28 ∨ t = 28 ∧ dr = 15) (r1 : pz_R h 23 3 = some t) (r2 : pz_R h 10 2 = some dr) (T : TR h A t) (w1 : ∃ l, ROW h (dr + 4) (dr + 5) 20 l) (w2 : ∃ l, ROW h (dr + 6) (dr + 7) 1280 l) : TRS h A := by
  rcases ht with ⟨rfl, rfl⟩ | ⟨rfl, rfl⟩
  · exact ⟨15, Or.inl rfl, r1, r2, T, w1, w2⟩
  · exact ⟨28, Or.inr rfl, r1, r2, T, w1, w2⟩
/-- the clients leave, the links close -/
theorem RC_th {a : Nat} (R : RC h A) (ha : a < 4) : RC (pz_sI h (36 + 4 * a) 0 0) (pz_u2 (sB A) 18 a 0, A.2) := by
  have f : HF [36 + 4 * a, 37 + 4 * a, 38 + 4 * a, 39 + 4 * a] h (pz_sI h (36 + 4 * a) 0 0) := HF_sI (by simp)
  have f2 : HF [36 + 4 * a] h (pz_sI h (36 + 4 * a) 0 0) := HF_sI (by simp)
  have eb : ∀ r, r ≠ 18 → sB ((pz_u2 (sB A) 18 a 0, A.2) : St) r = sB A r := fun r hr => gu_r hr
  have e18 : ∀ j, sB ((pz_u2 (sB A) 18 a 0, A.2) : St) 18 j = if j = a then 0 else sB A 18 j := fun j => by
    show pz_u2 (sB A) 18 a 0 18 j = _
    rw [gu_22]
    by_cases z : j = a
    · rw [if_pos ⟨rfl, z⟩, if_pos z]
    · rw [if_neg (fun y => z y.2), if_neg z]
  refine RC_cl1 R ha f ?_ (fun j => by rw [eb 0 (by decide)]) rfl rfl rfl rfl (fun _ _ => rfl) (fun r hr => eb r (by rintro rfl; revert hr; decide)) (fun j hj => by rw [e18, if_neg hj]) (fun j _ q _ => by rw [eb 20 (by decide)]) (fun j _ w _ => by rw [eb 21 (by decide)]) (fun j _ w _ => by rw [eb 22 (by decide)])
  obtain ⟨c0, ⟨l, w⟩, c1⟩ := R.2.2.2.1 a ha
  refine ⟨?_, ⟨l, ROW_fr w f2 (by simp <;> omega) (by simp <;> omega)⟩, fun z => absurd (by rw [e18, if_pos rfl]) z⟩
  rw [e18, if_pos rfl, pq_I_sI, if_pos ⟨rfl, rfl⟩]
theorem RC_16 {v : Int32} (R : RC h A) : RC h (pz_u2 (sB A) 0 16 v, A.2) := by
  have eb : ∀ r, r ≠ 0 → sB ((pz_u2 (sB A) 0 16 v, A.2) : St) r = sB A r := fun r hr => gu_r hr
  have e0 : ∀ j, j ≠ 16 → sB ((pz_u2 (sB A) 0 16 v, A.2) : St) 0 j = sB A 0 j := fun j hj => by show pz_u2 (sB A) 0 16 v 0 j = _; rw [gu_22, if_neg (fun y => hj y.2)]
  refine RC_by (cs := []) R HF_refl (fun x hx => by simp at hx) ?_ rfl rfl rfl rfl rfl rfl (fun j hj => e0 j (by omega)) eb
  obtain ⟨b1, b2, b3, b4⟩ := R.2.2.1
  unfold BYS
  rw [e0 17 (by decide), e0 27 (by decide)]
  exact ⟨b1, b2, b3, b4⟩
theorem c_restart {dr : Nat} {h1 : PzH} (e1 : h1 = pz_sR h 23 3 (some dr)) (hC : pz_C h 23 = 5) (R : RC h1 A) (K : ∀ h', HC h1 h' → RC h' (anA A 4) → Q none h') : pz_M (d + 5) mX5_restart [.ref 23, .ref dr] h Q := by
  simp only [enX5_restart, uX5_restart_0, uX5_restart_0o, uX5_restart_0f, uX5_restart_1, uX5_restart_1o, uX5_restart_1f, uX5_restart_2, uX5_restart_2o, uX5_restart_5, uX5_restart_6, uX5_restart_8, uX5_restart_9, uX5_restart_12, uX5_restart_12o, uX5_restart_12f, uX5_restart_13, uX5_restart_16, uX5_restart_17, uX5_restart_18, uX5_restart_19, uX5_restart_22, uX5_restart_22o, uX5_restart_22f, uX5_restart_23, uX5_restart_24, uX5_restart_27, uX5_restart_30, uX5_restart_33, pq_C_sI, pq_C_sJ, pq_C_sR, pq_C_sA, pq_L_sI, pq_L_sJ, pq_L_sR, pq_L_sA, pq_I_sI, pq_I_sJ, pq_I_sR, pq_I_sA, pq_J_sI, pq_J_sJ, pq_J_sR, pq_J_sA, pq_R_sI, pq_R_sJ, pq_R_sR, pq_R_sA, pq_N_sI, pq_N_sJ, pq_N_sR, pq_N_sA, pq_S_sI, pq_S_sJ, pq_S_sR, pq_S_sA, pz_rf_s, pz_cut_i, pz_cut_r, pz_cut_n, pz_cut_f, pz_cut_u, pz_cut_o, true_and, and_true, true_or, or_true, Option.toList_some, Option.toList_none, List.cons_append, List.nil_append, Nat.add_left_cancel_iff, Nat.left_eq_add, Nat.add_eq_left, Nat.reduceEqDiff, if_true, if_false, ite_true, ite_false, false_and, and_false, false_or, or_false, reduceIte, reduceCtorEq, and_self, z_4, z_5, z_7, z_8, z_10, z_16, z_20, z_64, not_false_eq_true, hC]
  rw [← e1]
  have R0 : RC h1 (anA A 0) := RC_16 R
  refine wp_up 4 (fun i ls h' => ls = [.ref 23, .ref dr, .int (nI i)] ∧ HC h1 h' ∧ RC h' (anA A i)) ?_ ?_ _ _ ⟨rfl, HC_refl, R0⟩
  · rintro i ls h' hi ⟨rfl, H, R'⟩ K'
    have stp : anA A (i + 1) = paA (pz_u2 (sB (anA A i)) 18 i 0, (anA A i).2) i 5 := rfl
    rw [stp] at K'
    generalize anA A i = Z at R' K'
    obtain ⟨m1, ⟨m2, m3, m4⟩, _, _⟩ := R'.1.2.2.2.2.2.1
    obtain ⟨q1, c1, _⟩ := R'.1.2.2.2.2.2.2.1 i hi
    have hin : pz_in (nI i) 4 = true := pz_in_nI hi (by decide)
    rw [uX5_restart_7]
    simp only [enX5_restart, uX5_restart_0, uX5_restart_0o, uX5_restart_0f, uX5_restart_1, uX5_restart_1o, uX5_restart_1f, uX5_restart_2, uX5_restart_2o, uX5_restart_5, uX5_restart_6, uX5_restart_8, uX5_restart_9, uX5_restart_12, uX5_restart_12o, uX5_restart_12f, uX5_restart_13, uX5_restart_16, uX5_restart_17, uX5_restart_18, uX5_restart_19, uX5_restart_22, uX5_restart_22o, uX5_restart_22f, uX5_restart_23, uX5_restart_24, uX5_restart_27, uX5_restart_30, uX5_restart_33, pq_C_sI, pq_C_sJ, pq_C_sR, pq_C_sA, pq_L_sI, pq_L_sJ, pq_L_sR, pq_L_sA, pq_I_sI, pq_I_sJ, pq_I_sR, pq_I_sA, pq_J_sI, pq_J_sJ, pq_J_sR, pq_J_sA, pq_R_sI, pq_R_sJ, pq_R_sR, pq_R_sA, pq_N_sI, pq_N_sJ, pq_N_sR, pq_N_sA, pq_S_sI, pq_S_sJ, pq_S_sR, pq_S_sA, pz_rf_s, pz_cut_i, pz_cut_r, pz_cut_n, pz_cut_f, pz_cut_u, pz_cut_o, true_and, and_true, true_or, or_true, Option.toList_some, Option.toList_none, List.cons_append, List.nil_append, Nat.add_left_cancel_iff, Nat.left_eq_add, Nat.add_eq_left, Nat.reduceEqDiff, if_true, if_false, ite_true, ite_false, false_and, and_false, false_or, or_false, reduceIte, reduceCtorEq, and_self, z_4, z_5, z_7, z_8, z_10, z_16, z_20, z_64, not_false_eq_true, m1, m2, m3, m4, hin, nI_clamp (show i < 2 ^ 31 by omega), q1, c1]
    rw [if_neg (show ¬ (4 : Int32) ≤ nI i from nI_ge (b := 4) hi (by decide))]
    have R2 := RC_th R' hi
    have H2 : HC h' (pz_sI h' (36 + 4 * i) 0 0) := HC_HF (cs := [36 + 4 * i]) (HF_sI (by simp)) (fun x hx => by simp at hx; omega)
    generalize pz_sI h' (36 + 4 * i) 0 0 = h2 at R2 H2
    generalize hZ : ((pz_u2 (sB Z) 18 i 0, Z.2) : St) = Z2 at R2 K'
    generalize hY : paA Z2 i 5 = Y at K'
    refine c_partFromAll R2 (show i < 5 by omega) (fun h3 F3 R3 => ?_)
    rw [hY] at R3
    simp only [enX5_restart, uX5_restart_0, uX5_restart_0o, uX5_restart_0f, uX5_restart_1, uX5_restart_1o, uX5_restart_1f, uX5_restart_2, uX5_restart_2o, uX5_restart_5, uX5_restart_6, uX5_restart_8, uX5_restart_9, uX5_restart_12, uX5_restart_12o, uX5_restart_12f, uX5_restart_13, uX5_restart_16, uX5_restart_17, uX5_restart_18, uX5_restart_19, uX5_restart_22, uX5_restart_22o, uX5_restart_22f, uX5_restart_23, uX5_restart_24, uX5_restart_27, uX5_restart_30, uX5_restart_33, pq_C_sI, pq_C_sJ, pq_C_sR, pq_C_sA, pq_L_sI, pq_L_sJ, pq_L_sR, pq_L_sA, pq_I_sI, pq_I_sJ, pq_I_sR, pq_I_sA, pq_J_sI, pq_J_sJ, pq_J_sR, pq_J_sA, pq_R_sI, pq_R_sJ, pq_R_sR, pq_R_sA, pq_N_sI, pq_N_sJ, pq_N_sR, pq_N_sA, pq_S_sI, pq_S_sJ, pq_S_sR, pq_S_sA, pz_rf_s, pz_cut_i, pz_cut_r, pz_cut_n, pz_cut_f, pz_cut_u, pz_cut_o, true_and, and_true, true_or, or_true, Option.toList_some, Option.toList_none, List.cons_append, List.nil_append, Nat.add_left_cancel_iff, Nat.left_eq_add, Nat.add_eq_left, Nat.reduceEqDiff, if_true, if_false, ite_true, ite_false, false_and, and_false, false_or, or_false, reduceIte, reduceCtorEq, and_self, z_4, z_5, z_7, z_8, z_10, z_16, z_20, z_64, not_false_eq_true, nI_1]
    exact K' _ _ ⟨rfl, HC_trans H (HC_trans H2 (HC_HL F3)), R3⟩
  · rintro ls h' ⟨rfl, H, R'⟩
    rw [uX5_restart_7]
    simp only [enX5_restart, uX5_restart_0, uX5_restart_0o, uX5_restart_0f, uX5_restart_1, uX5_restart_1o, uX5_restart_1f, uX5_restart_2, uX5_restart_2o, uX5_restart_5, uX5_restart_6, uX5_restart_8, uX5_restart_9, uX5_restart_12, uX5_restart_12o, uX5_restart_12f, uX5_restart_13, uX5_restart_16, uX5_restart_17, uX5_restart_18, uX5_restart_19, uX5_restart_22, uX5_restart_22o, uX5_restart_22f, uX5_restart_23, uX5_restart_24, uX5_restart_27, uX5_restart_30, uX5_restart_33, pq_C_sI, pq_C_sJ, pq_C_sR, pq_C_sA, pq_L_sI, pq_L_sJ, pq_L_sR, pq_L_sA, pq_I_sI, pq_I_sJ, pq_I_sR, pq_I_sA, pq_J_sI, pq_J_sJ, pq_J_sR, pq_J_sA, pq_R_sI, pq_R_sJ, pq_R_sR, pq_R_sA, pq_N_sI, pq_N_sJ, pq_N_sR, pq_N_sA, pq_S_sI, pq_S_sJ, pq_S_sR, pq_S_sA, pz_rf_s, pz_cut_i, pz_cut_r, pz_cut_n, pz_cut_f, pz_cut_u, pz_cut_o, true_and, and_true, true_or, or_true, Option.toList_some, Option.toList_none, List.cons_append, List.nil_append, Nat.add_left_cancel_iff, Nat.left_eq_add, Nat.add_eq_left, Nat.reduceEqDiff, if_true, if_false, ite_true, ite_false, false_and, and_false, false_or, or_false, reduceIte, reduceCtorEq, and_self, z_4, z_5, z_7, z_8, z_10, z_16, z_20, z_64, not_false_eq_true]
    rw [if_pos (show (4 : Int32) ≤ nI 4 by decide)]
    exact K h' H R'
end
