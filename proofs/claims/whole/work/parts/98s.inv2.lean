/-! ===== what holds between the calls: it is kept ===== -/
section
variable {A B : St} {l c p : Nat}
theorem GV_h20 (I : GV A l c p) {x : Nat} (hx : x < 4) (h : sB A 18 x ≠ 0) : sB A 0 16 ≠ 0 ∧ (sV A 2).length = 20 := by
  have h16 : sB A 0 16 ≠ 0 := fun z => h ((I.2.1 z).2.2 x hx)
  exact ⟨h16, (I.2.2.1 h16).2.1⟩
theorem GV_con {a b : Int32} (I : GV A l c p) : GV (conA A a b).2 l c p := by
  unfold conA
  cases ea : exB (sB A) a with
  | none => exact I
  | some x =>
    cases eb : exB (sB A) b with
    | none => exact I
    | some y =>
      dsimp only
      obtain ⟨x1, x2, x3⟩ := exB_some ea
      obtain ⟨y1, y2, y3⟩ := exB_some eb
      by_cases q : x = y ∨ sB A 23 (5 * x + y) ≠ 0
      · rw [if_pos q]; exact I
      · rw [if_neg q]
        have hxy : x ≠ y := fun z => q (Or.inl z)
        show GV (greA (greA (jnA (prA A x y) x y) x y) y x) l c p
        have J := GV_jn (A := prA A x y) x1 y1 hxy x3 y3 (GV_pr x1 y1 I)
        have j1 : sB (jnA (prA A x y) x y) 23 (5 * x + y) = 1 := by rw [jn_23, if_neg (by omega), if_pos rfl]
        have j2 : sB (jnA (prA A x y) x y) 23 (5 * y + x) = 1 := by rw [jn_23, if_pos rfl]
        have w1 : sW (jnA (prA A x y) x y) (5 * x + y) = [] := by
          show upf (upf (sW A) (5 * x + y) []) (5 * y + x) [] (5 * x + y) = []
          rw [upf_n (by omega), upf_s]
        have v2 : x ≠ 4 → (heL (sV (jnA (prA A x y) x y) 2) x).length = 68 := fun z => heL_len (GV_h20 I (show x < 4 by omega) (by rcases x3 with k | k; exact absurd k z; exact k)).2
        generalize jnA (prA A x y) x y = C at J j1 j2 w1 v2
        have G1 : GV (greA C x y) l c p ∧ sB (greA C x y) 23 (5 * y + x) = 1 := by
          unfold greA
          by_cases z : x = 4
          · rw [if_pos z]; exact ⟨J, j2⟩
          · rw [if_neg z]
            refine ⟨GV_snd x1 y1 J (by rw [j1]; decide), ?_⟩
            unfold sndA
            rw [if_pos (by rw [w1, v2 z]; decide)]
            exact j2
        obtain ⟨G2, G3⟩ := G1
        generalize greA C x y = D at G2 G3
        unfold greA
        by_cases z : y = 4
        · rw [if_pos z]; exact G2
        · rw [if_neg z]
          exact GV_snd y1 x1 G2 (by rw [G3]; decide)
theorem GV_pa {a : Nat} (ha : a < 5) (I : GV A l c p) : ∀ n, n ≤ 5 → GV (paA A a n) l c p
  | 0, _ => I
  | n + 1, h => GV_cl ha (by omega) (GV_pa ha I n (by omega))
theorem GV_cli {k f : Int32} (I : GV A l c p) : GV (cliA A k f).2 l c p := by
  unfold cliA
  cases ek : vI k 4 with
  | none => exact I
  | some x =>
    dsimp only
    obtain ⟨x1, x2⟩ := vI_some (by decide) ek
    by_cases q : sB A 0 16 = 0 ∨ (f ≠ 0 ∧ sB A 0 17 = 0)
    · rw [if_pos q]; exact I
    · rw [if_neg q]
      show GV (nwA A x f) l c p
      have h16 : sB A 0 16 ≠ 0 := fun z => q (Or.inl z)
      have h17 : f ≠ 0 → sB A 0 17 ≠ 0 := fun z y => q (Or.inr ⟨z, y⟩)
      obtain ⟨⟨p1, p2, p3, p4, p5, p6, p7⟩, p8⟩ := GV_pa (show x < 5 by omega) I 5 (Nat.le_refl _)
      obtain ⟨⟨g1, g2, g3, g4, g5, g6, g7⟩, g8⟩ := I
      have e0 : sB (nwA A x f) 0 = sB A 0 := by rw [nw_r (by decide) (by decide) (by decide) (by decide), pa_r (by decide)]
      have er : ∀ r, r ∈ [23, 24, 25, 28, 29, 30] → sB (nwA A x f) r = sB (paA A x 5) r := fun r hr => nw_r (by rintro rfl; revert hr; decide) (by rintro rfl; revert hr; decide) (by rintro rfl; revert hr; decide) (by rintro rfl; revert hr; decide)
      have e18 : ∀ j, sB (paA A x 5) 18 j = sB A 18 j := fun j => by rw [pa_r (by decide)]
      have dl : ∀ a, a < 4 → (a = x → (sD (nwA A x f) a).length = l) ∧ (a ≠ x → sD (nwA A x f) a = sD A a) := fun a ha => by
        refine ⟨fun z => ?_, fun z => upf_n z⟩
        subst z
        show (upf (sD A) a (if f = 0 then ofF (fun _ => 0) (sB A 0 18).toNatClampNeg else sV A 4) a).length = l
        rw [upf_s]
        by_cases zf : f = 0
        · rw [if_pos zf, ofF_len, g1.1, nI_clamp (by have := g1.2.2.2.1; omega)]
        · rw [if_neg zf]
          exact (g8.2.2.2.1 (h17 zf)).1
      have l4 := g1.2.2.2.1
      refine ⟨⟨?_, p2, fun a ha => ?_, fun a ha h18 => ?_, p5, ⟨fun a b ha hb => ?_, fun a ha h18 => ?_⟩, fun k hk => ?_⟩, GM_of g8 (fun j _ => by rw [e0]) (fun _ _ => rfl) rfl (fun j hj y z => ?_)⟩
      · unfold TN
        rw [e0]
        exact g1
      · by_cases z : a = x
        · rw [(dl a ha).1 z]; exact l4
        · rw [(dl a ha).2 z]; exact g3 a ha
      · by_cases z : a = x
        · exact (dl a ha).1 z
        · rw [(dl a ha).2 z]
          rw [nw_18, if_neg z] at h18
          exact g4 a ha h18
      · obtain ⟨k1, k2, k3⟩ := p6.1 a b ha hb
        unfold LK
        rw [er 23 (by decide), er 24 (by decide), er 25 (by decide), er 28 (by decide), er 29 (by decide), er 30 (by decide)]
        refine ⟨fun z => ?_, k2, k3⟩
        obtain ⟨z1, z2, z3⟩ := k1 z
        refine ⟨z1, ?_, z3⟩
        rcases z2 with z2 | z2
        · exact Or.inl z2
        · refine Or.inr ?_
          rw [nw_18]
          split
          · decide
          · rw [e18] at z2; exact z2
      · unfold CK
        rw [nw_20, nw_21]
        by_cases z : a = x
        · subst z
          refine ⟨fun q' hq' => ?_, fun v hv => ?_⟩
          · rw [put_in hq', g1.2.2.1]
            unfold haF
            by_cases zf : f = 0
            · rw [if_pos zf]; exact fun y => absurd rfl y
            · rw [if_neg zf]
              by_cases zp : nI p ≤ nI q'
              · rw [if_pos zp]; exact fun y => absurd rfl y
              · intro _
                have := g1.2.2.2.2.2.1
                exact Nat.not_le.mp (fun y => zp (nI_le y (by omega)))
          · rw [fil_in (by omega)]
            exact fun y => absurd rfl y
        · rw [nw_18, if_neg z] at h18
          obtain ⟨c1, c2⟩ := g6.2 a ha h18
          refine ⟨fun q' hq' => ?_, fun v hv => ?_⟩
          · rw [put_out (by omega)]
            exact c1 q' hq'
          · rw [fil_out (by omega)]
            exact c2 v hv
      · rw [er 23 (by decide)]
        exact p7 k hk
      · exact absurd y h16
/-- nothing waits for a client where no METAINFO is -/
theorem GV_wh (I : GV A l c p) {x y : Nat} (hx : x < 4) (hy : y < 5) (q : whA A x y = true) : sB A 0 16 ≠ 0 := by
  obtain ⟨_, w2, _⟩ := of_decide_eq_true q
  rcases ((I.1.2.2.2.2.2.1.1 x y (by omega) hy).1 w2).2.1 with z | z
  · omega
  · exact (GV_h20 I hx z).1
theorem GV_OJ {B : St} (I : GV A l c p) (h16 : sB A 0 16 ≠ 0) (O : OI B l c p) (J : J1 B) (D : D0 A B) : GV B l c p := by
  obtain ⟨⟨o1, o2, o3, o4, o5, o6, o7, o8⟩, o9⟩ := O
  have D' : dk B = dk A := D
  have e1 : sV B = sV A := congrArg (fun z => z.1) D'
  have e2 : sF B = sF A := congrArg (fun z => z.2.1) D'
  have e3 : sB B 0 = sB A 0 := congrArg (fun z => z.2.2) D'
  exact ⟨⟨o1, o2, o3, o4, o7, o9, J⟩, GM_of I.2 (fun j _ => by rw [e3]) (fun j _ => by rw [e1]) e2 (fun x _ z _ => absurd z h16)⟩
theorem GV_ac {x y : Nat} (hx : x < 4) (hy : y < 5) (I : GV A l c p) (q : whA A x y = true) : GV (actA A x y l c p).2 l c p := by
  have h16 := GV_wh I hx hy q
  obtain ⟨O, J⟩ := GV_OI I h16
  exact GV_OJ I h16 (OI_act hx hy O q) (J1_of J d23_act) d0_act
theorem GV_pmR {n : Nat} {s : Nat × St} (I : GV s.2 l c p) : ∀ k, k ≤ 20 → GV (pmR n l c p s k).2 l c p
  | 0, _ => I
  | k + 1, h => by
    have ih := GV_pmR (n := n) (s := s) I k (by omega)
    unfold pmR pm1
    generalize pmR n l c p s k = z at ih
    split
    · exact ih
    · rename_i q
      exact GV_ac (by omega) (by omega) ih (by
        rw [not_or] at q
        exact Decidable.not_not.mp q.2)
theorem GV_pmW {n : Nat} : ∀ (f : Nat) (s : Nat × St), GV s.2 l c p → GV (pmW n l c p f s).2 l c p
  | 0, s, I => I
  | f + 1, s, I => by
    have h := GV_pmR (n := n) I 20 (Nat.le_refl _)
    unfold pmW
    generalize pmR n l c p s 20 = z at h
    split
    · exact GV_pmW f z h
    · exact h
theorem GV_pum {n : Int32} (I : GV A l c p) : GV (pumA A n l c p).2 l c p := by
  unfold pumA
  split
  · exact I
  · exact GV_pmW _ (0, A) I
theorem GV_act {a b : Int32} (I : GV A l c p) : GV (acA A a b l c p).2 l c p := by
  unfold acA
  cases ea : vI a 4 with
  | none => exact I
  | some x =>
    cases eb : vI b 5 with
    | none => exact I
    | some y =>
      dsimp only
      obtain ⟨x1, _⟩ := vI_some (by decide) ea
      obtain ⟨y1, _⟩ := vI_some (by decide) eb
      by_cases q : whA A x y = true
      · rw [if_pos q]
        exact GV_ac x1 y1 I q
      · rw [if_neg q]; exact I
theorem GV_fee {a b e f g : Int32} (I : GV A l c p) : GV (feedA A a b e f g).2 l c p := by
  unfold feedA
  split
  · exact GV_V I (Or.inl rfl)
  · exact I
theorem GV_end {n : Int32} (I : GV A l c p) : GV (endA A n).2 l c p := by
  unfold endA
  split
  · exact GV_V I (Or.inl rfl)
  · exact I
theorem GV_tak (I : GV A l c p) : GV (takeA A).2 l c p := GV_V I (Or.inl rfl)
theorem GV_alt {i v : Int32} (I : GV A l c p) : GV (altA A i v).2 l c p := by
  unfold altA
  split
  · exact GV_V I (Or.inl rfl)
  · exact I
theorem GV_dig (I : GV A l c p) : GV (digA A) l c p := GV_V (GV_V I (Or.inl rfl)) (Or.inr rfl)
theorem GV_has (I : GV A l c p) : GV (hasA A).2 l c p := by
  unfold hasA
  split
  · exact I
  · exact GV_V I (Or.inr rfl)
theorem GV_say {a : Int32} (I : GV A l c p) : GV (sayA A a).2 l c p := by
  unfold sayA
  split
  · rename_i x y ea
    obtain ⟨x1, y1, _, y2, j⟩ := ajB_some ea
    have y4 : y = 4 := ((nI_eq (a := 4) (b := y) (by decide) (by omega)).mp (show nI 4 = nI y from y2)).symm
    subst y4
    split
    · rename_i h
      refine GV_W (GV_V I (Or.inl rfl)) (by rw [List.length_append]; exact h) (fun z => ?_)
      have := ((I.1.2.2.2.2.2.1.1 x 4 x1 (by decide)).1 j).2.2
      exact absurd (show sB A 23 (5 * 4 + x) = 0 from z) this
    · exact GV_V I (Or.inl rfl)
  · exact GV_V I (Or.inl rfl)
theorem GV_hea {a : Int32} (I : GV A l c p) : GV (hearA A a).2 l c p := by
  unfold hearA
  split
  · exact GV_W (GV_V I (Or.inr rfl)) (by simp) (fun _ _ => rfl)
  · exact I
theorem GV_med {a b i v : Int32} (I : GV A l c p) : GV (medA A a b i v).2 l c p := by
  unfold medA
  split
  · rename_i x y ea
    obtain ⟨x1, y1, _, y2, j⟩ := ajB_some ea
    split
    · exact GV_W I (by rw [List.length_set]; exact I.1.2.1 _ (by omega)) (fun z => absurd z j)
    · exact I
  · exact I
theorem GV_clo {a b : Int32} (I : GV A l c p) : GV (cloA A a b).2 l c p := by
  unfold cloA
  split
  · rename_i x y ea
    obtain ⟨x1, y1, _⟩ := ajB_some ea
    exact GV_cl x1 y1 I
  · exact I
end
