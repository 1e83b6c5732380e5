/-! ===== what holds between the calls ===== -/
def CD (A : St) (l c p : Nat) : Prop := ∀ k, k < 25 → ∀ v, v ∈ sL A k → v / 16 < p ∧ 64 * (v % 16) < psz l c p (v / 16)
def GB (A : St) (l c p : Nat) : Prop := TN A l c p ∧ HW A ∧ (∀ a, a < 4 → (sD A a).length ≤ 4096) ∧ (∀ a, a < 4 → sB A 18 a ≠ 0 → (sD A a).length = l) ∧ CD A l c p ∧ LI A l c p ∧ J1 A
def GM (A : St) (l p : Nat) : Prop := (sB A 0 16 = 0 → p = 0 ∧ sF A = [] ∧ ∀ x, x < 4 → sB A 18 x = 0) ∧ (sB A 0 16 ≠ 0 → 1 ≤ p ∧ (sV A 2).length = 20 ∧ (sV A 3).length = 20 * p) ∧ (sV A 4).length ≤ 4096 ∧ (sB A 0 17 ≠ 0 → (sV A 4).length = l ∧ 1 ≤ l) ∧ sB A 0 21 = nI (sF A).length ∧ (sF A).length ≤ 16
def GV (A : St) (l c p : Nat) : Prop := GB A l c p ∧ GM A l p
section
variable {A B : St} {l c p : Nat}
theorem GV_OI (I : GV A l c p) (h : sB A 0 16 ≠ 0) : OI A l c p ∧ J1 A := by
  obtain ⟨⟨g1, g2, g3, g4, g5, g6, g7⟩, m1, m2, _⟩ := I
  obtain ⟨n1, n2, n3⟩ := m2 h
  exact ⟨⟨⟨g1, g2, g3, g4, n2, n3, g5, h⟩, g6⟩, g7⟩
theorem GM_of (I : GM A l p) (h0 : ∀ j, (j = 16 ∨ j = 17 ∨ j = 21) → sB B 0 j = sB A 0 j) (hV : ∀ i, (i = 2 ∨ i = 3 ∨ i = 4) → sV B i = sV A i) (hF : sF B = sF A) (h18 : ∀ x, x < 4 → sB A 0 16 = 0 → sB A 18 x = 0 → sB B 18 x = 0) : GM B l p := by
  obtain ⟨m1, m2, m3, m4, m5, m6⟩ := I
  unfold GM
  rw [h0 16 (by omega), h0 17 (by omega), h0 21 (by omega), hV 2 (by omega), hV 3 (by omega), hV 4 (by omega), hF]
  exact ⟨fun z => ⟨(m1 z).1, (m1 z).2.1, fun x hx => h18 x hx z ((m1 z).2.2 x hx)⟩, m2, m3, m4, m5, m6⟩
/-- bytes change: on a wire, on TAPE, on OUT -/
theorem GB_VW {W V : Nat → List Int8} {F : List (Nat × Nat)} (I : GB A l c p) (h : ∀ j, j < 25 → (W j).length ≤ 4000) (hW : ∀ k, sB A 23 k = 0 → sW A k = [] → W k = []) : GB (sB A, W, V, sD A, sL A, F) l c p := by
  obtain ⟨g1, g2, g3, g4, g5, g6, g7⟩ := I
  exact ⟨g1, h, g3, g4, g5, LI_WL g6 hW (fun _ _ z => z), g7⟩
theorem GV_V {i : Nat} {m : List Int8} (I : GV A l c p) (hi : i = 0 ∨ i = 1) : GV (stV A i m) l c p := by
  refine ⟨GB_VW I.1 I.1.2.1 (fun _ _ z => z), GM_of I.2 (fun _ _ => rfl) (fun j hj => ?_) rfl (fun _ _ _ z => z)⟩
  show upf (sV A) i m j = _
  exact upf_n (by omega)
theorem GV_W {k : Nat} {m : List Int8} (I : GV A l c p) (hm : m.length ≤ 4000) (hj : sB A 23 k = 0 → sW A k = [] → m = []) : GV (stW A k m) l c p := by
  refine ⟨GB_VW I.1 (fun j h => ?_) (fun j z y => ?_), GM_of I.2 (fun _ _ => rfl) (fun _ _ => rfl) rfl (fun _ _ _ z => z)⟩
  · show (upf (sW A) k m j).length ≤ 4000
    by_cases e : j = k
    · subst e; rw [upf_s]; exact hm
    · rw [upf_n e]; exact I.1.2.1 j h
  · show upf (sW A) k m j = []
    by_cases e : j = k
    · subst e; rw [upf_s]; exact hj z y
    · rw [upf_n e]; exact y
theorem GV_27 {v : Int32} (I : GV A l c p) : GV (pz_u2 (sB A) 0 27 v, A.2) l c p := I
theorem GB_cl {a b : Nat} {w : Int32} (ha : a < 5) (hb : b < 5) (I : GB A l c p) : GB (clA A a b w) l c p := by
  obtain ⟨g1, g2, g3, g4, g5, g6, g7⟩ := I
  refine ⟨g1, fun j hj => ?_, g3, g4, fun k hk v hv => ?_, LI_cl ha hb g6, J1_of g7 d23_cl⟩
  · show (upf (upf (sW A) _ _) _ _ j).length ≤ 4000
    unfold upf
    split
    · simp
    · split
      · simp
      · exact g2 j hj
  · have hv' : v ∈ upf (upf (sL A) (5 * a + b) []) (5 * b + a) [] k := hv
    unfold upf at hv'
    split at hv'
    · exact absurd hv' (by simp)
    · split at hv'
      · exact absurd hv' (by simp)
      · exact g5 k hk v hv'
theorem GV_cl {a b : Nat} {w : Int32} (ha : a < 5) (hb : b < 5) (I : GV A l c p) : GV (clA A a b w) l c p := ⟨GB_cl ha hb I.1, GM_of I.2 (fun _ _ => rfl) (fun _ _ => rfl) rfl (fun _ _ _ z => z)⟩
theorem GV_pr {a b : Nat} (ha : a < 5) (hb : b < 5) (I : GV A l c p) : GV (prA A a b) l c p := GV_cl (w := 0) ha hb I
theorem GV_snd {a b : Nat} {m : List Int8} (ha : a < 5) (hb : b < 5) (I : GV A l c p) (hj : sB A 23 (5 * a + b) ≠ 0) : GV (sndA A a b m) l c p := by
  unfold sndA
  split
  · rename_i h
    exact GV_W I (by rw [List.length_append]; exact h) (fun z => absurd z hj)
  · exact GV_cl ha hb I
theorem jn_23 {x y k : Nat} : sB (jnA A x y) 23 k = if k = 5 * y + x then 1 else if k = 5 * x + y then 1 else sB A 23 k := by
  show pz_u2 (pz_u2 (sB A) 23 (5 * x + y) 1) 23 (5 * y + x) 1 23 k = _
  rw [gu_22, gu_22]
  simp only [true_and]
theorem jn_r {x y r : Nat} (hr : r ≠ 23) : sB (jnA A x y) r = sB A r := by
  show pz_u2 (pz_u2 (sB A) 23 (5 * x + y) 1) 23 (5 * y + x) 1 r = _
  rw [gu_r hr, gu_r hr]
theorem GV_jn {x y : Nat} (hx : x < 5) (hy : y < 5) (hxy : x ≠ y) (tx' : x = 4 ∨ sB A 18 x ≠ 0) (ty : y = 4 ∨ sB A 18 y ≠ 0) (I : GV A l c p) : GV (jnA A x y) l c p := by
  obtain ⟨⟨g1, g2, g3, g4, g5, g6, g7⟩, g8⟩ := I
  have e0 := jn_r (A := A) (x := x) (y := y) (r := 0) (by decide)
  have e18 := jn_r (A := A) (x := x) (y := y) (r := 18) (by decide)
  refine ⟨⟨?_, g2, g3, ?_, g5, ⟨fun a b ha hb => ?_, fun a ha h18 => ?_⟩, fun k hk => ?_⟩, GM_of g8 (fun j _ => by rw [e0]) (fun _ _ => rfl) rfl (fun j _ _ z => by rw [e18]; exact z)⟩
  · unfold TN
    rw [e0]
    exact g1
  · rw [e18]
    exact g4
  · obtain ⟨k1, k2, k3⟩ := g6.1 a b ha hb
    unfold LK
    rw [jn_23, jn_23, e18, jn_r (r := 24) (by decide), jn_r (r := 25) (by decide), jn_r (r := 28) (by decide), jn_r (r := 29) (by decide), jn_r (r := 30) (by decide)]
    refine ⟨fun z => ?_, fun z => ?_, k3⟩
    · by_cases e1 : 5 * a + b = 5 * y + x
      · obtain ⟨rfl, rfl⟩ := k_inj hb hx e1
        refine ⟨fun q => hxy q.symm, ty, ?_⟩
        rw [if_neg (by omega), if_pos rfl]
        decide
      · by_cases e2 : 5 * a + b = 5 * x + y
        · obtain ⟨rfl, rfl⟩ := k_inj hb hy e2
          refine ⟨hxy, tx', ?_⟩
          rw [if_pos rfl]
          decide
        · rw [if_neg e1, if_neg e2] at z
          obtain ⟨z1, z2, z3⟩ := k1 z
          refine ⟨z1, z2, ?_⟩
          split
          · decide
          · split
            · decide
            · exact z3
    · by_cases e1 : 5 * a + b = 5 * y + x
      · rw [if_pos e1] at z
        exact absurd z (by decide)
      · by_cases e2 : 5 * a + b = 5 * x + y
        · rw [if_neg e1, if_pos e2] at z
          exact absurd z (by decide)
        · rw [if_neg e1, if_neg e2] at z
          exact k2 z
  · rw [e18] at h18
    unfold CK
    rw [jn_r (r := 20) (by decide), jn_r (r := 21) (by decide)]
    exact g6.2 a ha h18
  · rw [jn_23]
    split
    · exact Or.inr rfl
    · split
      · exact Or.inr rfl
      · exact g7 k hk
end
