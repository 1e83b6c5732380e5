/-! ===== SHA-1 as a function of the bytes alone ===== -/
def SHA (b : Nat → Int32) (n j : Nat) : Int32 := sh_dg (sh_it (sh_p2 b n 8) (fun _ => 0) (sh_ini (fun _ => 0)) (sh_P n / 64)).2 j
theorem sched_c {w w' : Nat → Int32} : ∀ k, (∀ j, j < 16 → w j = w' j) → k ≤ 64 → ∀ j, j < 16 + k → sh_sched w k j = sh_sched w' k j := by
  intro k
  induction k with
  | zero => exact fun h _ j hj => h j (by omega)
  | succ k ih =>
    intro h hk j hj
    have i1 := ih h (by omega)
    unfold sh_sched upd
    by_cases h1 : j = 16 + k
    · rw [if_pos h1, if_pos h1, i1 (13 + k) (by omega), i1 (8 + k) (by omega), i1 (2 + k) (by omega), i1 k (by omega)]
    · rw [if_neg h1, if_neg h1]
      exact i1 j (by omega)
theorem W_c {b b' w w' : Nat → Int32} {fr : Nat} (h : ∀ i, i < 64 → b (fr + i) = b' (fr + i)) : ∀ j, j < 80 → sh_W b w fr j = sh_W b' w' fr j := by
  intro j hj
  refine sched_c 64 (fun i hi => ?_) (by omega) j (by omega)
  show (if i < 16 then _ else _) = (if i < 16 then _ else _)
  rw [if_pos hi, if_pos hi]
  unfold sh_w
  rw [h (4 * i) (by omega), Nat.add_assoc, h (4 * i + 1) (by omega), Nat.add_assoc, h (4 * i + 2) (by omega), Nat.add_assoc, h (4 * i + 3) (by omega)]
theorem rd_c {w w' s s' : Nat → Int32} (hs : ∀ i, i < 5 → s i = s' i) : ∀ t, t ≤ 80 → (∀ j, j < 80 → w j = w' j) → sh_rd w s t = sh_rd w' s' t := by
  intro t
  induction t with
  | zero =>
    intro _ _
    unfold sh_rd
    rw [hs 0 (by omega), hs 1 (by omega), hs 2 (by omega), hs 3 (by omega), hs 4 (by omega)]
  | succ t ih =>
    intro ht hw
    unfold sh_rd
    rw [ih (by omega) hw, hw t (by omega)]
theorem st_c {w w' s s' : Nat → Int32} (hw : ∀ j, j < 80 → w j = w' j) (hs : ∀ i, i < 5 → s i = s' i) : ∀ i, i < 5 → sh_st w s i = sh_st w' s' i := by
  intro i hi
  unfold sh_st
  rw [rd_c hs 80 (by omega) hw, hs 0 (by omega), hs 1 (by omega), hs 2 (by omega), hs 3 (by omega), hs 4 (by omega), hs i hi]
theorem it_c {b b' w w' s s' : Nat → Int32} (hs : ∀ i, i < 5 → s i = s' i) : ∀ k, (∀ i, i < 64 * k → b i = b' i) → ∀ i, i < 5 → (sh_it b w s k).2 i = (sh_it b' w' s' k).2 i := by
  intro k
  induction k with
  | zero => exact fun _ => hs
  | succ k ih =>
    intro hb i hi
    unfold sh_it
    exact st_c (W_c (fun j hj => hb _ (by omega))) (ih (fun j hj => hb j (by omega))) i hi
theorem p2_c {b b' : Nat → Int32} {n : Nat} (h : ∀ i, i < n → b i = b' i) : ∀ i, i < sh_P n → sh_p2 b n 8 i = sh_p2 b' n 8 i := by
  intro i hi
  have hP : n + 9 ≤ sh_P n := by
    unfold sh_P
    omega
  unfold sh_p2
  by_cases h1 : sh_P n - 8 ≤ i ∧ i < sh_P n - 8 + 8
  · rw [if_pos h1, if_pos h1]
  · rw [if_neg h1, if_neg h1]
    unfold sh_p1
    by_cases h2 : i < n
    · rw [if_pos h2, if_pos h2]
      exact h i h2
    · rw [if_neg h2, if_neg h2]
      by_cases h3 : i = n
      · rw [if_pos h3, if_pos h3]
      · rw [if_neg h3, if_neg h3, if_pos (by omega), if_pos (by omega)]
theorem ini_c {s s' : Nat → Int32} : ∀ i, i < 5 → sh_ini s i = sh_ini s' i := by
  intro i hi
  have : i = 0 ∨ i = 1 ∨ i = 2 ∨ i = 3 ∨ i = 4 := by omega
  rcases this with rfl | rfl | rfl | rfl | rfl <;> rfl
theorem SHA_eq {b b' w s : Nat → Int32} {n j : Nat} (h : ∀ i, i < n → b i = b' i) (hj : j < 20) : sh_dg (sh_it (sh_p2 b n 8) w (sh_ini s) (sh_P n / 64)).2 j = SHA b' n j := by
  unfold SHA sh_dg
  rw [it_c (b' := sh_p2 b' n 8) (w' := fun _ => 0) (s' := sh_ini (fun _ => 0)) ini_c (sh_P n / 64) (fun i hi => p2_c h i (by omega)) (j / 4) (by omega)]
theorem SHA_c {b b' : Nat → Int32} {n j : Nat} (h : ∀ i, i < n → b i = b' i) (hj : j < 20) : SHA b n j = SHA b' n j := SHA_eq h hj
def GS (g : Nat → Nat → Int32) (v : Int32) (r w s dg : Nat → Int32) : Nat → Nat → Int32 := pz_u1 (pz_u1 (pz_u1 (pz_u1 (pz_u2 g 0 5 v) 3 r) 4 w) 5 s) 6 dg
section
variable {d : Nat} {h : PzH} {Q : Option Value → PzH → Prop} {mo : Nat} {g : Nat → Nat → Int32} {n : Nat} {v : Int32} {r w s dg : Nat → Int32}
theorem g_shaS (H : MO h mo) (hn : n ≤ 6000) {b : Nat → Int32} (hb : ∀ i, i < n → r i = b i) (K : ∀ v' r' w' s' dg', (∀ j, j < 20 → dg' j = SHA b n j) → Q none (mh h mo (GS g v' r' w' s' dg'))) : pz_M (d + 3) mX10_sha [.ref mo] (mh h mo (GS g (nI n) r w s dg)) Q := by
  rw [g_sha H hn rfl]
  have := K (nI (sh_P n)) (sh_p2 r n 8) (sh_it (sh_p2 r n 8) w (sh_ini s) (sh_P n / 64)).1 (sh_it (sh_p2 r n 8) w (sh_ini s) (sh_P n / 64)).2 (fun j => if j < 20 then sh_dg (sh_it (sh_p2 r n 8) w (sh_ini s) (sh_P n / 64)).2 j else dg j) (fun j hj => by
    show (if j < 20 then _ else _) = _
    rw [if_pos hj]
    exact SHA_eq hb hj)
  have e : sh_G (GS g (nI n) r w s dg) n = GS g (nI (sh_P n)) (sh_p2 r n 8) (sh_it (sh_p2 r n 8) w (sh_ini s) (sh_P n / 64)).1 (sh_it (sh_p2 r n 8) w (sh_ini s) (sh_P n / 64)).2 (fun j => if j < 20 then sh_dg (sh_it (sh_p2 r n 8) w (sh_ini s) (sh_P n / 64)).2 j else dg j) := by
    unfold sh_G
    rw [show GS g (nI n) r w s dg 3 = r from rfl, show GS g (nI n) r w s dg 4 = w from rfl, show GS g (nI n) r w s dg 5 = s from rfl, show GS g (nI n) r w s dg 6 = dg from rfl]
    unfold GS
    funext a j
    by_cases a6 : a = 6
    · subst a6; simp [gu_11, gu_22]
    · by_cases a5 : a = 5
      · subst a5; simp [gu_11, gu_22]
      · by_cases a4 : a = 4
        · subst a4; simp [gu_11, gu_22]
        · by_cases a3 : a = 3
          · subst a3; simp [gu_11, gu_22]
          · by_cases a0 : a = 0 ∧ j = 5
            · obtain ⟨rfl, rfl⟩ := a0; simp [gu_11, gu_22]
            · simp [gu_11, gu_22, a6, a5, a4, a3, a0]
  rw [e]
  exact this
theorem GS_eta : GS g v (g 3) (g 4) (g 5) (g 6) = pz_u2 g 0 5 v := by
  unfold GS
  funext a j
  by_cases a6 : a = 6
  · subst a6; simp [gu_11, gu_22]
  · by_cases a5 : a = 5
    · subst a5; simp [gu_11, gu_22]
    · by_cases a4 : a = 4
      · subst a4; simp [gu_11, gu_22]
      · by_cases a3 : a = 3
        · subst a3; simp [gu_11, gu_22]
        · simp [gu_11, gu_22, a6, a5, a4, a3]
end
