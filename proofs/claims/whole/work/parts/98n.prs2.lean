/-! ===== the text that make writes is METAINFO, whole ===== -/
def mT0 : List Nat := [100, 52, 58, 105, 110, 102, 111, 100, 54, 58, 108, 101, 110, 103, 116, 104, 105]
def mT1 : List Nat := [101, 52, 58, 110, 97, 109, 101, 49, 58, 97, 49, 50, 58, 112, 105, 101, 99, 101, 32, 108, 101, 110, 103, 116, 104, 105]
def mT2 : List Nat := [101, 54, 58, 112, 105, 101, 99, 101, 115]
section
variable {x : Nat → Nat} {n p : Nat}
theorem bhd_of {v e f : Nat} (hf : f ≤ 2 * n + 1) (h : pv x n f none 0 v = .ok e) : bhd x n v = e := by
  unfold bhd
  rw [pv_up f (2 * n + 1) none 0 0 v e hf (by omega) h]
theorem kl_v : kl 0 = 4 ∧ kl 1 = 4 ∧ kl 2 = 12 ∧ kl 3 = 6 ∧ kl 4 = 5 ∧ kl 6 = 6 := by decide
theorem isK_n {k v : Nat} (h : stN x p = v) (hk : ¬ v = kl k) : isK x p k = false := by
  unfold isK
  rw [h, decide_eq_false hk, Bool.false_and]
theorem mk_prs {N l c m a w y z : Nat} (ea : (dN l).length = a) (ew : w = a + (dN c).length) (ey : y = w + (dN m).length) (ez : z = y + m) (hN : N = z + 55) (hl : l < 10000) (hc : c < 10000) (hm : m < 10000) (H0 : AT x 0 mT0) (Hl : AT x 17 (dN l)) (H1 : AT x (a + 17) mT1) (Hc : AT x (a + 43) (dN c)) (H2 : AT x (w + 43) mT2) (Hm : AT x (w + 52) (dN m)) (h3 : x (y + 52) = 58) (h4 : x (z + 53) = 101) (h5 : x (z + 54) = 101) (l1 : 1 ≤ l) (l2 : l ≤ 4096) (c1 : 32 ≤ c) (c2 : c ≤ 1024) (np : nPc l c ≤ 64) (em : m = 20 * nPc l c) :
    ivOk x N = true ∧ metaR x N = .ok (l, c, [], w + 52, 7) ∧ bhd x N 7 = z + 54 ∧ stE x (w + 52) = y + 52 := by
  obtain ⟨k0, k1, k2, k3, k4, k6⟩ := kl_v
  simp only [AT, mT0, Nat.zero_add, Nat.reduceAdd, and_true] at H0
  obtain ⟨x0, x1, x2, x3, x4, x5, x6, x7, x8, x9, x10, x11, x12, x13, x14, x15, x16⟩ := H0
  simp only [AT, mT1, Nat.add_assoc, Nat.reduceAdd, and_true] at H1
  obtain ⟨y17, y18, y19, y20, y21, y22, y23, y24, y25, y26, y27, y28, y29, y30, y31, y32, y33, y34, y35, y36, y37, y38, y39, y40, y41, y42⟩ := H1
  simp only [AT, mT2, Nat.add_assoc, Nat.reduceAdd, and_true] at H2
  obtain ⟨z43, z44, z45, z46, z47, z48, z49, z50, z51⟩ := H2
  -- strings and numbers
  obtain ⟨s0a, s0b, s0c, s0d, s0e⟩ := AT_str (x := x) (n := N) (p := 1) (v := 4) (e := 2) (by decide) (by rw [dN_1 (by decide)]; exact ⟨x1, trivial⟩) x2 (by rw [dN_1 (by decide)]; rfl) (by omega)
  obtain ⟨s3a, s3b, s3c, s3d, s3e⟩ := AT_str (x := x) (n := N) (p := 8) (v := 6) (e := 9) (by decide) (by rw [dN_1 (by decide)]; exact ⟨x8, trivial⟩) x9 (by rw [dN_1 (by decide)]; rfl) (by omega)
  obtain ⟨s1a, s1b, s1c, s1d, s1e⟩ := AT_str (x := x) (n := N) (p := a + 18) (v := 4) (e := a + 19) (by decide) (by rw [dN_1 (by decide)]; exact ⟨y18, trivial⟩) y19 (by rw [dN_1 (by decide)]; rfl) (by omega)
  obtain ⟨sva, svb, svc, svd, sve⟩ := AT_str (x := x) (n := N) (p := a + 24) (v := 1) (e := a + 25) (by decide) (by rw [dN_1 (by decide)]; exact ⟨y24, trivial⟩) y25 (by rw [dN_1 (by decide)]; rfl) (by omega)
  obtain ⟨s2a, s2b, s2c, s2d, s2e⟩ := AT_str (x := x) (n := N) (p := a + 27) (v := 12) (e := a + 29) (by decide) (by rw [dN_2 (by decide) (by decide)]; exact ⟨y27, y28, trivial⟩) y29 (by rw [dN_2 (by decide) (by decide)]; rfl) (by omega)
  obtain ⟨s6a, s6b, s6c, s6d, s6e⟩ := AT_str (x := x) (n := N) (p := w + 44) (v := 6) (e := w + 45) (by decide) (by rw [dN_1 (by decide)]; exact ⟨z44, trivial⟩) z45 (by rw [dN_1 (by decide)]; rfl) (by omega)
  obtain ⟨sma, smb, smc, smd, sme⟩ := AT_str (x := x) (n := N) (p := w + 52) (v := m) (e := y + 52) hm Hm h3 (by omega) (by omega)
  obtain ⟨ula, ulb, ulc⟩ := AT_num (x := x) (p := 16) (v := l) (e := a + 17) hl x16 Hl y17 (by omega)
  obtain ⟨uca, ucb, ucc⟩ := AT_num (x := x) (p := a + 42) (v := c) (e := w + 43) hc y42 Hc z43 (by omega)
  simp only [Nat.add_assoc, Nat.reduceAdd] at s0d s3d s1d svd s2d s6d ulb ucb
  have smd' : stEnd x (w + 52) = z + 53 := by rw [smd]; omega
  -- the keys rise
  have r1 : rsg x 8 (a + 18) = true := by
    unfold rsg
    rw [s3b, s3c, s1b, s1c]
    simp only [lx, Nat.add_assoc, Nat.reduceAdd, x10, y20]
    rw [if_neg (by decide)]
    decide
  have r2 : rsg x (a + 18) (a + 27) = true := by
    unfold rsg
    rw [s1b, s1c, s2b, s2c]
    simp only [lx, Nat.add_assoc, Nat.reduceAdd, y20, y30]
    rw [if_neg (by decide)]
    decide
  have r3 : rsg x (a + 27) (w + 44) = true := by
    unfold rsg
    rw [s2b, s2c, s6b, s6c]
    simp only [lx, Nat.add_assoc, Nat.reduceAdd, y30, y31, y32, y33, y34, y35, z46, z47, z48, z49, z50, z51]
    decide
  -- the dictionary of info
  have P7 : ∀ f dp, dp < 8 → pv x N (f + 7) none dp 7 = .ok (z + 54) := by
    intro f dp hd
    rw [pv_dic x7 hd, pv_key (e := a + 18) (k := none) s3a s3e rfl (by rw [s3d, pv_num x16 ula, ulb]), pv_key (e := a + 27) (k := some 8) s1a s1e r1 (by rw [s1d, pv_str sva sve, svd]), pv_key (e := w + 44) (k := some (a + 18)) s2a s2e r2 (by rw [s2d, pv_num y42 uca, ucb]), pv_key (e := z + 53) (k := some (a + 27)) s6a s6e r3 (by rw [s6d, pv_str sma sme, smd']), pv_fin h4]
  have B7 : bhd x N 7 = z + 54 := bhd_of (f := 7) (by omega) (P7 0 0 (by decide))
  have B16 : bhd x N (stEnd x 8) = a + 18 := by rw [s3d]; exact bhd_of (f := 1) (by omega) (by rw [pv_num x16 ula, ulb])
  have B24 : bhd x N (stEnd x (a + 18)) = a + 27 := by rw [s1d]; exact bhd_of (f := 1) (by omega) (by rw [pv_str sva sve, svd])
  have B42 : bhd x N (stEnd x (a + 27)) = w + 44 := by rw [s2d]; exact bhd_of (f := 1) (by omega) (by rw [pv_num y42 uca, ucb])
  have B52 : bhd x N (stEnd x (w + 44)) = z + 53 := by rw [s6d]; exact bhd_of (f := 1) (by omega) (by rw [pv_str sma sme, smd'])
  -- what lies under which key
  have q0 : isK x 1 0 = true := by
    unfold isK
    rw [s0c, s0b, k0]
    simp only [mk, Nat.reduceAdd, x3, x4, x5, x6]
    decide
  have q3 : isK x 8 3 = true := by
    unfold isK
    rw [s3c, s3b, k3]
    simp only [mk, Nat.reduceAdd, x10, x11, x12, x13, x14, x15]
    decide
  have q1 : isK x (a + 18) 1 = true := by
    unfold isK
    rw [s1c, s1b, k1]
    simp only [mk, Nat.add_assoc, Nat.reduceAdd, y20, y21, y22, y23]
    decide
  have q2 : isK x (a + 27) 2 = true := by
    unfold isK
    rw [s2c, s2b, k2]
    simp only [mk, Nat.add_assoc, Nat.reduceAdd, y30, y31, y32, y33, y34, y35, y36, y37, y38, y39, y40, y41]
    decide
  have q6 : isK x (w + 44) 6 = true := by
    unfold isK
    rw [s6c, s6b, k6]
    simp only [mk, Nat.add_assoc, Nat.reduceAdd, z46, z47, z48, z49, z50, z51]
    decide
  have q36 : isK x 8 6 = false := by
    unfold isK
    rw [s3c, s3b, k6]
    simp only [mk, Nat.reduceAdd, x10]
    have : decide (108 = keyB (keyA 6)) = false := by decide
    rw [this, Bool.false_and, Bool.and_false]
  obtain ⟨M, eM⟩ : ∃ M, 2 * N + 1 = M + 5 := ⟨2 * N - 4, by omega⟩
  have i0 : inK x N 0 0 = some 7 := by
    unfold inK
    rw [eM, fnd_y s0a q0, s0d]
  have i1 : inK x N 7 1 = some (a + 24) := by
    unfold inK
    rw [eM, fnd_n s3a (isK_n s3c (by omega)) B16, fnd_y s1a q1, s1d]
  have i2 : inK x N 7 2 = some (a + 42) := by
    unfold inK
    rw [eM, fnd_n s3a (isK_n s3c (by omega)) B16, fnd_n s1a (isK_n s1c (by omega)) B24, fnd_y s2a q2, s2d]
  have i3 : inK x N 7 3 = some 16 := by
    unfold inK
    rw [eM, fnd_y s3a q3, s3d]
  have i4 : inK x N 7 4 = none := by
    unfold inK
    rw [eM, fnd_n s3a (isK_n s3c (by omega)) B16, fnd_n s1a (isK_n s1c (by omega)) B24, fnd_n s2a (isK_n s2c (by omega)) B42, fnd_n s6a (isK_n s6c (by omega)) B52, fnd_e h4]
  have i6 : inK x N 7 6 = some (w + 52) := by
    unfold inK
    rw [eM, fnd_n s3a q36 B16, fnd_n s1a (isK_n s1c (by omega)) B24, fnd_n s2a (isK_n s2c (by omega)) B42, fnd_y s6a q6, s6d]
  have il : lenO x N 7 = some (l, []) := by
    unfold lenO
    rw [i3, i4]
    dsimp only
    rw [ulc]
    dsimp only
    rw [if_pos ⟨l1, l2⟩]
  refine ⟨?_, ?_, B7, smb⟩
  · have : ivR x N = .ok N := by
      unfold ivR
      obtain ⟨M, eM⟩ : ∃ M, 2 * N + 1 = M + 9 := ⟨2 * N - 8, by omega⟩
      rw [eM, pv_dic x0 (by decide), pv_key (e := z + 54) (k := none) s0a s0e rfl (by rw [s0d]; exact P7 M 1 (by decide)), pv_fin h5, hN]
    unfold ivOk
    rw [this]
    exact decide_eq_true rfl
  · unfold metaR
    rw [if_pos x0, i0]
    dsimp only
    rw [if_pos x7, i1, if_pos (by rw [isNm_s, decide_eq_true sva, svc]; rfl), i2, ucc]
    dsimp only
    rw [if_pos ⟨c1, c2⟩, il, i6]
    dsimp only
    rw [if_pos ⟨np, sma, by rw [smc, em]⟩]
end
