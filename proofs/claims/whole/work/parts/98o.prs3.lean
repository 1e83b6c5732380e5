/-! ===== the text that make writes: its parts ===== -/
theorem ofF_mid {u w z : List Int8} {i k : Nat} (hi : u.length = i) (hk : w.length = k) : ofF (fun t => (u ++ (w ++ z)).getD (i + t) 0) k = w := by
  subst hi hk
  have e : ∀ t, t < w.length → (u ++ (w ++ z)).getD (u.length + t) 0 = w.getD t 0 := fun t ht => by
    rw [List.getD_eq_getElem?_getD, List.getD_eq_getElem?_getD, List.getElem?_append_right (by omega), Nat.add_sub_cancel_left, List.getElem?_append_left ht]
  have e2 : ofF (fun t => (u ++ (w ++ z)).getD (u.length + t) 0) w.length = ofF (fun t => w.getD t 0) w.length := by
    unfold ofF
    apply List.map_congr_left
    intro t ht
    exact e t (List.mem_range.mp ht)
  rw [e2, ofF_getD]
theorem mk_u0 : (txL 0).map ub = mT0 := by decide +kernel
theorem mk_u1 : (txL 1).map ub = mT1 := by decide +kernel
theorem mk_u2 : (txL 2).map ub = mT2 := by decide +kernel
theorem mk_u3 : (txL 3).map ub = [58] := by decide +kernel
theorem mk_u4 : (txL 4).map ub = [101, 101] := by decide +kernel
theorem mk_V {n c : Nat} {hs : List Int8} (h1 : 1 ≤ n) (h2 : n ≤ 4096) (h3 : 32 ≤ c) (h4 : c ≤ 1024) (h5 : n ≤ 64 * c) (hh : hs.length = 20 * nPc n c) :
    ivOk (tx (mkL n c (nPc n c) hs)) (mkL n c (nPc n c) hs).length = true ∧ ∃ q, metaR (tx (mkL n c (nPc n c) hs)) (mkL n c (nPc n c) hs).length = .ok (n, c, [], q, 7) ∧ ofF (fun t => (mkL n c (nPc n c) hs).getD (7 + t) 0) (bhd (tx (mkL n c (nPc n c) hs)) (mkL n c (nPc n c) hs).length 7 - 7) = mkI n c (nPc n c) hs ∧ ofF (fun j => (mkL n c (nPc n c) hs).getD (stE (tx (mkL n c (nPc n c) hs)) q + 1 + j) 0) (20 * nPc n c) = hs := by
  obtain ⟨p1, p2, p3, p4⟩ := nPc_le h1 h3 h5
  have x1 := decL_len (v := n)
  have x2 := decL_len (v := c)
  have x3 := decL_len (v := 20 * nPc n c)
  have y0 : (txL 0).length = 17 := txL_len
  have y1 : (txL 1).length = 26 := txL_len
  have y2 : (txL 2).length = 9 := txL_len
  have y3 : (txL 3).length = 1 := txL_len
  have y4 : (txL 4).length = 2 := txL_len
  have A0 : AT (tx (mkL n c (nPc n c) hs)) 0 ((mkL n c (nPc n c) hs).map ub) := AT_tx (mkL n c (nPc n c) hs) []
  have eL : (mkL n c (nPc n c) hs).length = (decL n).length + (decL c).length + (decL (20 * nPc n c)).length + 20 * nPc n c + 55 := by
    rw [mk_eq]
    simp only [List.length_append, y0, y1, y2, y3, y4, hh]
    omega
  have eI : (mkI n c (nPc n c) hs).length = (decL n).length + (decL c).length + (decL (20 * nPc n c)).length + 20 * nPc n c + 47 := by
    have : mkL n c (nPc n c) hs = (lit [100] ++ keyL 0) ++ (mkI n c (nPc n c) hs ++ lit [101]) := by unfold mkL; rw [List.append_assoc]
    have e2 := congrArg List.length this
    have e3 : (lit [100] ++ keyL 0).length = 7 := by decide +kernel
    have e4 : (lit [101]).length = 1 := rfl
    rw [List.length_append, e3, List.length_append, e4, eL] at e2
    omega
  have eU : (mkL n c (nPc n c) hs).map ub = mT0 ++ (dN n ++ (mT1 ++ (dN c ++ (mT2 ++ (dN (20 * nPc n c) ++ ([58] ++ (hs.map ub ++ [101, 101]))))))) := by
    rw [mk_eq]
    simp only [List.map_append, mk_u0, mk_u1, mk_u2, mk_u3, mk_u4, dN_ub, List.append_assoc]
  rw [eU] at A0
  obtain ⟨B0, A1⟩ := AT_app A0
  obtain ⟨B1, A2⟩ := AT_app A1
  obtain ⟨B2, A3⟩ := AT_app A2
  obtain ⟨B3, A4⟩ := AT_app A3
  obtain ⟨B4, A5⟩ := AT_app A4
  obtain ⟨B5, A6⟩ := AT_app A5
  obtain ⟨B6, A7⟩ := AT_app A6
  obtain ⟨B7, A8⟩ := AT_app A7
  obtain ⟨C1, C2, _⟩ := A8
  have C6 := B6.1
  have m0 : mT0.length = 17 := rfl
  have m1 : mT1.length = 26 := rfl
  have m2 : mT2.length = 9 := rfl
  have m3 : [58].length = 1 := rfl
  simp only [m0, m1, m2, m3, Nat.zero_add, List.length_map, hh] at B1 B2 B3 B4 B5 C6 C1 C2
  have key := mk_prs (x := tx (mkL n c (nPc n c) hs)) (N := (mkL n c (nPc n c) hs).length) (l := n) (c := c) (m := 20 * nPc n c) rfl rfl rfl rfl (by rw [eL, dN_len, dN_len, dN_len]) (by omega) (by omega) (by omega) B0 B1 (by rw [show (dN n).length + 17 = 17 + (dN n).length by omega]; exact B2) (by rw [show (dN n).length + 43 = 17 + (dN n).length + 26 by omega]; exact B3) (by rw [show (dN n).length + (dN c).length + 43 = 17 + (dN n).length + 26 + (dN c).length by omega]; exact B4) (by rw [show (dN n).length + (dN c).length + 52 = 17 + (dN n).length + 26 + (dN c).length + 9 by omega]; exact B5) (by rw [show (dN n).length + (dN c).length + (dN (20 * nPc n c)).length + 52 = 17 + (dN n).length + 26 + (dN c).length + 9 + (dN (20 * nPc n c)).length by omega]; exact C6) (by rw [show (dN n).length + (dN c).length + (dN (20 * nPc n c)).length + 20 * nPc n c + 53 = 17 + (dN n).length + 26 + (dN c).length + 9 + (dN (20 * nPc n c)).length + 1 + 20 * nPc n c by omega]; exact C1) (by rw [show (dN n).length + (dN c).length + (dN (20 * nPc n c)).length + 20 * nPc n c + 54 = 17 + (dN n).length + 26 + (dN c).length + 9 + (dN (20 * nPc n c)).length + 1 + 20 * nPc n c + 1 by omega]; exact C2) h1 h2 h3 h4 p2 rfl
  obtain ⟨k1, k2, k3, k4⟩ := key
  refine ⟨k1, _, k2, ?_, ?_⟩
  · rw [k3]
    have e1 : mkL n c (nPc n c) hs = (lit [100] ++ keyL 0) ++ (mkI n c (nPc n c) hs ++ lit [101]) := by unfold mkL; rw [List.append_assoc]
    rw [e1]
    refine ofF_mid (by decide +kernel) ?_
    rw [eI, dN_len, dN_len, dN_len]
    omega
  · rw [k4]
    have e1 : mkL n c (nPc n c) hs = (txL 0 ++ decL n ++ txL 1 ++ decL c ++ txL 2 ++ decL (20 * nPc n c) ++ txL 3) ++ (hs ++ txL 4) := by rw [mk_eq]; simp only [List.append_assoc]
    rw [e1]
    refine ofF_mid ?_ hh
    simp only [List.length_append, y0, y1, y2, y3, dN_len]
    omega
