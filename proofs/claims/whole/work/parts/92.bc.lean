/-! ===== how many bits a long has ===== -/
def pcN : Nat → Nat → Nat
  | 0, _ => 0
  | m + 1, n => n % 2 + pcN m (n / 2)
theorem pcN_add : ∀ (a b n : Nat), pcN (a + b) n = pcN a n + pcN b (n / 2 ^ a)
  | 0, b, n => by simp [pcN]
  | a + 1, b, n => by
    rw [show a + 1 + b = (a + b) + 1 by omega]
    show n % 2 + pcN (a + b) (n / 2) = (n % 2 + pcN a (n / 2)) + pcN b (n / 2 ^ (a + 1))
    rw [pcN_add a b (n / 2), Nat.div_div_eq_div_mul, show 2 * 2 ^ a = 2 ^ (a + 1) by rw [Nat.pow_succ]; omega]
    omega
theorem pcN_cnt (n : Nat) : ∀ m, pcN m n = cnt (fun q => n.testBit q = true) m
  | 0 => rfl
  | m + 1 => by
    rw [pcN_add m 1 n, pcN_cnt n m]
    show cnt (fun q => n.testBit q = true) m + (n / 2 ^ m % 2 + 0) = cnt (fun q => n.testBit q = true) m + (if n.testBit m = true then 1 else 0)
    rw [Nat.testBit_eq_decide_div_mod_eq, Nat.add_zero]
    have : n / 2 ^ m % 2 = 0 ∨ n / 2 ^ m % 2 = 1 := by omega
    rcases this with e | e <;> rw [e] <;> simp
theorem pcN_8 (n : Nat) : pcN 8 n = pcN 8 (n % 256) := by
  simp only [pcN]
  omega
theorem pcN_le : ∀ m n, pcN m n ≤ m
  | 0, _ => Nat.le_refl _
  | m + 1, n => by
    have := pcN_le m (n / 2)
    show n % 2 + pcN m (n / 2) ≤ m + 1
    omega
theorem and_sp (x a b : Nat) (ha : a < 256) : x &&& (a + 256 * b) = (x % 256 &&& a) + 256 * (x / 256 &&& b) := by
  have h1 : (x &&& (a + 256 * b)) % 256 = (x % 256 &&& a) := by
    have := Nat.and_mod_two_pow (a := x) (b := a + 256 * b) (n := 8)
    rw [show (2 : Nat) ^ 8 = 256 from rfl, show (a + 256 * b) % 256 = a by omega] at this
    exact this
  have h2 : (x &&& (a + 256 * b)) / 256 = (x / 256 &&& b) := by
    have := Nat.and_div_two_pow (a := x) (b := a + 256 * b) (n := 8)
    rw [show (2 : Nat) ^ 8 = 256 from rfl, show (a + 256 * b) / 256 = b by omega] at this
    exact this
  have := Nat.mod_add_div (x &&& (a + 256 * b)) 256
  rw [h1, h2] at this
  exact this.symm
def mkB (v : Nat) : Nat → Nat
  | 0 => 0
  | k + 1 => v + 256 * mkB v k
def bF1 (k n : Nat) : Nat := n - (n / 2 &&& mkB 85 k)
def bF2 (k n : Nat) : Nat := (n &&& mkB 51 k) + (n / 4 &&& mkB 51 k)
def bF3 (k n : Nat) : Nat := (n + n / 16) &&& mkB 15 k
def bt1 (u : Nat) : Nat := u - (u / 2 &&& 85)
def bt2 (v : Nat) : Nat := (v &&& 51) + (v / 4 &&& 51)
theorem bt_tab : ∀ u, u < 256 → bt1 u < 256 ∧ bt2 (bt1 u) < 256 ∧ bt2 (bt1 u) % 16 ≤ 4 ∧ bt2 (bt1 u) / 16 ≤ 4 ∧ (bt2 (bt1 u) + bt2 (bt1 u) / 16) % 16 = pcN 8 u := by decide +kernel
theorem bt_t1 : ∀ u, u < 256 → ∀ b, b < 2 → (u / 2 + 128 * b) &&& 85 = u / 2 &&& 85 := by decide +kernel
theorem bt_t2 : ∀ u, u < 256 → ∀ b, b < 4 → (u / 4 + 64 * b) &&& 51 = u / 4 &&& 51 := by decide +kernel
theorem bF1_s (k n : Nat) : bF1 (k + 1) n = bt1 (n % 256) + 256 * bF1 k (n / 256) := by
  unfold bF1 bt1
  show n - (n / 2 &&& (85 + 256 * mkB 85 k)) = _
  rw [and_sp _ _ _ (by decide), show n / 2 % 256 = n % 256 / 2 + 128 * (n / 256 % 2) by omega, bt_t1 _ (by omega) _ (by omega), show n / 2 / 256 = n / 256 / 2 by omega]
  have h1 : (n % 256 / 2 &&& 85) ≤ n % 256 / 2 := Nat.and_le_left
  have h2 : (n / 256 / 2 &&& mkB 85 k) ≤ n / 256 / 2 := Nat.and_le_left
  omega
theorem bF2_s (k n : Nat) : bF2 (k + 1) n = bt2 (n % 256) + 256 * bF2 k (n / 256) := by
  unfold bF2 bt2
  show (n &&& (51 + 256 * mkB 51 k)) + (n / 4 &&& (51 + 256 * mkB 51 k)) = _
  rw [and_sp _ _ _ (by decide), and_sp _ _ _ (by decide), show n / 4 % 256 = n % 256 / 4 + 64 * (n / 256 % 4) by omega, bt_t2 _ (by omega) _ (by omega), show n / 4 / 256 = n / 256 / 4 by omega]
  omega
theorem bF3_s (k u w : Nat) (h : u + u / 16 + 16 * (w % 16) < 256) (hu : u < 256) : bF3 (k + 1) (u + 256 * w) = (u + u / 16) % 16 + 256 * bF3 k w := by
  unfold bF3
  show ((u + 256 * w) + (u + 256 * w) / 16) &&& (15 + 256 * mkB 15 k) = _
  rw [and_sp _ _ _ (by decide), show (u + 256 * w + (u + 256 * w) / 16) % 256 = u + u / 16 + 16 * (w % 16) by omega, show (u + 256 * w + (u + 256 * w) / 16) / 256 = w + w / 16 by omega]
  have := Nat.and_two_pow_sub_one_eq_mod (u + u / 16 + 16 * (w % 16)) 4
  rw [show 2 ^ 4 - 1 = 15 from rfl, show 2 ^ 4 = 16 from rfl] at this
  rw [this]
  omega
def bG (k n : Nat) : Nat := bF2 k (bF1 k n)
theorem bG_s (k n : Nat) : bG (k + 1) n = bt2 (bt1 (n % 256)) + 256 * bG k (n / 256) := by
  have h := (bt_tab (n % 256) (by omega)).1
  unfold bG
  rw [bF1_s, bF2_s, show (bt1 (n % 256) + 256 * bF1 k (n / 256)) % 256 = bt1 (n % 256) by omega, show (bt1 (n % 256) + 256 * bF1 k (n / 256)) / 256 = bF1 k (n / 256) by omega]
theorem bG_16 : ∀ k n, bG k n % 16 ≤ 4
  | 0, n => by
    unfold bG bF2
    simp [mkB]
  | k + 1, n => by
    have h := bt_tab (n % 256) (by omega)
    rw [bG_s]
    omega
theorem bS_s (k n : Nat) : bF3 (k + 1) (bG (k + 1) n) = pcN 8 (n % 256) + 256 * bF3 k (bG k (n / 256)) := by
  have h := bt_tab (n % 256) (by omega)
  have h2 := bG_16 k (n / 256)
  rw [bG_s, bF3_s _ _ _ (by omega) (by omega), h.2.2.2.2]
theorem bG_lt {n : Nat} (hn : n < 2 ^ 64) : bF1 8 n < 2 ^ 64 ∧ bG 8 n < 2 ^ 64 ∧ bG 8 n + bG 8 n / 16 < 2 ^ 64 := by
  refine ⟨by unfold bF1; omega, ?_⟩
  have e : bG 8 n = bt2 (bt1 (n % 256)) + 256 * (bt2 (bt1 (n / 256 % 256)) + 256 * (bt2 (bt1 (n / 256 / 256 % 256)) + 256 * (bt2 (bt1 (n / 256 / 256 / 256 % 256)) + 256 * (bt2 (bt1 (n / 256 / 256 / 256 / 256 % 256)) + 256 * (bt2 (bt1 (n / 256 / 256 / 256 / 256 / 256 % 256)) + 256 * (bt2 (bt1 (n / 256 / 256 / 256 / 256 / 256 / 256 % 256)) + 256 * (bt2 (bt1 (n / 256 / 256 / 256 / 256 / 256 / 256 / 256 % 256)) + 256 * 0))))))) := by
    rw [bG_s, bG_s, bG_s, bG_s, bG_s, bG_s, bG_s, bG_s]
    unfold bG bF2
    simp [mkB]
  have b : ∀ x, bt2 (bt1 (x % 256)) ≤ 68 := fun x => by
    have := bt_tab (x % 256) (by omega)
    omega
  have b0 := b n
  have b1 := b (n / 256)
  have b2 := b (n / 256 / 256)
  have b3 := b (n / 256 / 256 / 256)
  have b4 := b (n / 256 / 256 / 256 / 256)
  have b5 := b (n / 256 / 256 / 256 / 256 / 256)
  have b6 := b (n / 256 / 256 / 256 / 256 / 256 / 256)
  have b7 := b (n / 256 / 256 / 256 / 256 / 256 / 256 / 256)
  rw [e]
  generalize bt2 (bt1 (n % 256)) = c0 at *
  generalize bt2 (bt1 (n / 256 % 256)) = c1 at *
  generalize bt2 (bt1 (n / 256 / 256 % 256)) = c2 at *
  generalize bt2 (bt1 (n / 256 / 256 / 256 % 256)) = c3 at *
  generalize bt2 (bt1 (n / 256 / 256 / 256 / 256 % 256)) = c4 at *
  generalize bt2 (bt1 (n / 256 / 256 / 256 / 256 / 256 % 256)) = c5 at *
  generalize bt2 (bt1 (n / 256 / 256 / 256 / 256 / 256 / 256 % 256)) = c6 at *
  generalize bt2 (bt1 (n / 256 / 256 / 256 / 256 / 256 / 256 / 256 % 256)) = c7 at *
  clear e b
  omega
/-- the sums of bytes, folded -/
def bfd (x : Nat) : Nat := let y := x + x / 256; let z := y + y / 65536; (z + z / 4294967296) % 128
theorem bS_all (n : Nat) : ∃ c0 c1 c2 c3 c4 c5 c6 c7, bF3 8 (bG 8 n) = c0 + 256 * (c1 + 256 * (c2 + 256 * (c3 + 256 * (c4 + 256 * (c5 + 256 * (c6 + 256 * c7)))))) ∧ (c0 ≤ 8 ∧ c1 ≤ 8 ∧ c2 ≤ 8 ∧ c3 ≤ 8 ∧ c4 ≤ 8 ∧ c5 ≤ 8 ∧ c6 ≤ 8 ∧ c7 ≤ 8) ∧ pcN 64 n = c0 + c1 + c2 + c3 + c4 + c5 + c6 + c7 := by
  refine ⟨pcN 8 (n % 256), pcN 8 (n / 256 % 256), pcN 8 (n / 256 / 256 % 256), pcN 8 (n / 256 / 256 / 256 % 256), pcN 8 (n / 256 / 256 / 256 / 256 % 256), pcN 8 (n / 256 / 256 / 256 / 256 / 256 % 256), pcN 8 (n / 256 / 256 / 256 / 256 / 256 / 256 % 256), pcN 8 (n / 256 / 256 / 256 / 256 / 256 / 256 / 256 % 256), ?_, ⟨pcN_le _ _, pcN_le _ _, pcN_le _ _, pcN_le _ _, pcN_le _ _, pcN_le _ _, pcN_le _ _, pcN_le _ _⟩, ?_⟩
  · rw [bS_s, bS_s, bS_s, bS_s, bS_s, bS_s, bS_s, bS_s]
    unfold bF3
    simp [mkB]
  · have s : ∀ b n, pcN (8 + b) n = pcN 8 (n % 256) + pcN b (n / 256) := fun b n => by rw [pcN_add, pcN_8]
    rw [show 64 = 8 + (8 + (8 + (8 + (8 + (8 + (8 + (8 + 0))))))) from rfl, s, s, s, s, s, s, s, s]
    simp only [pcN]
    omega
theorem bfd_all {n : Nat} : bfd (bF3 8 (bG 8 n)) = pcN 64 n ∧ bF3 8 (bG 8 n) < 2 ^ 60 := by
  obtain ⟨c0, c1, c2, c3, c4, c5, c6, c7, e, ⟨b0, b1, b2, b3, b4, b5, b6, b7⟩, s⟩ := bS_all n
  rw [e, s]
  clear e s
  unfold bfd
  dsimp only
  have y : c0 + 256 * (c1 + 256 * (c2 + 256 * (c3 + 256 * (c4 + 256 * (c5 + 256 * (c6 + 256 * c7)))))) + (c0 + 256 * (c1 + 256 * (c2 + 256 * (c3 + 256 * (c4 + 256 * (c5 + 256 * (c6 + 256 * c7))))))) / 256 = (c0 + c1) + 256 * ((c1 + c2) + 256 * ((c2 + c3) + 256 * ((c3 + c4) + 256 * ((c4 + c5) + 256 * ((c5 + c6) + 256 * ((c6 + c7) + 256 * c7)))))) := by omega
  rw [y]
  clear y
  refine ⟨?_, by omega⟩
  have z : (c0 + c1) + 256 * ((c1 + c2) + 256 * ((c2 + c3) + 256 * ((c3 + c4) + 256 * ((c4 + c5) + 256 * ((c5 + c6) + 256 * ((c6 + c7) + 256 * c7)))))) + ((c0 + c1) + 256 * ((c1 + c2) + 256 * ((c2 + c3) + 256 * ((c3 + c4) + 256 * ((c4 + c5) + 256 * ((c5 + c6) + 256 * ((c6 + c7) + 256 * c7))))))) / 65536 = (c0 + c1 + c2 + c3) + 256 * ((c1 + c2 + c3 + c4) + 256 * ((c2 + c3 + c4 + c5) + 256 * ((c3 + c4 + c5 + c6) + 256 * ((c4 + c5 + c6 + c7) + 256 * ((c5 + c6 + c7) + 256 * ((c6 + c7) + 256 * c7)))))) := by omega
  rw [z]
  clear z
  have u : ((c0 + c1 + c2 + c3) + 256 * ((c1 + c2 + c3 + c4) + 256 * ((c2 + c3 + c4 + c5) + 256 * ((c3 + c4 + c5 + c6) + 256 * ((c4 + c5 + c6 + c7) + 256 * ((c5 + c6 + c7) + 256 * ((c6 + c7) + 256 * c7))))))) / 4294967296 = (c4 + c5 + c6 + c7) + 256 * ((c5 + c6 + c7) + 256 * ((c6 + c7) + 256 * c7)) := by omega
  rw [u]
  clear u
  omega
theorem lN_sb {a b : Nat} (h : b ≤ a) : lN a - lN b = lN (a - b) := by
  have : lN a = lN (a - b) + lN b := by rw [lN_add, show a - b + b = a by omega]
  rw [this, Int64.add_sub_cancel]
section
variable {d : Nat} {h : PzH} {Q : Option Value → PzH → Prop}
theorem c_bitCount {x : Int64} {f : Nat → Prop} [DecidablePred f] (hx : ∀ q, q < 64 → x.toBitVec.getLsbD q = decide (f q)) : pz_M (d + 1) mJ13_bitCount_95d88 [.long x] h Q ↔ Q (some (.int (nI (cnt f 64)))) h := by
  obtain ⟨n, hn, rfl⟩ := wb_of x
  have ec : pcN 64 n = cnt f 64 := by
    rw [pcN_cnt]
    have : ∀ m, m ≤ 64 → cnt (fun q => n.testBit q = true) m = cnt f m := by
      intro m
      induction m with
      | zero => exact fun _ => rfl
      | succ m ih =>
        intro hm
        have e := hx m (by omega)
        rw [wb_tb, BitVec.getLsbD_ofNat, decide_eq_true (show m < 64 by omega), Bool.true_and] at e
        show cnt _ m + (if n.testBit m = true then 1 else 0) = cnt f m + (if f m then 1 else 0)
        rw [ih (by omega), e]
        by_cases q : f m
        · simp [q]
        · simp [q]
    exact this 64 (Nat.le_refl _)
  obtain ⟨g1, g2, g3⟩ := bG_lt hn
  obtain ⟨k1, k2⟩ := bfd_all (n := n)
  have m1 : (6148914691236517205 : Int64) = lN (mkB 85 8) := by decide
  have m2 : (3689348814741910323 : Int64) = lN (mkB 51 8) := by decide
  have m3 : (1085102592571150095 : Int64) = lN (mkB 15 8) := by decide
  have e1 : lN n - (((lN n).toUInt64 >>> ((1 : Int32).toInt64.toUInt64 &&& Int64.toUInt64 63)).toInt64 &&& 6148914691236517205) = lN (bF1 8 n) := by
    rw [show (1 : Int32) = nI 1 from rfl, wb_shr hn (show 1 < 64 by decide), m1, wb_and (a := n / 2 ^ 1) (b := mkB 85 8) (by omega) (by decide)]
    exact lN_sb (Nat.le_trans Nat.and_le_left (by omega))
  have e2 : (lN (bF1 8 n) &&& 3689348814741910323) + (((lN (bF1 8 n)).toUInt64 >>> ((2 : Int32).toInt64.toUInt64 &&& Int64.toUInt64 63)).toInt64 &&& 3689348814741910323) = lN (bG 8 n) := by
    rw [show (2 : Int32) = nI 2 from rfl, wb_shr g1 (show 2 < 64 by decide), m2, wb_and (a := bF1 8 n / 2 ^ 2) (b := mkB 51 8) (by omega) (by decide), wb_and (a := bF1 8 n) (b := mkB 51 8) g1 (by decide), lN_add]
    rfl
  have e3 : (lN (bG 8 n) + ((lN (bG 8 n)).toUInt64 >>> ((4 : Int32).toInt64.toUInt64 &&& Int64.toUInt64 63)).toInt64) &&& 1085102592571150095 = lN (bF3 8 (bG 8 n)) := by
    rw [show (4 : Int32) = nI 4 from rfl, wb_shr g2 (show 4 < 64 by decide), m3, lN_add, wb_and (a := bG 8 n + bG 8 n / 2 ^ 4) (b := mkB 15 8) g3 (by decide)]
    rfl
  generalize bF3 8 (bG 8 n) = X at e3 k1 k2
  have e4 : lN X + ((lN X).toUInt64 >>> ((8 : Int32).toInt64.toUInt64 &&& Int64.toUInt64 63)).toInt64 = lN (X + X / 256) := by
    rw [show (8 : Int32) = nI 8 from rfl, wb_shr (by omega) (show 8 < 64 by decide), lN_add]
  have e5 : ∀ Y, Y < 2 ^ 64 → lN Y + ((lN Y).toUInt64 >>> ((16 : Int32).toInt64.toUInt64 &&& Int64.toUInt64 63)).toInt64 = lN (Y + Y / 65536) := fun Y hY => by
    rw [show (16 : Int32) = nI 16 from rfl, wb_shr hY (show 16 < 64 by decide), lN_add]
  have e6 : ∀ Y, Y < 2 ^ 64 → lN Y + ((lN Y).toUInt64 >>> ((32 : Int32).toInt64.toUInt64 &&& Int64.toUInt64 63)).toInt64 = lN (Y + Y / 4294967296) := fun Y hY => by
    rw [show (32 : Int32) = nI 32 from rfl, wb_shr hY (show 32 < 64 by decide), lN_add]
  simp only [enJ13_bitCount_95d88, uJ13_bitCount_95d88_0, uJ13_bitCount_95d88_1, uJ13_bitCount_95d88_2, uJ13_bitCount_95d88_3, uJ13_bitCount_95d88_4, uJ13_bitCount_95d88_7, uJ13_bitCount_95d88_8, uJ13_bitCount_95d88_9, uJ13_bitCount_95d88_10, uJ13_bitCount_95d88_11, uJ13_bitCount_95d88_14, uJ13_bitCount_95d88_15, uJ13_bitCount_95d88_16, uJ13_bitCount_95d88_17, uJ13_bitCount_95d88_18, uJ13_bitCount_95d88_21, uJ13_bitCount_95d88_22, uJ13_bitCount_95d88_23, uJ13_bitCount_95d88_24, uJ13_bitCount_95d88_25, uJ13_bitCount_95d88_26, uJ13_bitCount_95d88_27, uJ13_bitCount_95d88_28, uJ13_bitCount_95d88_29, uJ13_bitCount_95d88_32, uJ13_bitCount_95d88_33, uJ13_bitCount_95d88_34, uJ13_bitCount_95d88_35, uJ13_bitCount_95d88_36, uJ13_bitCount_95d88_38, uJ13_bitCount_95d88_39, uJ13_bitCount_95d88_40, uJ13_bitCount_95d88_41, uJ13_bitCount_95d88_42, uJ13_bitCount_95d88_43, uJ13_bitCount_95d88_45, uJ13_bitCount_95d88_46, uJ13_bitCount_95d88_47, uJ13_bitCount_95d88_48, uJ13_bitCount_95d88_49, uJ13_bitCount_95d88_50, uJ13_bitCount_95d88_52, uJ13_bitCount_95d88_53, uJ13_bitCount_95d88_54, uJ13_bitCount_95d88_55, uJ13_bitCount_95d88_56, uJ13_bitCount_95d88_57, uJ13_bitCount_95d88_59, uJ13_bitCount_95d88_60, pq_C_sI, pq_C_sJ, pq_C_sR, pq_C_sA, pq_L_sI, pq_L_sJ, pq_L_sR, pq_L_sA, pq_I_sI, pq_I_sJ, pq_I_sR, pq_I_sA, pq_J_sI, pq_J_sJ, pq_J_sR, pq_J_sA, pq_R_sI, pq_R_sJ, pq_R_sR, pq_R_sA, pq_N_sI, pq_N_sJ, pq_N_sR, pq_N_sA, pq_S_sI, pq_S_sJ, pq_S_sR, pq_S_sA, pz_rf_s, pz_cut_i, pz_cut_r, pz_cut_n, pz_cut_f, pz_cut_u, pz_cut_o, true_and, and_true, true_or, or_true, Option.toList_some, Option.toList_none, List.cons_append, List.nil_append, Nat.add_left_cancel_iff, Nat.left_eq_add, Nat.add_eq_left, Nat.reduceEqDiff, if_true, if_false, ite_true, ite_false, false_and, and_false, false_or, or_false, reduceIte, reduceCtorEq, and_self, e1, e2, e3, e4]
  rw [e5 _ (by omega), e6 _ (by omega)]
  have e7 : (lN (X + X / 256 + (X + X / 256) / 65536 + (X + X / 256 + (X + X / 256) / 65536) / 4294967296)).toInt32 &&& 127 = nI (bfd X) := by
    rw [lN_i]
    unfold bfd
    dsimp only
    generalize X + X / 256 + (X + X / 256) / 65536 + (X + X / 256 + (X + X / 256) / 65536) / 4294967296 = Z
    apply Int32.toBitVec_inj.mp
    apply BitVec.eq_of_toNat_eq
    rw [Int32.toBitVec_and]
    show (BitVec.ofNat 32 Z &&& BitVec.ofNat 32 127).toNat = (BitVec.ofNat 32 (Z % 128)).toNat
    rw [BitVec.toNat_and, BitVec.toNat_ofNat, BitVec.toNat_ofNat, BitVec.toNat_ofNat, show 127 % 2 ^ 32 = 2 ^ 7 - 1 by decide, Nat.and_two_pow_sub_one_eq_mod]
    omega
  rw [e7, k1, ec]
end
