/-! ===== the pure machine: an instruction ===== -/
def pz_i1 (st : List Value) (k : Int32 → List Value → Option PzR) : Option PzR := match st with
  | .int a :: r => k a r
  | _ => none
def pz_i2 (st : List Value) (k : Int32 → Int32 → List Value → Option PzR) : Option PzR := match st with
  | .int b :: .int a :: r => k a b r
  | _ => none
def pz_j1 (st : List Value) (k : Int64 → List Value → Option PzR) : Option PzR := match st with
  | .long a :: r => k a r
  | _ => none
def pz_j2 (st : List Value) (k : Int64 → Int64 → List Value → Option PzR) : Option PzR := match st with
  | .long b :: .long a :: r => k a b r
  | _ => none
def pz_ji (st : List Value) (k : Int64 → Int32 → List Value → Option PzR) : Option PzR := match st with
  | .int b :: .long a :: r => k a b r
  | _ => none
def pz_a1 (st : List Value) (k : Nat → List Value → Option PzR) : Option PzR := match st with
  | .ref a :: r => k a r
  | _ => none
def pz_vi (v : Value) (k : Int32 → Option PzR) : Option PzR := match v with
  | .int x => k x
  | _ => none
def pz_vj (v : Value) (k : Int64 → Option PzR) : Option PzR := match v with
  | .long x => k x
  | _ => none
def pz_va (v : Value) (k : Value → Option PzR) : Option PzR := match v with
  | .ref a => k (.ref a)
  | .null => k .null
  | .float x => k (.float x)
  | _ => none
def pz_gd (p : Prop) [Decidable p] (k : Option PzR) : Option PzR := if p then k else none
def pz_br (pc : Nat) (off : Int) (k : Nat → Option PzR) : Option PzR := pz_gd (0 ≤ (pc : Int) + off) (k ((pc : Int) + off).toNat)
def pz_fv (h : PzH) (a k kd : Nat) : Value := match kd with
  | 0 => .int (pz_I h a k)
  | 1 => .int (pz_I h a k)
  | 2 => .long (pz_J h a k)
  | _ => pz_rf (pz_R h a k)
/-- a field is written: the value's kind is the field's -/
def pz_fw (h : PzH) (a k kd : Nat) (v : Value) (kk : PzH → Option PzR) : Option PzR := match kd with
  | 0 => pz_vi v fun x => kk (pz_sI h a k x)
  | 1 => pz_vi v fun x => pz_gd (x = 0 ∨ x = 1) (kk (pz_sI h a k x))
  | 2 => pz_vj v fun x => kk (pz_sJ h a k x)
  | 3 => (match v with
    | .ref b => kk (pz_sR h a k (some b))
    | .null => kk (pz_sR h a k none)
    | _ => none)
  | _ => none
def pz_pa : Nat → List Value → List Value → (List Value → List Value → Option PzR) → Option PzR
  | 0, acc, st, k => k acc st
  | n + 1, acc, v :: st, k => pz_pa n (v :: acc) st k
  | _ + 1, _, [], _ => none
def pz_in (i : Int32) (n : Nat) : Bool := decide (¬ (i < 0 ∨ n ≤ i.toNatClampNeg))
def pz_at (t : ArrayType) : Nat := match t with
  | .int => 100
  | .byte => 101
  | .boolean => 102
  | _ => 0
def pz_min (a b : Int32) : Int32 := if b < a then b else a
def pz_max (a b : Int32) : Int32 := if a < b then b else a
def pz_call (m : PzM) (kd : Nat) (c : PzM) (n pc : Nat) (ls st : List Value) (h : PzH) : Option PzR := match kd with
  | 0 => pz_pa (n + 1) [] st fun as rest => (match as with
    | .ref b :: _ => pz_gd (pz_C h b = c.1 ∧ (rest.map fun v => v.category).sum ≤ 8 ∧ (pz_ar as).length ≤ c.2.2.2.1) (some (.inr (.inr (c, as, h, pc + 3, ls, rest))))
    | _ => none)
  | 1 => pz_pa n [] st fun as rest => pz_gd ((rest.map fun v => v.category).sum ≤ 8 ∧ (pz_ar as).length ≤ c.2.2.2.1) (some (.inr (.inr (c, as, h, pc + 3, ls, rest))))
  | 2 => pz_pa (n + 1) [] st fun as rest => (match as with
    | .ref _ :: _ => pz_gd ((rest.map fun v => v.category).sum ≤ 8 ∧ (pz_ar as).length ≤ c.2.2.2.1) (some (.inr (.inr (c, as, h, pc + 3, ls, rest))))
    | _ => none)
  | 3 => pz_a1 st fun _ r => pz_gd ((r.map fun v => v.category).sum ≤ 8) (pz_go (pc + 3) ls r h)
  | 4 => (match st with
    | .int n :: .int dp :: .ref d :: .int sp :: .ref s0 :: r => pz_gd (pz_C h s0 = pz_C h d ∧ (pz_C h d = 100 ∨ pz_C h d = 101) ∧ ¬ sp < 0 ∧ ¬ dp < 0 ∧ ¬ n < 0 ∧ sp.toNatClampNeg + n.toNatClampNeg ≤ pz_L h s0 ∧ dp.toNatClampNeg + n.toNatClampNeg ≤ pz_L h d ∧ (r.map fun v => v.category).sum ≤ 8)
        (pz_go (pc + 3) ls r (pz_sA h d (va_cpy (pz_I h s0) (pz_I h d) sp.toNatClampNeg dp.toNatClampNeg n.toNatClampNeg)))
    | _ => none)
  | 5 => (match st with
    | .float k :: r => pz_gd (k.toNat < pz_sn ∧ (r.map fun v => v.category).sum ≤ 8) (pz_go (pc + 3) ls (.int (nI (pz_sl.getD k.toNat 0)) :: r) h)
    | _ => none)
  | 6 => (match st with
    | .int x :: .float k :: r => pz_gd (k.toNat < pz_sn ∧ pz_in x (pz_sl.getD k.toNat 0) = true ∧ (r.map fun v => v.category).sum ≤ 8) (pz_go (pc + 3) ls (.int (pz_ch k.toNat x.toNatClampNeg) :: r) h)
    | _ => none)
  | 7 => pz_pa (n + 1) [] st fun as rest => (match as with
    | .ref _ :: _ => pz_gd ((rest.map fun v => v.category).sum ≤ 8 ∧ (pz_ar as).length ≤ c.2.2.2.1) (some (.inr (.inr (c, as, h, pc + 3, ls, rest))))
    | _ => none)
  | 9 => pz_i2 st fun a b r => pz_gd ((r.map fun v => v.category).sum ≤ 8) (pz_go (pc + 3) ls (.int (pz_min a b) :: r) h)
  | 10 => pz_i2 st fun a b r => pz_gd ((r.map fun v => v.category).sum ≤ 8) (pz_go (pc + 3) ls (.int (pz_max a b) :: r) h)
  | 8 => pz_pa n [] st fun as rest => pz_gd ((rest.map fun v => v.category).sum ≤ 8 ∧ (pz_ar as).length ≤ c.2.2.2.1) (some (.inr (.inr (c, as, h, pc + 3, ls, rest))))
  | _ => none
def pz_if (c : Jvm.ClassFile.Cond) (a : Int32) : Bool := match c with
  | .eq => decide (a = 0)
  | .ne => decide (¬ a = 0)
  | .lt => decide (a < 0)
  | .ge => decide (0 ≤ a)
  | .gt => decide (0 < a)
  | .le => decide (a ≤ 0)
def pz_ic (c : Jvm.ClassFile.Cond) (a b : Int32) : Bool := match c with
  | .eq => decide (a = b)
  | .ne => decide (¬ a = b)
  | .lt => decide (a < b)
  | .ge => decide (b ≤ a)
  | .gt => decide (b < a)
  | .le => decide (a ≤ b)
def pz_jmp (b : Bool) (t e : Nat) : Nat := if b = true then t else e
/-- an instruction that neither reads nor writes cells -/
def pz_e1 (m : PzM) (i : Instr) (n pc : Nat) (ls st : List Value) (h : PzH) : Option PzR := match i with
  | .iconst c => pz_gd (n = 1) (pz_go (pc + 1) ls (.int (Int32.ofInt c) :: st) h)
  | .bipush c => pz_gd (n = 2) (pz_go (pc + 2) ls (.int (Int8.ofInt c).toInt32 :: st) h)
  | .sipush c => pz_gd (n = 3) (pz_go (pc + 3) ls (.int (Int16.ofInt c).toInt32 :: st) h)
  | .lconst c => pz_gd (n = 1) (pz_go (pc + 1) ls (.long (Int64.ofNat (c : Nat)) :: st) h)
  | .aconst_null => pz_gd (n = 1) (pz_go (pc + 1) ls (.null :: st) h)
  | .ldc c => pz_gd (n = 2) (match pz_lk (pz_kTab m.1) c with
    | some (.int x) => pz_go (pc + 2) ls (.int x :: st) h
    | some (.float x) => pz_go (pc + 2) ls (.float x :: st) h
    | _ => none)
  | .ldc2_w c => pz_gd (n = 3) (match pz_lk (pz_kTab m.1) c with
    | some (.long x) => pz_go (pc + 3) ls (.long x :: st) h
    | _ => none)
  | .iload k => pz_gd (n = 2) (pz_vi (pz_lg ls k) fun x => pz_go (pc + 2) ls (.int x :: st) h)
  | .iload_n k => pz_gd (n = 1) (pz_vi (pz_lg ls k) fun x => pz_go (pc + 1) ls (.int x :: st) h)
  | .lload k => pz_gd (n = 2) (pz_vj (pz_lg ls k) fun x => pz_go (pc + 2) ls (.long x :: st) h)
  | .lload_n k => pz_gd (n = 1) (pz_vj (pz_lg ls k) fun x => pz_go (pc + 1) ls (.long x :: st) h)
  | .aload k => pz_gd (n = 2) (pz_va (pz_lg ls k) fun x => pz_go (pc + 2) ls (x :: st) h)
  | .aload_n k => pz_gd (n = 1) (pz_va (pz_lg ls k) fun x => pz_go (pc + 1) ls (x :: st) h)
  | .istore k => pz_gd (n = 2 ∧ k < m.2.2.2.1) (pz_i1 st fun x r => pz_go (pc + 2) (pz_l1 ls k (.int x)) r h)
  | .istore_n k => pz_gd (n = 1 ∧ (k : Nat) < m.2.2.2.1) (pz_i1 st fun x r => pz_go (pc + 1) (pz_l1 ls k (.int x)) r h)
  | .lstore k => pz_gd (n = 2 ∧ k + 1 < m.2.2.2.1) (pz_j1 st fun x r => pz_go (pc + 2) (pz_l2 ls k (.long x)) r h)
  | .lstore_n k => pz_gd (n = 1 ∧ (k : Nat) + 1 < m.2.2.2.1) (pz_j1 st fun x r => pz_go (pc + 1) (pz_l2 ls k (.long x)) r h)
  | .astore k => pz_gd (n = 2 ∧ k < m.2.2.2.1) (match st with
    | .ref a :: r => pz_go (pc + 2) (pz_l1 ls k (.ref a)) r h
    | .null :: r => pz_go (pc + 2) (pz_l1 ls k .null) r h
    | _ => none)
  | .astore_n k => pz_gd (n = 1 ∧ (k : Nat) < m.2.2.2.1) (match st with
    | .ref a :: r => pz_go (pc + 1) (pz_l1 ls k (.ref a)) r h
    | .null :: r => pz_go (pc + 1) (pz_l1 ls k .null) r h
    | _ => none)
  | .iinc k c => pz_gd (n = 3 ∧ k < m.2.2.2.1) (pz_vi (pz_lg ls k) fun x => pz_go (pc + 3) (pz_l1 ls k (.int (x + Int32.ofInt c))) st h)
  | .iadd => pz_gd (n = 1) (pz_i2 st fun a b r => pz_go (pc + 1) ls (.int (a + b) :: r) h)
  | .isub => pz_gd (n = 1) (pz_i2 st fun a b r => pz_go (pc + 1) ls (.int (a - b) :: r) h)
  | .imul => pz_gd (n = 1) (pz_i2 st fun a b r => pz_go (pc + 1) ls (.int (a * b) :: r) h)
  | .iand => pz_gd (n = 1) (pz_i2 st fun a b r => pz_go (pc + 1) ls (.int (a &&& b) :: r) h)
  | .ior => pz_gd (n = 1) (pz_i2 st fun a b r => pz_go (pc + 1) ls (.int (a ||| b) :: r) h)
  | .ixor => pz_gd (n = 1) (pz_i2 st fun a b r => pz_go (pc + 1) ls (.int (a ^^^ b) :: r) h)
  | .idiv => pz_gd (n = 1) (pz_i2 st fun a b r => pz_gd (¬ b = 0) (pz_go (pc + 1) ls (.int (a / b) :: r) h))
  | .irem => pz_gd (n = 1) (pz_i2 st fun a b r => pz_gd (¬ b = 0) (pz_go (pc + 1) ls (.int (a - a / b * b) :: r) h))
  | .ineg => pz_gd (n = 1) (pz_i1 st fun a r => pz_go (pc + 1) ls (.int (-a) :: r) h)
  | .ishl => pz_gd (n = 1) (pz_i2 st fun a b r => pz_go (pc + 1) ls (.int (a <<< (b &&& 31)) :: r) h)
  | .ishr => pz_gd (n = 1) (pz_i2 st fun a b r => pz_go (pc + 1) ls (.int (a >>> (b &&& 31)) :: r) h)
  | .iushr => pz_gd (n = 1) (pz_i2 st fun a b r => pz_go (pc + 1) ls (.int (a.toUInt32 >>> (b.toUInt32 &&& Int32.toUInt32 31)).toInt32 :: r) h)
  | .ladd => pz_gd (n = 1) (pz_j2 st fun a b r => pz_go (pc + 1) ls (.long (a + b) :: r) h)
  | .lsub => pz_gd (n = 1) (pz_j2 st fun a b r => pz_go (pc + 1) ls (.long (a - b) :: r) h)
  | .lmul => pz_gd (n = 1) (pz_j2 st fun a b r => pz_go (pc + 1) ls (.long (a * b) :: r) h)
  | .land => pz_gd (n = 1) (pz_j2 st fun a b r => pz_go (pc + 1) ls (.long (a &&& b) :: r) h)
  | .lor => pz_gd (n = 1) (pz_j2 st fun a b r => pz_go (pc + 1) ls (.long (a ||| b) :: r) h)
  | .lxor => pz_gd (n = 1) (pz_j2 st fun a b r => pz_go (pc + 1) ls (.long (a ^^^ b) :: r) h)
  | .lshl => pz_gd (n = 1) (pz_ji st fun a b r => pz_go (pc + 1) ls (.long (a <<< (b.toInt64 &&& 63)) :: r) h)
  | .lshr => pz_gd (n = 1) (pz_ji st fun a b r => pz_go (pc + 1) ls (.long (a >>> (b.toInt64 &&& 63)) :: r) h)
  | .lushr => pz_gd (n = 1) (pz_ji st fun a b r => pz_go (pc + 1) ls (.long (a.toUInt64 >>> (b.toInt64.toUInt64 &&& Int64.toUInt64 63)).toInt64 :: r) h)
  | .lcmp => pz_gd (n = 1) (pz_j2 st fun a b r => pz_go (pc + 1) ls (.int (lg_cmp a b) :: r) h)
  | .i2l => pz_gd (n = 1) (pz_i1 st fun a r => pz_go (pc + 1) ls (.long a.toInt64 :: r) h)
  | .l2i => pz_gd (n = 1) (pz_j1 st fun a r => pz_go (pc + 1) ls (.int a.toInt32 :: r) h)
  | .i2b => pz_gd (n = 1) (pz_i1 st fun a r => pz_go (pc + 1) ls (.int a.toInt8.toInt32 :: r) h)
  | .dup => pz_gd (n = 1) (match st with
    | v :: r => pz_gd (v.category = 1) (pz_go (pc + 1) ls (v :: v :: r) h)
    | _ => none)
  | .dup2 => pz_gd (n = 1) (match st with
    | .long v :: r => pz_go (pc + 1) ls (.long v :: .long v :: r) h
    | v :: w :: r => pz_gd (v.category = 1 ∧ w.category = 1) (pz_go (pc + 1) ls (v :: w :: v :: w :: r) h)
    | _ => none)
  | .pop => pz_gd (n = 1) (match st with
    | v :: r => pz_gd (v.category = 1) (pz_go (pc + 1) ls r h)
    | _ => none)
  | .ifCond c off => pz_gd (n = 3) (pz_i1 st fun a r => pz_br pc off fun t => pz_go (pz_jmp (pz_if c a) t (pc + 3)) ls r h)
  | .if_icmp c off => pz_gd (n = 3) (pz_i2 st fun a b r => pz_br pc off fun t => pz_go (pz_jmp (pz_ic c a b) t (pc + 3)) ls r h)
  | .ifnull off => pz_gd (n = 3) (match st with
    | .null :: r => pz_br pc off fun t => pz_go t ls r h
    | .ref _ :: r => pz_go (pc + 3) ls r h
    | _ => none)
  | .ifnonnull off => pz_gd (n = 3) (match st with
    | .ref _ :: r => pz_br pc off fun t => pz_go t ls r h
    | .null :: r => pz_go (pc + 3) ls r h
    | _ => none)
  | .goto off => pz_gd (n = 3) (pz_br pc off fun t => pz_go t ls st h)
  | .tableswitch dflt lo hi offs => pz_i1 st fun x r => if x.toInt < lo ∨ hi < x.toInt then pz_br pc dflt fun t => pz_go t ls r h else (match offs[(x.toInt - lo).toNat]? with
    | some off => pz_br pc off fun t => pz_go t ls r h
    | none => none)
  | _ => none
/-- an instruction that reads or writes cells, calls or returns -/
def pz_e2 (m : PzM) (i : Instr) (n pc : Nat) (ls st : List Value) (h : PzH) : Option PzR := match i with
  | .getfield x => pz_gd (n = 3) (pz_a1 st fun a r => match pz_lk (pz_fTab m.1) x with
    | some (ci, k, kd, _) => pz_gd (pz_C h a = ci) (pz_go (pc + 3) ls (pz_fv h a k kd :: r) h)
    | none => none)
  | .putfield x => pz_gd (n = 3) (match st with
    | v :: .ref a :: r => (match pz_lk (pz_fTab m.1) x with
      | some (ci, k, kd, fin) => pz_gd (pz_C h a = ci ∧ (fin = false ∨ (m.2.1.name = "<init>" ∧ ci = m.1))) (pz_fw h a k kd v fun h' => pz_go (pc + 3) ls r h')
      | none => none)
    | _ => none)
  | .new x => pz_gd (n = 3) (match pz_lk (pz_nTab m.1) x with
    | some (ci, nf) => pz_go (pc + 3) ls (.ref (pz_N h) :: st) (pz_new h ci 0 nf)
    | none => none)
  | .newarray t => pz_gd (n = 2) (pz_i1 st fun x r => pz_gd (¬ x < 0 ∧ x.toNatClampNeg ≤ 67108864 ∧ 100 ≤ pz_at t) (pz_go (pc + 2) ls (.ref (pz_N h) :: r) (pz_new h (pz_at t) x.toNatClampNeg x.toNatClampNeg)))
  | .anewarray x => pz_gd (n = 3) (pz_i1 st fun y r => match pz_lk (pz_aTab m.1) x with
    | some (tag, _) => pz_gd (¬ y < 0 ∧ y.toNatClampNeg ≤ 67108864) (pz_go (pc + 3) ls (.ref (pz_N h) :: r) (pz_new h tag y.toNatClampNeg y.toNatClampNeg))
    | none => none)
  | .arraylength => pz_gd (n = 1) (match st with
    | .ref a :: r => pz_gd (pz_C h a = 100 ∨ pz_C h a = 101 ∨ pz_C h a = 102) (pz_go (pc + 1) ls (.int (Int32.ofNat (pz_L h a)) :: r) h)
    | .float 1000 :: r => pz_go (pc + 1) ls (.int (Int32.ofNat (pz_XL h)) :: r) h
    | _ => none)
  | .iaload => pz_gd (n = 1) (match st with
    | .int i :: .ref a :: r => pz_gd (pz_C h a = 100 ∧ pz_in i (pz_L h a) = true) (pz_go (pc + 1) ls (.int (pz_I h a i.toNatClampNeg) :: r) h)
    | .int i :: .float 1000 :: r => pz_gd (pz_in i (pz_XL h) = true) (pz_go (pc + 1) ls (.int (pz_XS h i.toNatClampNeg) :: r) h)
    | _ => none)
  | .baload => pz_gd (n = 1) (match st with
    | .int i :: .ref a :: r => pz_gd ((pz_C h a = 101 ∨ pz_C h a = 102) ∧ pz_in i (pz_L h a) = true) (pz_go (pc + 1) ls (.int (pz_I h a i.toNatClampNeg) :: r) h)
    | _ => none)
  | .iastore => pz_gd (n = 1) (match st with
    | .int x :: .int i :: .ref a :: r => pz_gd (pz_C h a = 100 ∧ pz_in i (pz_L h a) = true) (pz_go (pc + 1) ls r (pz_sI h a i.toNatClampNeg x))
    | _ => none)
  | .bastore => pz_gd (n = 1) (match st with
    | .int x :: .int i :: .ref a :: r => pz_gd ((pz_C h a = 101 ∨ pz_C h a = 102) ∧ pz_in i (pz_L h a) = true) (pz_go (pc + 1) ls r (pz_sI h a i.toNatClampNeg (if pz_C h a = 101 then vp_nar .byte x else vp_nar .boolean x)))
    | _ => none)
  | .aaload => pz_gd (n = 1) (match st with
    | .int i :: .ref a :: r => pz_gd ((pz_C h a = 110 ∨ pz_C h a = 111) ∧ pz_in i (pz_L h a) = true) (pz_go (pc + 1) ls (pz_rf (pz_R h a i.toNatClampNeg) :: r) h)
    | _ => none)
  | .aastore => pz_gd (n = 1) (match st with
    | .ref b :: .int i :: .ref a :: r => pz_gd (((pz_C h a = 110 ∧ pz_C h b = 2) ∨ (pz_C h a = 111 ∧ pz_C h b = 3)) ∧ pz_in i (pz_L h a) = true) (pz_go (pc + 1) ls r (pz_sR h a i.toNatClampNeg (some b)))
    | _ => none)
  | .invokevirtual x => pz_gd (n = 3) (match pz_lk (pz_cTab m.1) x with
    | some (kd, c, k) => pz_gd (kd = 0 ∨ kd = 5 ∨ kd = 6) (pz_call m kd c k pc ls st h)
    | none => none)
  | .invokestatic x => pz_gd (n = 3) (match pz_lk (pz_cTab m.1) x with
    | some (kd, c, k) => pz_gd (kd = 1 ∨ kd = 4 ∨ kd = 8 ∨ kd = 9 ∨ kd = 10) (pz_call m kd c k pc ls st h)
    | none => none)
  | .invokespecial x => pz_gd (n = 3) (match pz_lk (pz_cTab m.1) x with
    | some (kd, c, k) => pz_gd (kd = 2 ∨ kd = 3 ∨ kd = 7) (pz_call m kd c k pc ls st h)
    | none => none)
  | .ireturn => pz_gd (n = 1) (match st with
    | [.int v] => pz_gd (m.2.2.2.2 = some .int ∨ (m.2.2.2.2 = some .boolean ∧ (v = 0 ∨ v = 1))) (some (.inr (.inl (some (.int v), h))))
    | _ => none)
  | .lreturn => pz_gd (n = 1) (match st with
    | [.long v] => pz_gd (m.2.2.2.2 = some .long) (some (.inr (.inl (some (.long v), h))))
    | _ => none)
  | .areturn => pz_gd (n = 1) (match st with
    | [.ref a] => (match m.2.2.2.2 with
      | some (.object _) => some (.inr (.inl (some (.ref a), h)))
      | some (.array _) => some (.inr (.inl (some (.ref a), h)))
      | _ => none)
    | [.null] => (match m.2.2.2.2 with
      | some (.object _) => some (.inr (.inl (some .null, h)))
      | some (.array _) => some (.inr (.inl (some .null, h)))
      | _ => none)
    | _ => none)
  | .return_ => pz_gd (n = 1) (match st with
    | [] => pz_gd (m.2.2.2.2 = none) (some (.inr (.inl (none, h))))
    | _ => none)
  | _ => none
def pz_ty (i : Instr) : Bool := match i with
  | .getfield _ | .putfield _ | .new _ | .newarray _ | .anewarray _ | .arraylength | .iaload | .baload | .iastore | .bastore | .aaload | .aastore | .invokevirtual _ | .invokestatic _ | .invokespecial _ | .ireturn | .lreturn | .areturn | .return_ => true
  | _ => false
def pz_ex (m : PzM) (i : Instr) (n pc : Nat) (ls st : List Value) (h : PzH) : Option PzR := if pz_ty i = true then pz_e2 m i n pc ls st h else pz_e1 m i n pc ls st h
def pz_st (m : PzM) (pc : Nat) (ls st : List Value) (h : PzH) : Option PzR := match decode m.2.2.1 pc with
  | .ok (i, n) => pz_ex m i n pc ls st h
  | .error _ => none
