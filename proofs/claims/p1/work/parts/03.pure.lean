/-! ===== the pure machine: heaps. A cell has a number (its place since the law began); what it is (pz_C: a class's number, or an array's tag: 100 int, 101 byte, 102 boolean, 110, 111 arrays of references; 999: none yet), its length, its ints, longs and references by place; how many cells there are, how many slots they took; the script ===== -/
abbrev PzH : Type := (Nat → Nat) × (Nat → Nat) × (Nat → Nat → Int32) × (Nat → Nat → Int64) × (Nat → Nat → Option Nat) × Nat × Nat × Nat × (Nat → Int32)
def pz_C (h : PzH) : Nat → Nat := h.1
def pz_L (h : PzH) : Nat → Nat := h.2.1
def pz_I (h : PzH) : Nat → Nat → Int32 := h.2.2.1
def pz_J (h : PzH) : Nat → Nat → Int64 := h.2.2.2.1
def pz_R (h : PzH) : Nat → Nat → Option Nat := h.2.2.2.2.1
def pz_N (h : PzH) : Nat := h.2.2.2.2.2.1
def pz_S (h : PzH) : Nat := h.2.2.2.2.2.2.1
def pz_XL (h : PzH) : Nat := h.2.2.2.2.2.2.2.1
def pz_XS (h : PzH) : Nat → Int32 := h.2.2.2.2.2.2.2.2
def pz_u1 {α : Type} (f : Nat → α) (a : Nat) (v : α) : Nat → α := fun b => if b = a then v else f b
def pz_u2 {α : Type} (f : Nat → Nat → α) (a k : Nat) (v : α) : Nat → Nat → α := fun b j => if b = a ∧ j = k then v else f b j
def pz_sI (h : PzH) (a k : Nat) (v : Int32) : PzH := (h.1, h.2.1, pz_u2 h.2.2.1 a k v, h.2.2.2)
def pz_sJ (h : PzH) (a k : Nat) (v : Int64) : PzH := (h.1, h.2.1, h.2.2.1, pz_u2 h.2.2.2.1 a k v, h.2.2.2.2)
def pz_sR (h : PzH) (a k : Nat) (v : Option Nat) : PzH := (h.1, h.2.1, h.2.2.1, h.2.2.2.1, pz_u2 h.2.2.2.2.1 a k v, h.2.2.2.2.2)
def pz_sA (h : PzH) (a : Nat) (f : Nat → Int32) : PzH := (h.1, h.2.1, pz_u1 h.2.2.1 a f, h.2.2.2)
def pz_new (h : PzH) (tag len n : Nat) : PzH := (pz_u1 h.1 (pz_N h) tag, pz_u1 h.2.1 (pz_N h) len, pz_u1 h.2.2.1 (pz_N h) (fun _ => 0), pz_u1 h.2.2.2.1 (pz_N h) (fun _ => 0), pz_u1 h.2.2.2.2.1 (pz_N h) (fun _ => none), pz_N h + 1, pz_S h + n, pz_XL h, pz_XS h)
/-- a method: its class's number, its name, code, locals, what it answers -/
abbrev PzM : Type := Nat × MethodName × ByteArray × Nat × Option FieldType
abbrev PzS : Type := Nat × List Value × List Value × PzH
/-- what an instruction does: it goes on, or returns, or calls (and goes on there) -/
abbrev PzR : Type := PzS ⊕ (Option Value × PzH) ⊕ (PzM × List Value × PzH × Nat × List Value × List Value)
def pz_go (pc : Nat) (ls st : List Value) (h : PzH) : Option PzR := some (.inl (pc, ls, st, h))
def pz_lk {α : Type} : List (Nat × α) → Nat → Option α
  | [], _ => none
  | (k, v) :: r, i => if k = i then some v else pz_lk r i
theorem pz_lk_mem {α : Type} {v : α} {i : Nat} : ∀ (l : List (Nat × α)), pz_lk l i = some v → (i, v) ∈ l
  | [], h => by cases h
  | (k, w) :: r, h => by
    unfold pz_lk at h
    by_cases hk : k = i
    · rw [if_pos hk] at h
      cases h
      subst hk
      exact List.mem_cons_self
    · rw [if_neg hk] at h
      exact List.mem_cons_of_mem _ (pz_lk_mem r h)
def pz_rf (o : Option Nat) : Value := match o with
  | none => .null
  | some b => .ref b
/-- locals: by place; .retAddr 0 where nothing is known -/
def pz_lg : List Value → Nat → Value
  | [], _ => .retAddr 0
  | v :: _, 0 => v
  | _ :: l, n + 1 => pz_lg l n
def pz_cut (v : Value) : Value := match v with
  | .long _ => .retAddr 0
  | .double _ => .retAddr 0
  | v => v
def pz_l1 : List Value → Nat → Value → List Value
  | [], _, _ => []
  | _ :: l, 0, v => v :: l
  | a :: l, 1, v => pz_cut a :: (match l with
    | [] => []
    | _ :: t => v :: t)
  | a :: l, n + 2, v => a :: pz_l1 l (n + 1) v
def pz_un : List Value → Nat → List Value
  | [], _ => []
  | _ :: l, 0 => .retAddr 0 :: l
  | a :: l, n + 1 => a :: pz_un l n
def pz_l2 (ls : List Value) (i : Nat) (v : Value) : List Value := pz_un (pz_l1 ls i v) (i + 1)
def pz_ar : List Value → List Value
  | [] => []
  | .long x :: r => .long x :: .retAddr 0 :: pz_ar r
  | .double x :: r => .double x :: .retAddr 0 :: pz_ar r
  | v :: r => v :: pz_ar r
def pz_en (m : PzM) (as : List Value) : List Value := pz_ar as ++ List.replicate (m.2.2.2.1 - (pz_ar as).length) (.retAddr 0)
