/-! ===== A SMALL MACHINE over a flat memory: code in blocks, fields and methods resolved ===== -/
abbrev mm_I : Type := Nat × Nat × Nat × Int
/-- a cell's shape: an object (its class, its fields: none: an int; some r: a reference), a row of numbers (0 int, 1 byte, 2 boolean, 3 long; else nothing is here), a row of references -/
abbrev mm_Sh : Type := (Nat × List (Option (Option Nat))) ⊕ ((Nat × Nat) ⊕ (Nat × (Nat → Option Nat)))
/-- the next address, the slots used, shapes, ints, longs -/
abbrev mm_M : Type := Nat × Nat × (Nat → mm_Sh) × (Nat → Nat → Int32) × (Nat → Nat → Int64)
abbrev mm_L : Type := List (Option Value)
def mm_up {α : Type} (f : Nat → α) (k : Nat) (x : α) : Nat → α := fun j => if j = k then x else f j
def mm_up2 {α : Type} (f : Nat → Nat → α) (a k : Nat) (x : α) : Nat → Nat → α := fun b j => if b = a ∧ j = k then x else f b j
abbrev mm_obj (ci : Nat) (ks : List (Option (Option Nat))) : mm_Sh := .inl (ci, ks)
abbrev mm_arr (t n : Nat) : mm_Sh := .inr (.inl (t, n))
abbrev mm_rows (n : Nat) (f : Nat → Option Nat) : mm_Sh := .inr (.inr (n, f))
/-- a store of one word at place i: a long that ends there is gone -/
def mm_kill (L : mm_L) (i : Nat) : mm_L := match i with
  | 0 => L
  | j + 1 => match L[j]? with
    | some (some v) => if v.category = 2 then L.set j none else L
    | _ => L
def mm_sto1 (L : mm_L) (i : Nat) (v : Value) : mm_L := (mm_kill L i).set i (some v)
def mm_sto2 (L : mm_L) (i : Nat) (v : Value) : mm_L := ((mm_kill L i).set (i + 1) none).set i (some v)
def mm_ibin (f : Nat) (x y : Int32) : Int32 := match f with
  | 0 => x + y
  | 1 => x - y
  | 2 => x * y
  | 3 => x &&& y
  | 4 => x ||| y
  | 5 => x ^^^ y
  | 6 => x <<< (y &&& 31)
  | 7 => x >>> (y &&& 31)
  | _ => (x.toUInt32 >>> (y.toUInt32 &&& Int32.toUInt32 31)).toInt32
def mm_lbin (f : Nat) (x y : Int64) : Int64 := match f with
  | 0 => x + y
  | 1 => x - y
  | 2 => x * y
  | _ => x ||| y
/-- int compares: eq, ne, lt, ge, gt, le -/
def mm_cmp (f : Nat) (x y : Int32) : Bool := match f with
  | 0 => decide (x = y)
  | 1 => decide (x ≠ y)
  | 2 => decide (x < y)
  | 3 => decide (y ≤ x)
  | 4 => decide (y < x)
  | _ => decide (x ≤ y)
/-- the text constants of the class -/
def mm_words : List Int32 := "field   person  hedge   heirs   grows   dies    falls   costs   seed    if      then    else    high    years   age     faces   which   outer   inner   clipped gaps    ".toList.map (fun c => Int32.ofNat c.toNat)
def mm_signs : List Int32 := ";=+-*/<()".toList.map (fun c => Int32.ofNat c.toNat)
def mm_text (a : Nat) : List Int32 := if a = 1000000 then mm_words else if a = 1000001 then mm_signs else []
def mm_find (x : Int32) : List Int32 → Nat → Int32
  | [], _ => -1
  | y :: l, k => if y = x then Int32.ofNat k else mm_find x l (k + 1)
/-- the fields of a new object of a class -/
def mm_new (ci : Nat) : Option (List (Option (Option Nat))) := match ci with
  | 0 => some [some none, none, none]
  | 1 => some [some none, some none, some none, some none, none]
  | 2 => some [some none, none, some none, some none, none, none]
  | 3 => some [some none, some none, some none, some none, some none, some none, some none, some none, none, none, none, none, none]
  | 4 => some [some none, none, none, none, none, none]
  | 5 => some [some none]
  | 6 => some [some none, some none, some none]
  | 7 => some [none, none, none, none, some none, some none, some none, some none, some none]
  | 8 => some [some none, none]
  | 9 => some [some none, some none, some none, some none]
  | 10 => some [some none, some none, some none, some none, none]
  | 11 => some [some none, some none, some none, some none, some none, some none, some none, some none, some none, some none, some none, some none, none]
  | 12 => some [none, some none, none, some none, none, some none, some none, some none, some none, some none, none, none, none, none, none, none, none, none, none, none, none, some none, some none, some none, some none, some none, some none, some none, some none, some none, some none, some none, some none, some none, some none, some none, some none, some none, none, some none, some none, some none, some none, some none, none, some none, some none, some none, none, some none, some none, none, some none, some none, none, none, some none, some none, some none, none, some none, some none, none, some none, some none, some none, some none, some none]
  | _ => none
theorem mm_vpd (j : Int32) (n : Nat) : vp_in j n ↔ ¬ (j < 0 ∨ n ≤ j.toNatClampNeg) := Iff.rfl
/-- an index within its row -/
def mm_in (j : Int32) (n : Nat) : Bool := !(decide (j < 0)) && decide (j.toNatClampNeg < n)
theorem mm_in_iff {j : Int32} {n : Nat} : mm_in j n = true ↔ vp_in j n := by
  simp [mm_in, mm_vpd]
/-! straight steps -/
def ms_0 (x1 x2 : Nat) (x3 : Int) (L : mm_L) (st : List Value) (u : mm_M) : Option (mm_L × List Value × mm_M) := match L[x1]? with
    | some (some (.int x)) => some (L, .int x :: st, u)
    | _ => none
def ms_1 (x1 x2 : Nat) (x3 : Int) (L : mm_L) (st : List Value) (u : mm_M) : Option (mm_L × List Value × mm_M) := match L[x1]? with
    | some (some (.long x)) => some (L, .long x :: st, u)
    | _ => none
def ms_2 (x1 x2 : Nat) (x3 : Int) (L : mm_L) (st : List Value) (u : mm_M) : Option (mm_L × List Value × mm_M) := match L[x1]? with
    | some (some (.ref x)) => some (L, .ref x :: st, u)
    | _ => none
def ms_3 (x1 x2 : Nat) (x3 : Int) (L : mm_L) (st : List Value) (u : mm_M) : Option (mm_L × List Value × mm_M) := match st with
    | .int x :: st => if x1 < L.length then some (mm_sto1 L x1 (.int x), st, u) else none
    | _ => none
def ms_4 (x1 x2 : Nat) (x3 : Int) (L : mm_L) (st : List Value) (u : mm_M) : Option (mm_L × List Value × mm_M) := match st with
    | .long x :: st => if x1 + 1 < L.length then some (mm_sto2 L x1 (.long x), st, u) else none
    | _ => none
def ms_5 (x1 x2 : Nat) (x3 : Int) (L : mm_L) (st : List Value) (u : mm_M) : Option (mm_L × List Value × mm_M) := match st with
    | .ref x :: st => if x1 < L.length then some (mm_sto1 L x1 (.ref x), st, u) else none
    | _ => none
def ms_6 (x1 x2 : Nat) (x3 : Int) (L : mm_L) (st : List Value) (u : mm_M) : Option (mm_L × List Value × mm_M) := match L[x1]? with
    | some (some (.int x)) => some (mm_sto1 L x1 (.int (x + Int32.ofInt x3)), st, u)
    | _ => none
def ms_7 (x1 x2 : Nat) (x3 : Int) (L : mm_L) (st : List Value) (u : mm_M) : Option (mm_L × List Value × mm_M) := some (L, .int (Int32.ofInt x3) :: st, u)
def ms_8 (x1 x2 : Nat) (x3 : Int) (L : mm_L) (st : List Value) (u : mm_M) : Option (mm_L × List Value × mm_M) := some (L, .long (Int64.ofInt x3) :: st, u)
def ms_9 (x1 x2 : Nat) (x3 : Int) (L : mm_L) (st : List Value) (u : mm_M) : Option (mm_L × List Value × mm_M) := some (L, .ref (1000000 + x1) :: st, u)
def ms_10 (x1 x2 : Nat) (x3 : Int) (L : mm_L) (st : List Value) (u : mm_M) : Option (mm_L × List Value × mm_M) := match st with
    | v :: st => if v.category = 1 then some (L, st, u) else none
    | _ => none
def ms_11 (x1 x2 : Nat) (x3 : Int) (L : mm_L) (st : List Value) (u : mm_M) : Option (mm_L × List Value × mm_M) := match st with
    | v :: st => if v.category = 1 then some (L, v :: v :: st, u) else none
    | _ => none
def ms_12 (x1 x2 : Nat) (x3 : Int) (L : mm_L) (st : List Value) (u : mm_M) : Option (mm_L × List Value × mm_M) := match st with
    | v :: w :: st => if v.category = 1 ∧ w.category = 1 then some (L, v :: w :: v :: w :: st, u) else none
    | _ => none
def ms_13 (x1 x2 : Nat) (x3 : Int) (L : mm_L) (st : List Value) (u : mm_M) : Option (mm_L × List Value × mm_M) := match st with
    | .int y :: .int x :: st => some (L, .int (mm_ibin x1 x y) :: st, u)
    | _ => none
def ms_14 (x1 x2 : Nat) (x3 : Int) (L : mm_L) (st : List Value) (u : mm_M) : Option (mm_L × List Value × mm_M) := match st with
    | .int y :: .int x :: st => if y = 0 then none else some (L, .int (x / y) :: st, u)
    | _ => none
def ms_15 (x1 x2 : Nat) (x3 : Int) (L : mm_L) (st : List Value) (u : mm_M) : Option (mm_L × List Value × mm_M) := match st with
    | .int y :: .int x :: st => if y = 0 then none else some (L, .int (x - x / y * y) :: st, u)
    | _ => none
def ms_16 (x1 x2 : Nat) (x3 : Int) (L : mm_L) (st : List Value) (u : mm_M) : Option (mm_L × List Value × mm_M) := match st with
    | .long y :: .long x :: st => some (L, .long (mm_lbin x1 x y) :: st, u)
    | _ => none
def ms_17 (x1 x2 : Nat) (x3 : Int) (L : mm_L) (st : List Value) (u : mm_M) : Option (mm_L × List Value × mm_M) := match st with
    | .int y :: .long x :: st => some (L, .long (x <<< (y.toInt64 &&& 63)) :: st, u)
    | _ => none
def ms_18 (x1 x2 : Nat) (x3 : Int) (L : mm_L) (st : List Value) (u : mm_M) : Option (mm_L × List Value × mm_M) := match st with
    | .long y :: .long x :: st => some (L, .int (lg_cmp x y) :: st, u)
    | _ => none
def ms_19 (x1 x2 : Nat) (x3 : Int) (L : mm_L) (st : List Value) (u : mm_M) : Option (mm_L × List Value × mm_M) := match st with
    | .int x :: st => some (L, .long x.toInt64 :: st, u)
    | _ => none
def ms_20 (x1 x2 : Nat) (x3 : Int) (L : mm_L) (st : List Value) (u : mm_M) : Option (mm_L × List Value × mm_M) := match st with
    | .long x :: st => some (L, .int x.toInt32 :: st, u)
    | _ => none
def ms_21 (x1 x2 : Nat) (x3 : Int) (L : mm_L) (st : List Value) (u : mm_M) : Option (mm_L × List Value × mm_M) := match st with
    | .int x :: st => some (L, .int x.toInt8.toInt32 :: st, u)
    | _ => none
def ms_22 (x1 x2 : Nat) (x3 : Int) (L : mm_L) (st : List Value) (u : mm_M) : Option (mm_L × List Value × mm_M) := match st with
    | .int x :: st => some (L, .int (x.toUInt32 % 65536).toInt32 :: st, u)
    | _ => none
def ms_23 (x1 x2 : Nat) (x3 : Int) (L : mm_L) (st : List Value) (u : mm_M) : Option (mm_L × List Value × mm_M) := match st with
    | .ref a :: st => match u.2.2.1 a with
      | .inl (ci, ks) => if ci = x1 then (match ks[x2]? with
        | some (some (some r)) => some (L, .ref r :: st, u)
        | some none => some (L, .int (u.2.2.2.1 a x2) :: st, u)
        | _ => none) else none
      | _ => none
    | _ => none
def ms_24 (x1 x2 : Nat) (x3 : Int) (L : mm_L) (st : List Value) (u : mm_M) : Option (mm_L × List Value × mm_M) := match st with
    | .int x :: .ref a :: st => match u.2.2.1 a with
      | .inl (ci, ks) => if ci = x1 ∧ ks[x2]? = some none then some (L, st, u.1, u.2.1, u.2.2.1, mm_up2 u.2.2.2.1 a x2 x, u.2.2.2.2) else none
      | _ => none
    | _ => none
def ms_25 (x1 x2 : Nat) (x3 : Int) (L : mm_L) (st : List Value) (u : mm_M) : Option (mm_L × List Value × mm_M) := match st with
    | .int x :: .ref a :: st => match u.2.2.1 a with
      | .inl (ci, ks) => if ci = x1 ∧ ks[x2]? = some none ∧ (x = 0 ∨ x = 1) then some (L, st, u.1, u.2.1, u.2.2.1, mm_up2 u.2.2.2.1 a x2 x, u.2.2.2.2) else none
      | _ => none
    | _ => none
def ms_26 (x1 x2 : Nat) (x3 : Int) (L : mm_L) (st : List Value) (u : mm_M) : Option (mm_L × List Value × mm_M) := match st with
    | .ref r :: .ref a :: st => match u.2.2.1 a with
      | .inl (ci, ks) => if ci = x1 ∧ (ks[x2]?.getD none).isSome = true then some (L, st, u.1, u.2.1, mm_up u.2.2.1 a (.inl (ci, ks.set x2 (some (some r)))), u.2.2.2.1, u.2.2.2.2) else none
      | _ => none
    | _ => none
def ms_27 (x1 x2 : Nat) (x3 : Int) (L : mm_L) (st : List Value) (u : mm_M) : Option (mm_L × List Value × mm_M) := match st with
    | .int j :: .ref a :: st => match u.2.2.1 a with
      | .inr (.inl (t, n)) => if t = 0 ∧ mm_in j n then some (L, .int (u.2.2.2.1 a j.toNatClampNeg) :: st, u) else none
      | _ => none
    | _ => none
def ms_28 (x1 x2 : Nat) (x3 : Int) (L : mm_L) (st : List Value) (u : mm_M) : Option (mm_L × List Value × mm_M) := match st with
    | .int x :: .int j :: .ref a :: st => match u.2.2.1 a with
      | .inr (.inl (t, n)) => if t = 0 ∧ mm_in j n then some (L, st, u.1, u.2.1, u.2.2.1, mm_up2 u.2.2.2.1 a j.toNatClampNeg x, u.2.2.2.2) else none
      | _ => none
    | _ => none
def ms_29 (x1 x2 : Nat) (x3 : Int) (L : mm_L) (st : List Value) (u : mm_M) : Option (mm_L × List Value × mm_M) := match st with
    | .int j :: .ref a :: st => match u.2.2.1 a with
      | .inr (.inl (t, n)) => if (t = 1 ∨ t = 2) ∧ mm_in j n then some (L, .int (u.2.2.2.1 a j.toNatClampNeg) :: st, u) else none
      | _ => none
    | _ => none
def ms_30 (x1 x2 : Nat) (x3 : Int) (L : mm_L) (st : List Value) (u : mm_M) : Option (mm_L × List Value × mm_M) := match st with
    | .int x :: .int j :: .ref a :: st => match u.2.2.1 a with
      | .inr (.inl (t, n)) => if (t = 1 ∨ t = 2) ∧ mm_in j n then some (L, st, u.1, u.2.1, u.2.2.1, mm_up2 u.2.2.2.1 a j.toNatClampNeg (if t = 1 then vp_nar .byte x else vp_nar .boolean x), u.2.2.2.2) else none
      | _ => none
    | _ => none
def ms_31 (x1 x2 : Nat) (x3 : Int) (L : mm_L) (st : List Value) (u : mm_M) : Option (mm_L × List Value × mm_M) := match st with
    | .int j :: .ref a :: st => match u.2.2.1 a with
      | .inr (.inl (t, n)) => if t = 3 ∧ mm_in j n then some (L, .long (u.2.2.2.2 a j.toNatClampNeg) :: st, u) else none
      | _ => none
    | _ => none
def ms_32 (x1 x2 : Nat) (x3 : Int) (L : mm_L) (st : List Value) (u : mm_M) : Option (mm_L × List Value × mm_M) := match st with
    | .long x :: .int j :: .ref a :: st => match u.2.2.1 a with
      | .inr (.inl (t, n)) => if t = 3 ∧ mm_in j n then some (L, st, u.1, u.2.1, u.2.2.1, u.2.2.2.1, mm_up2 u.2.2.2.2 a j.toNatClampNeg x) else none
      | _ => none
    | _ => none
def ms_33 (x1 x2 : Nat) (x3 : Int) (L : mm_L) (st : List Value) (u : mm_M) : Option (mm_L × List Value × mm_M) := match st with
    | .int j :: .ref a :: st => match u.2.2.1 a with
      | .inr (.inr (n, f)) => if mm_in j n then (match f j.toNatClampNeg with
        | some r => some (L, .ref r :: st, u)
        | none => none) else none
      | _ => none
    | _ => none
def ms_34 (x1 x2 : Nat) (x3 : Int) (L : mm_L) (st : List Value) (u : mm_M) : Option (mm_L × List Value × mm_M) := match st with
    | .ref r :: .int j :: .ref a :: st => match u.2.2.1 a with
      | .inr (.inr (n, f)) => match u.2.2.1 r with
        | .inl (ci, ks) => if ci = 7 ∧ mm_in j n then some (L, st, u.1, u.2.1, mm_up u.2.2.1 a (.inr (.inr (n, va_up f j.toNatClampNeg (some r)))), u.2.2.2.1, u.2.2.2.2) else none
        | _ => none
      | _ => none
    | _ => none
def ms_35 (x1 x2 : Nat) (x3 : Int) (L : mm_L) (st : List Value) (u : mm_M) : Option (mm_L × List Value × mm_M) := match st with
    | .ref a :: st => match u.2.2.1 a with
      | .inr (.inl (t, n)) => if t < 4 then some (L, .int (Int32.ofNat n) :: st, u) else none
      | _ => none
    | _ => none
def ms_36 (x1 x2 : Nat) (x3 : Int) (L : mm_L) (st : List Value) (u : mm_M) : Option (mm_L × List Value × mm_M) := match mm_new x1 with
    | some ks => if u.1 < 1000000 then some (L, .ref u.1 :: st, u.1 + 1, u.2.1 + ks.length, mm_up u.2.2.1 u.1 (.inl (x1, ks)), mm_up u.2.2.2.1 u.1 (fun _ => 0), u.2.2.2.2) else none
    | _ => none
def ms_37 (x1 x2 : Nat) (x3 : Int) (L : mm_L) (st : List Value) (u : mm_M) : Option (mm_L × List Value × mm_M) := match st with
    | .int n :: st => if u.1 < 1000000 ∧ ¬ n < 0 ∧ n.toNatClampNeg < 100000 ∧ x1 < 4 then some (L, .ref u.1 :: st, u.1 + 1, u.2.1 + n.toNatClampNeg, mm_up u.2.2.1 u.1 (.inr (.inl (x1, n.toNatClampNeg))), mm_up u.2.2.2.1 u.1 (fun _ => 0), mm_up u.2.2.2.2 u.1 (fun _ => 0)) else none
    | _ => none
def ms_38 (x1 x2 : Nat) (x3 : Int) (L : mm_L) (st : List Value) (u : mm_M) : Option (mm_L × List Value × mm_M) := match st with
    | .int n :: st => if u.1 < 1000000 ∧ ¬ n < 0 ∧ n.toNatClampNeg < 100000 then some (L, .ref u.1 :: st, u.1 + 1, u.2.1 + n.toNatClampNeg, mm_up u.2.2.1 u.1 (.inr (.inr (n.toNatClampNeg, fun _ => none))), u.2.2.2.1, u.2.2.2.2) else none
    | _ => none
def ms_39 (x1 x2 : Nat) (x3 : Int) (L : mm_L) (st : List Value) (u : mm_M) : Option (mm_L × List Value × mm_M) := match st with
    | .ref _ :: st => if (st.map fun x => x.category).sum ≤ 8 then some (L, st, u) else none
    | _ => none
def ms_40 (x1 x2 : Nat) (x3 : Int) (L : mm_L) (st : List Value) (u : mm_M) : Option (mm_L × List Value × mm_M) := match st with
    | .int n :: .int dp :: .ref a :: .int sp :: .ref a0 :: st => match u.2.2.1 a, u.2.2.1 a0 with
      | .inr (.inl (t, n1)), .inr (.inl (t0, n0)) => if t = 0 ∧ t0 = 0 ∧ a ≠ a0 ∧ ¬ sp < 0 ∧ ¬ dp < 0 ∧ ¬ n < 0 ∧ sp.toNatClampNeg + n.toNatClampNeg ≤ n0 ∧ dp.toNatClampNeg + n.toNatClampNeg ≤ n1 ∧ (st.map fun x => x.category).sum ≤ 8 then
          some (L, st, u.1, u.2.1, u.2.2.1, mm_up u.2.2.2.1 a (va_cpy (u.2.2.2.1 a0) (u.2.2.2.1 a) sp.toNatClampNeg dp.toNatClampNeg n.toNatClampNeg), u.2.2.2.2) else none
      | _, _ => none
    | _ => none
def ms_41 (x1 x2 : Nat) (x3 : Int) (L : mm_L) (st : List Value) (u : mm_M) : Option (mm_L × List Value × mm_M) := match st with
    | [.int j, .ref a] => if ¬ j < 0 then (match (mm_text a)[j.toNatClampNeg]? with
      | some x => some (L, [.int x], u)
      | none => none) else none
    | _ => none
def ms_42 (x1 x2 : Nat) (x3 : Int) (L : mm_L) (st : List Value) (u : mm_M) : Option (mm_L × List Value × mm_M) := match st with
    | [.int x, .ref a] => if a = 1000000 ∨ a = 1000001 then some (L, [.int (mm_find x (mm_text a) 0)], u) else none
    | _ => none
def ms_43 (x1 x2 : Nat) (x3 : Int) (L : mm_L) (st : List Value) (u : mm_M) : Option (mm_L × List Value × mm_M) := match st with
    | .int y :: .int x :: st => if (st.map fun x => x.category).sum ≤ 8 then some (L, .int (if x < y then y else x) :: st, u) else none
    | _ => none
def ms_44 (x1 x2 : Nat) (x3 : Int) (L : mm_L) (st : List Value) (u : mm_M) : Option (mm_L × List Value × mm_M) := match st with
    | .int y :: .int x :: st => if (st.map fun x => x.category).sum ≤ 8 then some (L, .int (if y < x then y else x) :: st, u) else none
    | _ => none
/-- one straight step -/
def mm_stp (i : mm_I) (L : mm_L) (st : List Value) (u : mm_M) : Option (mm_L × List Value × mm_M) :=
  match i.1 with
  | 0 => ms_0 i.2.1 i.2.2.1 i.2.2.2 L st u
  | 1 => ms_1 i.2.1 i.2.2.1 i.2.2.2 L st u
  | 2 => ms_2 i.2.1 i.2.2.1 i.2.2.2 L st u
  | 3 => ms_3 i.2.1 i.2.2.1 i.2.2.2 L st u
  | 4 => ms_4 i.2.1 i.2.2.1 i.2.2.2 L st u
  | 5 => ms_5 i.2.1 i.2.2.1 i.2.2.2 L st u
  | 6 => ms_6 i.2.1 i.2.2.1 i.2.2.2 L st u
  | 7 => ms_7 i.2.1 i.2.2.1 i.2.2.2 L st u
  | 8 => ms_8 i.2.1 i.2.2.1 i.2.2.2 L st u
  | 9 => ms_9 i.2.1 i.2.2.1 i.2.2.2 L st u
  | 10 => ms_10 i.2.1 i.2.2.1 i.2.2.2 L st u
  | 11 => ms_11 i.2.1 i.2.2.1 i.2.2.2 L st u
  | 12 => ms_12 i.2.1 i.2.2.1 i.2.2.2 L st u
  | 13 => ms_13 i.2.1 i.2.2.1 i.2.2.2 L st u
  | 14 => ms_14 i.2.1 i.2.2.1 i.2.2.2 L st u
  | 15 => ms_15 i.2.1 i.2.2.1 i.2.2.2 L st u
  | 16 => ms_16 i.2.1 i.2.2.1 i.2.2.2 L st u
  | 17 => ms_17 i.2.1 i.2.2.1 i.2.2.2 L st u
  | 18 => ms_18 i.2.1 i.2.2.1 i.2.2.2 L st u
  | 19 => ms_19 i.2.1 i.2.2.1 i.2.2.2 L st u
  | 20 => ms_20 i.2.1 i.2.2.1 i.2.2.2 L st u
  | 21 => ms_21 i.2.1 i.2.2.1 i.2.2.2 L st u
  | 22 => ms_22 i.2.1 i.2.2.1 i.2.2.2 L st u
  | 23 => ms_23 i.2.1 i.2.2.1 i.2.2.2 L st u
  | 24 => ms_24 i.2.1 i.2.2.1 i.2.2.2 L st u
  | 25 => ms_25 i.2.1 i.2.2.1 i.2.2.2 L st u
  | 26 => ms_26 i.2.1 i.2.2.1 i.2.2.2 L st u
  | 27 => ms_27 i.2.1 i.2.2.1 i.2.2.2 L st u
  | 28 => ms_28 i.2.1 i.2.2.1 i.2.2.2 L st u
  | 29 => ms_29 i.2.1 i.2.2.1 i.2.2.2 L st u
  | 30 => ms_30 i.2.1 i.2.2.1 i.2.2.2 L st u
  | 31 => ms_31 i.2.1 i.2.2.1 i.2.2.2 L st u
  | 32 => ms_32 i.2.1 i.2.2.1 i.2.2.2 L st u
  | 33 => ms_33 i.2.1 i.2.2.1 i.2.2.2 L st u
  | 34 => ms_34 i.2.1 i.2.2.1 i.2.2.2 L st u
  | 35 => ms_35 i.2.1 i.2.2.1 i.2.2.2 L st u
  | 36 => ms_36 i.2.1 i.2.2.1 i.2.2.2 L st u
  | 37 => ms_37 i.2.1 i.2.2.1 i.2.2.2 L st u
  | 38 => ms_38 i.2.1 i.2.2.1 i.2.2.2 L st u
  | 39 => ms_39 i.2.1 i.2.2.1 i.2.2.2 L st u
  | 40 => ms_40 i.2.1 i.2.2.1 i.2.2.2 L st u
  | 41 => ms_41 i.2.1 i.2.2.1 i.2.2.2 L st u
  | 42 => ms_42 i.2.1 i.2.2.1 i.2.2.2 L st u
  | 43 => ms_43 i.2.1 i.2.2.1 i.2.2.2 L st u
  | 44 => ms_44 i.2.1 i.2.2.1 i.2.2.2 L st u
  | _ => none
/-- a jump: where to, and the stack then -/
def mj_1 (f b1 b2 : Nat) (st : List Value) : Option (Nat × List Value) := match st with
  | .int x :: st => some (if mm_cmp f x 0 then b1 else b2, st)
  | _ => none
def mj_2 (f b1 b2 : Nat) (st : List Value) : Option (Nat × List Value) := match st with
  | .int y :: .int x :: st => some (if mm_cmp f x y then b1 else b2, st)
  | _ => none
def mj_3 (b0 n : Nat) (lo : Int) (st : List Value) : Option (Nat × List Value) := match st with
  | .int x :: st => some (if x.toInt < lo ∨ lo + (n : Int) ≤ x.toInt then b0 + n else b0 + (x.toInt - lo).toNat, st)
  | _ => none
def mm_jmp (i : mm_I) (st : List Value) : Option (Nat × List Value) :=
  match i.1 with
  | 50 => some (i.2.1, st)
  | 51 => some (i.2.1, st)
  | 52 => mj_1 0 i.2.1 i.2.2.1 st
  | 53 => mj_1 1 i.2.1 i.2.2.1 st
  | 54 => mj_1 2 i.2.1 i.2.2.1 st
  | 55 => mj_1 3 i.2.1 i.2.2.1 st
  | 56 => mj_1 4 i.2.1 i.2.2.1 st
  | 57 => mj_1 5 i.2.1 i.2.2.1 st
  | 58 => mj_3 i.2.1 i.2.2.1 i.2.2.2 st
  | 60 => mj_2 0 i.2.1 i.2.2.1 st
  | 61 => mj_2 1 i.2.1 i.2.2.1 st
  | 62 => mj_2 2 i.2.1 i.2.2.1 st
  | 63 => mj_2 3 i.2.1 i.2.2.1 st
  | 64 => mj_2 4 i.2.1 i.2.2.1 st
  | 65 => mj_2 5 i.2.1 i.2.2.1 st
  | _ => none
/-- the frame of a method's first row -/
def mm_slots (vs : List Value) : mm_L := vs.flatMap (fun v => if v.category = 2 then [some v, none] else [some v])
def mm_fr (n : Nat) (vs : List Value) : mm_L := mm_slots vs ++ List.replicate (n - (mm_slots vs).length) none
def mm_rc (k rc : Nat) (as : List Value) (sh : Nat → mm_Sh) : Bool := match as with
  | .ref a :: _ => if k = 1 then (match sh a with
    | .inl (ci, _) => decide (ci = rc)
    | _ => false) else true
  | _ => decide (k = 0)
/-- what is known of methods: how many arguments (the receiver too), the kind of call (0 static, 1 virtual, 2 <init>), the receiver's class -/
abbrev mm_Nf : Type := Nat → Nat × Nat × Nat
abbrev mm_Cs : Type := Nat → List Value → mm_M → Option Value → mm_M → Prop
/-- n steps at most, from here to the end: the answer, the memory then -/
def mm_run (C : mm_Cs) (Nf : mm_Nf) (B : Nat → List mm_I) : Nat → List mm_I → mm_L → List Value → mm_M → Option Value → mm_M → Prop
  | 0, _, _, _, _, _, _ => False
  | _ + 1, [], _, _, _, _, _ => False
  | n + 1, i :: is, L, st, u, v, w =>
    if i.1 < 50 then (match mm_stp i L st u with
      | some r => mm_run C Nf B n is r.1 r.2.1 r.2.2 v w
      | none => False)
    else if i.1 < 70 then (match mm_jmp i st with
      | some r => mm_run C Nf B n (B r.1) L r.2 u v w
      | none => False)
    else if i.1 = 70 then (Nf i.2.1).1 ≤ st.length ∧ mm_rc (Nf i.2.1).2.1 (Nf i.2.1).2.2 (st.take (Nf i.2.1).1).reverse u.2.2.1 = true ∧ ((st.drop (Nf i.2.1).1).map fun x => x.category).sum ≤ 8 ∧
      ∃ (v1 : Option Value) (u1 : mm_M), C i.2.1 (st.take (Nf i.2.1).1).reverse u v1 u1 ∧ mm_run C Nf B n is L (v1.toList ++ st.drop (Nf i.2.1).1) u1 v w
    else if i.1 = 71 then (match st with
      | [.int x] => v = some (.int x) ∧ w = u
      | _ => False)
    else if i.1 = 72 then (match st with
      | [.int x] => (x = 0 ∨ x = 1) ∧ v = some (.int x) ∧ w = u
      | _ => False)
    else if i.1 = 73 then (match st with
      | [.long x] => v = some (.long x) ∧ w = u
      | _ => False)
    else i.1 = 74 ∧ st = [] ∧ v = none ∧ w = u
/-- a method, calls d deep at most -/
def mm_ev (Nf : mm_Nf) (Cd : Nat → Nat → List mm_I) (Ml : Nat → Nat) : Nat → mm_Cs
  | 0 => fun _ _ _ _ _ => False
  | d + 1 => fun y as u v w => (mm_slots as).length ≤ Ml y ∧ ∃ n, mm_run (mm_ev Nf Cd Ml d) Nf (Cd y) n (Cd y 0) (mm_fr (Ml y) as) [] u v w
