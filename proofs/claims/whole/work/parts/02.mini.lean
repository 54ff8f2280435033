/-! ===== A SMALL MACHINE over a flat memory: code in blocks, fields and methods resolved ===== -/
abbrev mm_I : Type := Nat × Nat × Nat × Int
/-- a cell's shape: an object (its class, its fields: none: an int; some r: a reference), a row of numbers (0 int, 1 byte, 2 boolean, 3 long; else nothing is here), a row of references -/
abbrev mm_Sh : Type := (Nat × List (Option (Option Nat))) ⊕ ((Nat × Nat) ⊕ (Nat × (Nat → Option Nat)))
/-- the next address, the slots used, shapes, ints, longs -/
abbrev mm_M : Type := Nat × Nat × (Nat → mm_Sh) × (Nat → Nat → Int32) × (Nat → Nat → Int64)
abbrev mm_L : Type := List (Option Value)
def mm_up {α : Type} (f : Nat → α) (k : Nat) (x : α) : Nat → α := fun j => if j = k then x else f j
def mm_up2 {α : Type} (f : Nat → Nat → α) (a k : Nat) (x : α) : Nat → Nat → α := fun b j => if b = a ∧ j = k then x else f b j
abbrev mm_obj (ci : Nat) (ks : List (Option (Option Nat))) : mm_Sh := .inl (ci, ks)
abbrev mm_arr (t n : Nat) : mm_Sh := .inr (.inl (t, n))
abbrev mm_rows (n : Nat) (f : Nat → Option Nat) : mm_Sh := .inr (.inr (n, f))
/-- a store of one word at place i: a long that ends there is gone -/
def mm_kill (L : mm_L) (i : Nat) : mm_L := match i with
  | 0 => L
  | j + 1 => match L[j]? with
    | some (some v) => if v.category = 2 then L.set j none else L
    | _ => L
def mm_sto1 (L : mm_L) (i : Nat) (v : Value) : mm_L := (mm_kill L i).set i (some v)
def mm_sto2 (L : mm_L) (i : Nat) (v : Value) : mm_L := ((mm_kill L i).set (i + 1) none).set i (some v)
def mm_ibin (f : Nat) (x y : Int32) : Int32 := match f with
  | 0 => x + y
  | 1 => x - y
  | 2 => x * y
  | 3 => x &&& y
  | 4 => x ||| y
  | 5 => x ^^^ y
  | 6 => x <<< (y &&& 31)
  | 7 => x >>> (y &&& 31)
  | _ => (x.toUInt32 >>> (y.toUInt32 &&& Int32.toUInt32 31)).toInt32
def mm_lbin (f : Nat) (x y : Int64) : Int64 := match f with
  | 0 => x + y
  | 1 => x - y
  | 2 => x * y
  | _ => x ||| y
/-- int compares: eq, ne, lt, ge, gt, le -/
def mm_cmp (f : Nat) (x y : Int32) : Bool := match f with
  | 0 => decide (x = y)
  | 1 => decide (x ≠ y)
  | 2 => decide (x < y)
  | 3 => decide (y ≤ x)
  | 4 => decide (y < x)
  | _ => decide (x ≤ y)
/-- the text constants of the class -/
def mm_words : List Int32 := "field   person  hedge   heirs   grows   dies    falls   costs   seed    if      then    else    high    years   age     faces   which   outer   inner   clipped gaps    ".toList.map (fun c => Int32.ofNat c.toNat)
def mm_signs : List Int32 := ";=+-*/<()".toList.map (fun c => Int32.ofNat c.toNat)
def mm_text (a : Nat) : List Int32 := if a = 1000000 then mm_words else if a = 1000001 then mm_signs else []
def mm_find (x : Int32) : List Int32 → Nat → Int32
  | [], _ => -1
  | y :: l, k => if y = x then Int32.ofNat k else mm_find x l (k + 1)
/-- the fields of a new object of a class -/
def mm_new (ci : Nat) : Option (List (Option (Option Nat))) := match ci with
  | 0 => some [some none, none, none]
  | 1 => some [some none, some none, some none, some none, none]
  | 2 => some [some none, none, some none, some none, none, none]
  | 3 => some [some none, some none, some none, some none, some none, some none, some none, some none, none, none, none, none, none]
  | 4 => some [some none, none, none, none, none, none]
  | 5 => some [some none]
  | 6 => some [some none, some none, some none]
  | 7 => some [none, none, none, none, some none, some none, some none, some none, some none]
  | 8 => some [some none, none]
  | 9 => some [some none, some none, some none, some none]
  | 10 => some [some none, some none, some none, some none, none]
  | 11 => some [some none, some none, some none, some none, some none, some none, some none, some none, some none, some none, some none, some none, none]
  | 12 => some [none, some none, none, some none, none, some none, some none, some none, some none, some none, none, none, none, none, none, none, none, none, none, none, none, some none, some none, some none, some none, some none, some none, some none, some none, some none, some none, some none, some none, some none, some none, some none, some none, some none, none, some none, some none, some none, some none, some none, none, some none, some none, some none, none, some none, some none, none, some none, some none, none, none, some none, some none, some none, none, some none, some none, none, some none, some none, some none, some none, some none]
  | _ => none
theorem mm_vpd (j : Int32) (n : Nat) : vp_in j n ↔ ¬ (j < 0 ∨ n ≤ j.toNatClampNeg) := Iff.rfl
/-- an index within its row -/
def mm_in (j : Int32) (n : Nat) : Bool := !(decide (j < 0)) && decide (j.toNatClampNeg < n)
theorem mm_in_iff {j : Int32} {n : Nat} : mm_in j n = true ↔ vp_in j n := by
  simp [mm_in, mm_vpd]
/-- one straight step -/
def mm_stp (i : mm_I) (L : mm_L) (st : List Value) (u : mm_M) : Option (mm_L × List Value × mm_M) :=
  match i.1 with
  | 0 => match L[i.2.1]? with
    | some (some (.int x)) => some (L, .int x :: st, u)
    | _ => none
  | 1 => match L[i.2.1]? with
    | some (some (.long x)) => some (L, .long x :: st, u)
    | _ => none
  | 2 => match L[i.2.1]? with
    | some (some (.ref x)) => some (L, .ref x :: st, u)
    | _ => none
  | 3 => match st with
    | .int x :: st => if i.2.1 < L.length then some (mm_sto1 L i.2.1 (.int x), st, u) else none
    | _ => none
  | 4 => match st with
    | .long x :: st => if i.2.1 + 1 < L.length then some (mm_sto2 L i.2.1 (.long x), st, u) else none
    | _ => none
  | 5 => match st with
    | .ref x :: st => if i.2.1 < L.length then some (mm_sto1 L i.2.1 (.ref x), st, u) else none
    | _ => none
  | 6 => match L[i.2.1]? with
    | some (some (.int x)) => some (mm_sto1 L i.2.1 (.int (x + Int32.ofInt i.2.2.2)), st, u)
    | _ => none
  | 7 => some (L, .int (Int32.ofInt i.2.2.2) :: st, u)
  | 8 => some (L, .long (Int64.ofInt i.2.2.2) :: st, u)
  | 9 => some (L, .ref (1000000 + i.2.1) :: st, u)
  | 10 => match st with
    | v :: st => if v.category = 1 then some (L, st, u) else none
    | _ => none
  | 11 => match st with
    | v :: st => if v.category = 1 then some (L, v :: v :: st, u) else none
    | _ => none
  | 12 => match st with
    | v :: w :: st => if v.category = 1 ∧ w.category = 1 then some (L, v :: w :: v :: w :: st, u) else none
    | _ => none
  | 13 => match st with
    | .int y :: .int x :: st => some (L, .int (mm_ibin i.2.1 x y) :: st, u)
    | _ => none
  | 14 => match st with
    | .int y :: .int x :: st => if y = 0 then none else some (L, .int (x / y) :: st, u)
    | _ => none
  | 15 => match st with
    | .int y :: .int x :: st => if y = 0 then none else some (L, .int (x - x / y * y) :: st, u)
    | _ => none
  | 16 => match st with
    | .long y :: .long x :: st => some (L, .long (mm_lbin i.2.1 x y) :: st, u)
    | _ => none
  | 17 => match st with
    | .int y :: .long x :: st => some (L, .long (x <<< (y.toInt64 &&& 63)) :: st, u)
    | _ => none
  | 18 => match st with
    | .long y :: .long x :: st => some (L, .int (lg_cmp x y) :: st, u)
    | _ => none
  | 19 => match st with
    | .int x :: st => some (L, .long x.toInt64 :: st, u)
    | _ => none
  | 20 => match st with
    | .long x :: st => some (L, .int x.toInt32 :: st, u)
    | _ => none
  | 21 => match st with
    | .int x :: st => some (L, .int x.toInt8.toInt32 :: st, u)
    | _ => none
  | 22 => match st with
    | .int x :: st => some (L, .int (x.toUInt32 % 65536).toInt32 :: st, u)
    | _ => none
  | 23 => match st with
    | .ref a :: st => match u.2.2.1 a with
      | .inl (ci, ks) => if ci = i.2.1 then (match ks[i.2.2.1]? with
        | some (some (some r)) => some (L, .ref r :: st, u)
        | some none => some (L, .int (u.2.2.2.1 a i.2.2.1) :: st, u)
        | _ => none) else none
      | _ => none
    | _ => none
  | 24 => match st with
    | .int x :: .ref a :: st => match u.2.2.1 a with
      | .inl (ci, ks) => if ci = i.2.1 ∧ ks[i.2.2.1]? = some none then some (L, st, u.1, u.2.1, u.2.2.1, mm_up2 u.2.2.2.1 a i.2.2.1 x, u.2.2.2.2) else none
      | _ => none
    | _ => none
  | 25 => match st with
    | .int x :: .ref a :: st => match u.2.2.1 a with
      | .inl (ci, ks) => if ci = i.2.1 ∧ ks[i.2.2.1]? = some none ∧ (x = 0 ∨ x = 1) then some (L, st, u.1, u.2.1, u.2.2.1, mm_up2 u.2.2.2.1 a i.2.2.1 x, u.2.2.2.2) else none
      | _ => none
    | _ => none
  | 26 => match st with
    | .ref r :: .ref a :: st => match u.2.2.1 a with
      | .inl (ci, ks) => if ci = i.2.1 ∧ (ks[i.2.2.1]?.getD none).isSome = true then some (L, st, u.1, u.2.1, mm_up u.2.2.1 a (.inl (ci, ks.set i.2.2.1 (some (some r)))), u.2.2.2.1, u.2.2.2.2) else none
      | _ => none
    | _ => none
  | 27 => match st with
    | .int j :: .ref a :: st => match u.2.2.1 a with
      | .inr (.inl (t, n)) => if t = 0 ∧ mm_in j n then some (L, .int (u.2.2.2.1 a j.toNatClampNeg) :: st, u) else none
      | _ => none
    | _ => none
  | 28 => match st with
    | .int x :: .int j :: .ref a :: st => match u.2.2.1 a with
      | .inr (.inl (t, n)) => if t = 0 ∧ mm_in j n then some (L, st, u.1, u.2.1, u.2.2.1, mm_up2 u.2.2.2.1 a j.toNatClampNeg x, u.2.2.2.2) else none
      | _ => none
    | _ => none
  | 29 => match st with
    | .int j :: .ref a :: st => match u.2.2.1 a with
      | .inr (.inl (t, n)) => if (t = 1 ∨ t = 2) ∧ mm_in j n then some (L, .int (u.2.2.2.1 a j.toNatClampNeg) :: st, u) else none
      | _ => none
    | _ => none
  | 30 => match st with
    | .int x :: .int j :: .ref a :: st => match u.2.2.1 a with
      | .inr (.inl (t, n)) => if (t = 1 ∨ t = 2) ∧ mm_in j n then some (L, st, u.1, u.2.1, u.2.2.1, mm_up2 u.2.2.2.1 a j.toNatClampNeg (if t = 1 then vp_nar .byte x else vp_nar .boolean x), u.2.2.2.2) else none
      | _ => none
    | _ => none
  | 31 => match st with
    | .int j :: .ref a :: st => match u.2.2.1 a with
      | .inr (.inl (t, n)) => if t = 3 ∧ mm_in j n then some (L, .long (u.2.2.2.2 a j.toNatClampNeg) :: st, u) else none
      | _ => none
    | _ => none
  | 32 => match st with
    | .long x :: .int j :: .ref a :: st => match u.2.2.1 a with
      | .inr (.inl (t, n)) => if t = 3 ∧ mm_in j n then some (L, st, u.1, u.2.1, u.2.2.1, u.2.2.2.1, mm_up2 u.2.2.2.2 a j.toNatClampNeg x) else none
      | _ => none
    | _ => none
  | 33 => match st with
    | .int j :: .ref a :: st => match u.2.2.1 a with
      | .inr (.inr (n, f)) => if mm_in j n then (match f j.toNatClampNeg with
        | some r => some (L, .ref r :: st, u)
        | none => none) else none
      | _ => none
    | _ => none
  | 34 => match st with
    | .ref r :: .int j :: .ref a :: st => match u.2.2.1 a with
      | .inr (.inr (n, f)) => match u.2.2.1 r with
        | .inl (ci, ks) => if ci = 7 ∧ mm_in j n then some (L, st, u.1, u.2.1, mm_up u.2.2.1 a (.inr (.inr (n, va_up f j.toNatClampNeg (some r)))), u.2.2.2.1, u.2.2.2.2) else none
        | _ => none
      | _ => none
    | _ => none
  | 35 => match st with
    | .ref a :: st => match u.2.2.1 a with
      | .inr (.inl (t, n)) => if t < 4 then some (L, .int (Int32.ofNat n) :: st, u) else none
      | _ => none
    | _ => none
  | 36 => match mm_new i.2.1 with
    | some ks => if u.1 < 1000000 then some (L, .ref u.1 :: st, u.1 + 1, u.2.1 + ks.length, mm_up u.2.2.1 u.1 (.inl (i.2.1, ks)), mm_up u.2.2.2.1 u.1 (fun _ => 0), u.2.2.2.2) else none
    | _ => none
  | 37 => match st with
    | .int n :: st => if u.1 < 1000000 ∧ ¬ n < 0 ∧ n.toNatClampNeg < 100000 ∧ i.2.1 < 4 then some (L, .ref u.1 :: st, u.1 + 1, u.2.1 + n.toNatClampNeg, mm_up u.2.2.1 u.1 (.inr (.inl (i.2.1, n.toNatClampNeg))), mm_up u.2.2.2.1 u.1 (fun _ => 0), mm_up u.2.2.2.2 u.1 (fun _ => 0)) else none
    | _ => none
  | 38 => match st with
    | .int n :: st => if u.1 < 1000000 ∧ ¬ n < 0 ∧ n.toNatClampNeg < 100000 then some (L, .ref u.1 :: st, u.1 + 1, u.2.1 + n.toNatClampNeg, mm_up u.2.2.1 u.1 (.inr (.inr (n.toNatClampNeg, fun _ => none))), u.2.2.2.1, u.2.2.2.2) else none
    | _ => none
  | 39 => match st with
    | .ref _ :: st => some (L, st, u)
    | _ => none
  | 40 => match st with
    | .int n :: .int dp :: .ref a :: .int sp :: .ref a0 :: st => match u.2.2.1 a, u.2.2.1 a0 with
      | .inr (.inl (t, n1)), .inr (.inl (t0, n0)) => if t = 0 ∧ t0 = 0 ∧ a ≠ a0 ∧ ¬ sp < 0 ∧ ¬ dp < 0 ∧ ¬ n < 0 ∧ sp.toNatClampNeg + n.toNatClampNeg ≤ n0 ∧ dp.toNatClampNeg + n.toNatClampNeg ≤ n1 then
          some (L, st, u.1, u.2.1, u.2.2.1, mm_up u.2.2.2.1 a (va_cpy (u.2.2.2.1 a0) (u.2.2.2.1 a) sp.toNatClampNeg dp.toNatClampNeg n.toNatClampNeg), u.2.2.2.2) else none
      | _, _ => none
    | _ => none
  | 41 => match st with
    | .int j :: .ref a :: st => if ¬ j < 0 then (match (mm_text a)[j.toNatClampNeg]? with
      | some x => some (L, .int x :: st, u)
      | none => none) else none
    | _ => none
  | 42 => match st with
    | .int x :: .ref a :: st => if a = 1000000 ∨ a = 1000001 then some (L, .int (mm_find x (mm_text a) 0) :: st, u) else none
    | _ => none
  | _ => none
/-- a jump: where to, and the stack then -/
def mm_jmp (i : mm_I) (st : List Value) : Option (Nat × List Value) :=
  match i.1 with
  | 50 => some (i.2.1, st)
  | 51 => some (i.2.1, st)
  | 58 => match st with
    | .int x :: st => some (if x.toInt < i.2.2.2 ∨ i.2.2.2 + (i.2.2.1 : Int) ≤ x.toInt then i.2.1 + i.2.2.1 else i.2.1 + (x.toInt - i.2.2.2).toNat, st)
    | _ => none
  | _ => if i.1 < 52 ∨ 70 ≤ i.1 then none else if i.1 < 58 then (match st with
    | .int x :: st => some (if mm_cmp (i.1 - 52) x 0 then i.2.1 else i.2.2.1, st)
    | _ => none) else if i.1 < 60 then none else if i.1 < 66 then (match st with
    | .int y :: .int x :: st => some (if mm_cmp (i.1 - 60) x y then i.2.1 else i.2.2.1, st)
    | _ => none) else none
/-- the frame of a method's first row -/
def mm_slots (vs : List Value) : mm_L := vs.flatMap (fun v => if v.category = 2 then [some v, none] else [some v])
def mm_fr (n : Nat) (vs : List Value) : mm_L := mm_slots vs ++ List.replicate (n - (mm_slots vs).length) none
def mm_rc (k rc : Nat) (as : List Value) (sh : Nat → mm_Sh) : Bool := match as with
  | .ref a :: _ => if k = 1 then (match sh a with
    | .inl (ci, _) => decide (ci = rc)
    | _ => false) else true
  | _ => decide (k = 0)
/-- what is known of methods: how many arguments (the receiver too), the kind of call (0 static, 1 virtual, 2 <init>), the receiver's class -/
abbrev mm_Nf : Type := Nat → Nat × Nat × Nat
abbrev mm_Cs : Type := Nat → List Value → mm_M → Option Value → mm_M → Prop
/-- n steps at most, from here to the end: the answer, the memory then -/
def mm_run (C : mm_Cs) (Nf : mm_Nf) (B : Nat → List mm_I) : Nat → List mm_I → mm_L → List Value → mm_M → Option Value → mm_M → Prop
  | 0, _, _, _, _, _, _ => False
  | _ + 1, [], _, _, _, _, _ => False
  | n + 1, i :: is, L, st, u, v, w =>
    if i.1 < 50 then (match mm_stp i L st u with
      | some r => mm_run C Nf B n is r.1 r.2.1 r.2.2 v w
      | none => False)
    else if i.1 < 70 then (match mm_jmp i st with
      | some r => mm_run C Nf B n (B r.1) L r.2 u v w
      | none => False)
    else if i.1 = 70 then (Nf i.2.1).1 ≤ st.length ∧ mm_rc (Nf i.2.1).2.1 (Nf i.2.1).2.2 (st.take (Nf i.2.1).1).reverse u.2.2.1 = true ∧ ((st.drop (Nf i.2.1).1).map fun x => x.category).sum ≤ 8 ∧
      ∃ (v1 : Option Value) (u1 : mm_M), C i.2.1 (st.take (Nf i.2.1).1).reverse u v1 u1 ∧ mm_run C Nf B n is L (v1.toList ++ st.drop (Nf i.2.1).1) u1 v w
    else if i.1 = 71 then (match st with
      | [.int x] => v = some (.int x) ∧ w = u
      | _ => False)
    else if i.1 = 72 then (match st with
      | [.int x] => (x = 0 ∨ x = 1) ∧ v = some (.int x) ∧ w = u
      | _ => False)
    else if i.1 = 73 then (match st with
      | [.long x] => v = some (.long x) ∧ w = u
      | _ => False)
    else i.1 = 74 ∧ st = [] ∧ v = none ∧ w = u
/-- a method, calls d deep at most -/
def mm_ev (Nf : mm_Nf) (Cd : Nat → Nat → List mm_I) (Ml : Nat → Nat) : Nat → mm_Cs
  | 0 => fun _ _ _ _ _ => False
  | d + 1 => fun y as u v w => (mm_slots as).length ≤ Ml y ∧ ∃ n, mm_run (mm_ev Nf Cd Ml d) Nf (Cd y) n (Cd y 0) (mm_fr (Ml y) as) [] u v w
