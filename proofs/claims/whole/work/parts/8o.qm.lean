/-! ===== Statements, read purely ===== -/
def oe (a b : Option Nat) : Option Nat := match a with | some v => some v | none => b
theorem oe_s {v : Nat} {b : Option Nat} : oe (some v) b = some v := rfl
theorem oe_n {b : Option Nat} : oe none b = b := rfl
/-- the first of the names from i on, g of them, that is x -/
def lkc (f : Nat → List Nat) (x : List Nat) : Nat → Nat → Option Nat
  | 0, _ => none
  | g + 1, i => if f i = x then some i else lkc f x g (i + 1)
def lk (f : Nat → List Nat) (x : List Nat) (n : Nat) : Option Nat := lkc f x n 0
theorem lkc_lt {f : Nat → List Nat} {x : List Nat} : ∀ (g i v : Nat), lkc f x g i = some v → v < i + g ∧ f v = x := by
  intro g
  induction g with
  | zero => intro i v h; simp [lkc] at h
  | succ g ih =>
    intro i v h
    simp only [lkc] at h
    by_cases c : f i = x
    · rw [if_pos c] at h
      simp only [Option.some.injEq] at h
      subst h
      exact ⟨by omega, c⟩
    · rw [if_neg c] at h
      obtain ⟨h1, h2⟩ := ih (i + 1) v h
      exact ⟨by omega, h2⟩
theorem lk_lt {f : Nat → List Nat} {x : List Nat} {n v : Nat} (h : lk f x n = some v) : v < n ∧ f v = x := by
  have := lkc_lt n 0 v h
  rw [Nat.zero_add] at this
  exact this
theorem lkc_sn {f : Nat → List Nat} {x : List Nat} : ∀ (g i : Nat), lkc f x (g + 1) i = oe (lkc f x g i) (if f (i + g) = x then some (i + g) else none) := by
  intro g
  induction g with
  | zero => intro i; simp only [lkc, Nat.add_zero, oe_n]
  | succ g ih =>
    intro i
    rw [lkc, ih (i + 1)]
    show _ = oe (if f i = x then some i else lkc f x g (i + 1)) _
    by_cases c : f i = x
    · rw [if_pos c, if_pos c, oe_s]
    · rw [if_neg c, if_neg c, show i + 1 + g = i + (g + 1) by omega]
theorem lkc_cg {f f2 : Nat → List Nat} {x : List Nat} : ∀ (g i : Nat), (∀ j, i ≤ j → j < i + g → f2 j = f j) → lkc f2 x g i = lkc f x g i := by
  intro g
  induction g with
  | zero => intro i _; rfl
  | succ g ih =>
    intro i h
    simp only [lkc]
    rw [h i (by omega) (by omega), ih (i + 1) (fun j h1 h2 => h j (by omega) (by omega))]
theorem lk_up {f : Nat → List Nat} {x y : List Nat} {n : Nat} : lk (mm_up f n y) x (n + 1) = oe (lk f x n) (if y = x then some n else none) := by
  unfold lk
  rw [lkc_sn, lkc_cg (f := f) n 0 (fun j h1 h2 => up_ne (by omega)), Nat.zero_add, up_at rfl]
/-- a name as the class has it -/
def ovk (r : Option Nat) : Int32 := match r with | some v => nI v | none => nM2
/-- letters -/
def ltok (l : List Nat) : Prop := l.length ≤ 8 ∧ ∀ c ∈ l, 1 ≤ c ∧ c ≤ 26
theorem lN_inj {a b : Nat} (ha : a < 2 ^ 41) (hb : b < 2 ^ 41) (h : lN a = lN b) : a = b := by
  have h2 := congrArg (fun z : Int64 => z.toBitVec.toNat) h
  simp only [wb_tb, BitVec.toNat_ofNat] at h2
  omega
theorem enc_eq {B : Nat} (hB : 26 < B) (hB2 : B ≤ 32) {l m : List Nat} (hl : ltok l) (hm : ltok m) : lN (enc B l) = lN (enc B m) ↔ l = m := by
  constructor
  · intro h
    exact enc_inj hB 8 l m hl.1 hm.1 hl.2 hm.2 (lN_inj (enc_bd hB hl.1 hl.2 hB2) (enc_bd hB hm.1 hm.2 hB2) h)
  · intro h; rw [h]
theorem ixN_lk {N : Nat → Int64} {f : Nat → List Nat} {x : List Nat} (hx : ltok x) : ∀ (g i : Nat), (∀ j, i ≤ j → j < i + g → N j = lN (enc 32 (f j)) ∧ ltok (f j)) → ixN N (lN (enc 32 x)) g i = ovk (lkc f x g i) := by
  intro g
  induction g with
  | zero => intro i _; rfl
  | succ g ih =>
    intro i h
    simp only [ixN, lkc]
    obtain ⟨h1, h2⟩ := h i (by omega) (by omega)
    rw [h1]
    by_cases c : f i = x
    · rw [if_pos c, if_pos ((enc_eq (by omega) (by omega) h2 hx).mpr c)]; rfl
    · rw [if_neg c, if_neg (fun e => c ((enc_eq (by omega) (by omega) h2 hx).mp e))]
      exact ih (i + 1) (fun j h1 h2 => h j (by omega) (by omega))
theorem ovk_neg {r : Option Nat} (h : ∀ v, r = some v → v < 100) : ovk r < nI 0 ↔ r = none := by
  cases r with
  | none => simp only [ovk, iff_true]; decide
  | some v =>
    have hv := h v rfl
    simp only [ovk]
    rw [nI_ltI (by omega) (by omega)]
    simp
/-- the reference's names -/
theorem knw_sn {N : Nat → Int64} {A : Nat → Nat} {x : Int64} {bs : Nat} : ∀ (g i : Nat), knw N A x bs (g + 1) i = oe (knw N A x bs g i) (if N (i + g) = x ∧ bs ≤ A (i + g) ∧ A (i + g) < bs + 10 then some (A (i + g) - bs) else none) := by
  intro g
  induction g with
  | zero => intro i; simp only [knw, Nat.add_zero, oe_n]
  | succ g ih =>
    intro i
    rw [knw, ih (i + 1)]
    show _ = oe (if N i = x ∧ bs ≤ A i ∧ A i < bs + 10 then some (A i - bs) else knw N A x bs g (i + 1)) _
    by_cases c : N i = x ∧ bs ≤ A i ∧ A i < bs + 10
    · rw [if_pos c, if_pos c, oe_s]
    · rw [if_neg c, if_neg c, show i + 1 + g = i + (g + 1) by omega]
theorem isIn_sn {N : Nat → Int64} {x : Int64} : ∀ (g i : Nat), isIn N x (g + 1) i = (isIn N x g i || decide (N (i + g) = x)) := by
  intro g
  induction g with
  | zero =>
    intro i
    simp only [isIn, Nat.add_zero, Bool.false_or]
    by_cases c : N i = x
    · rw [if_pos c]; simp [c]
    · rw [if_neg c]; simp [c]
  | succ g ih =>
    intro i
    rw [isIn, ih (i + 1)]
    show _ = ((if N i = x then true else isIn N x g (i + 1)) || _)
    by_cases c : N i = x
    · rw [if_pos c, if_pos c, Bool.true_or]
    · rw [if_neg c, if_neg c, show i + 1 + g = i + (g + 1) by omega]
theorem knw_cg {N N2 : Nat → Int64} {A A2 : Nat → Nat} {x : Int64} {bs : Nat} : ∀ (g i : Nat), (∀ j, i ≤ j → j < i + g → N2 j = N j ∧ A2 j = A j) → knw N2 A2 x bs g i = knw N A x bs g i := by
  intro g
  induction g with
  | zero => intro i _; rfl
  | succ g ih =>
    intro i h
    obtain ⟨h1, h2⟩ := h i (by omega) (by omega)
    simp only [knw]
    rw [h1, h2, ih (i + 1) (fun j h1 h2 => h j (by omega) (by omega))]
theorem isIn_cg {N N2 : Nat → Int64} {x : Int64} : ∀ (g i : Nat), (∀ j, i ≤ j → j < i + g → N2 j = N j) → isIn N2 x g i = isIn N x g i := by
  intro g
  induction g with
  | zero => intro i _; rfl
  | succ g ih =>
    intro i h
    simp only [isIn]
    rw [h i (by omega) (by omega), ih (i + 1) (fun j h1 h2 => h j (by omega) (by omega))]
/-- what a text has told so far: numbers (0 fields, 1 people, 2 hedges, 3 heirs, 4 seed, 5 what is wrong, 6 at which token), names of fields, of people, rows (0 ages, 1 2 fields of a hedge, 3 4 its owners, 5 its height, 6 7 heirs), laws -/
abbrev TS := (Nat → Nat) × (Nat → List Nat) × (Nat → List Nat) × (Nat → Nat → Option Nat) × (Nat → Option (List PI × PC))
/-- noted, if it is so and nothing is noted yet -/
def nt (c : Nat → Nat) (v ti : Nat) (q : Prop) [Decidable q] : Nat → Nat := if q ∧ c 5 = 0 then mm_up (mm_up c 5 v) 6 ti else c
/-- tokens of these kinds, one behind the other -/
def pSeq (K : Nat → Nat) : List Nat → Nat → Nat × Nat
  | [], a => (0, a)
  | k :: ks, a => if (pTk K k a).1 = 0 then pSeq K ks (a + 1) else ((pTk K k a).1, a)
/-- what a statement has told: the field, person, hedge, heirs or seed at token a -/
def uFd (W : Nat → List Nat) (S : TS) (a : Nat) : TS := (mm_up (nt S.1 3 (a + 1) ((lk S.2.1 (W (a + 1)) (S.1 0)).isSome = true ∨ (lk S.2.2.1 (W (a + 1)) (S.1 1)).isSome = true)) 0 (S.1 0 + 1), mm_up S.2.1 (S.1 0) (W (a + 1)), S.2.2)
def uPn (W : Nat → List Nat) (V : Nat → Nat) (S : TS) (a : Nat) : TS := (mm_up (nt (nt S.1 3 (a + 1) ((lk S.2.1 (W (a + 1)) (S.1 0)).isSome = true ∨ (lk S.2.2.1 (W (a + 1)) (S.1 1)).isSome = true)) 5 (a + 2) (99 < V (a + 2))) 1 (S.1 1 + 1), S.2.1, mm_up S.2.2.1 (S.1 1) (W (a + 1)), mm_up S.2.2.2.1 0 (mm_up (S.2.2.2.1 0) (S.1 1) (some (V (a + 2)))), S.2.2.2.2)
def hgC (W : Nat → List Nat) (V : Nat → Nat) (S : TS) (a : Nat) : Nat → Nat := nt (nt (nt (nt (nt (nt S.1 4 (a + 1) (lk S.2.1 (W (a + 1)) (S.1 0) = none)) 3 (a + 2) (W (a + 2) = W (a + 1))) 4 (a + 2) (lk S.2.1 (W (a + 2)) (S.1 0) = none)) 4 (a + 3) (lk S.2.2.1 (W (a + 3)) (S.1 1) = none)) 4 (a + 4) (lk S.2.2.1 (W (a + 4)) (S.1 1) = none)) 5 (a + 5) (99 < V (a + 5))
def hgR (W : Nat → List Nat) (V : Nat → Nat) (S : TS) (a : Nat) : Nat → Nat → Option Nat := fun i e => if e = S.1 2 then (if i = 1 then lk S.2.1 (W (a + 1)) (S.1 0) else if i = 2 then lk S.2.1 (W (a + 2)) (S.1 0) else if i = 3 then lk S.2.2.1 (W (a + 3)) (S.1 1) else if i = 4 then lk S.2.2.1 (W (a + 4)) (S.1 1) else if i = 5 then some (V (a + 5)) else S.2.2.2.1 i e) else S.2.2.2.1 i e
def uHg (W : Nat → List Nat) (V : Nat → Nat) (S : TS) (a : Nat) : TS := (mm_up (hgC W V S a) 2 (S.1 2 + 1), S.2.1, S.2.2.1, hgR W V S a, S.2.2.2.2)
def hrC (W : Nat → List Nat) (S : TS) (a : Nat) : Nat → Nat := nt (nt (nt (nt (nt S.1 4 (a + 1) (lk S.2.2.1 (W (a + 1)) (S.1 1) = none)) 3 (a + 2) (W (a + 2) = W (a + 1))) 4 (a + 2) (lk S.2.2.1 (W (a + 2)) (S.1 1) = none)) 3 (a + 3) (W (a + 3) = W (a + 1))) 4 (a + 3) (lk S.2.2.1 (W (a + 3)) (S.1 1) = none)
def hrR (W : Nat → List Nat) (S : TS) (a : Nat) : Nat → Nat → Option Nat := fun i e => if lk S.2.2.1 (W (a + 1)) (S.1 1) = some e then (if i = 6 then lk S.2.2.1 (W (a + 2)) (S.1 1) else if i = 7 then lk S.2.2.1 (W (a + 3)) (S.1 1) else S.2.2.2.1 i e) else S.2.2.2.1 i e
def uHr (W : Nat → List Nat) (S : TS) (a : Nat) : TS := (mm_up (hrC W S a) 3 (S.1 3 + 1), S.2.1, S.2.2.1, hrR W S a, S.2.2.2.2)
def uSd (V : Nat → Nat) (S : TS) (a : Nat) : TS := (mm_up S.1 4 (V (a + 1)), S.2)
def uLw (S : TS) (k : Nat) (l : List PI) (c : PC) : TS := (S.1, S.2.1, S.2.2.1, S.2.2.2.1, mm_up S.2.2.2.2 k (some (l, c)))
/-- one statement: its fault, the token where, what is told then -/
def pSt (K V : Nat → Nat) (W : Nat → List Nat) (S : TS) (a : Nat) : Nat × Nat × TS :=
  if K a = 0 then (if S.1 0 = 7 then (2, a, S) else ((pSeq K [0, 21, 23] a).1, (pSeq K [0, 21, 23] a).2, uFd W S a))
  else if K a = 1 then (if S.1 1 = 6 then (2, a, S) else ((pSeq K [1, 21, 22, 23] a).1, (pSeq K [1, 21, 22, 23] a).2, uPn W V S a))
  else if K a = 2 then (if S.1 2 = 10 then (2, a, S) else ((pSeq K [2, 21, 21, 21, 21, 22, 23] a).1, (pSeq K [2, 21, 21, 21, 21, 22, 23] a).2, uHg W V S a))
  else if K a = 3 then (if S.1 3 = 6 then (2, a, S) else ((pSeq K [3, 21, 21, 21, 23] a).1, (pSeq K [3, 21, 21, 21, 23] a).2, uHr W S a))
  else if K a = 8 then ((pSeq K [8, 22, 23] a).1, (pSeq K [8, 22, 23] a).2, uSd V S a)
  else if 4 ≤ K a ∧ K a ≤ 7 then ((pLaw K V a).1, (pLaw K V a).2.1, uLw S (K a - 4) (pLaw K V a).2.2.1 (pLaw K V a).2.2.2)
  else (1, a, S)
/-- all statements -/
def pAll (K V : Nat → Nat) (W : Nat → List Nat) : Nat → TS → Nat → Nat × Nat × TS
  | 0, S, a => (0, a, S)
  | f + 1, S, a => if K a = 33 then (0, a, S) else if (pSt K V W S a).1 = 0 then pAll K V W f (pSt K V W S a).2.2 (pSt K V W S a).2.1 else pSt K V W S a
theorem pSeq_c {K : Nat → Nat} {k : Nat} {ks : List Nat} {a : Nat} : pSeq K (k :: ks) a = if (pTk K k a).1 = 0 then pSeq K ks (a + 1) else ((pTk K k a).1, a) := rfl
