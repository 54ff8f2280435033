/-! ===== Texts and their tokens ===== -/
/-- a byte's number -/
def tb8 (x : Int32) : Nat := (x &&& nI 255).toNatClampNeg
theorem tb8_ok (x : Int32) : x &&& nI 255 = nI (tb8 x) ∧ tb8 x < 256 := by
  have h := Jvm.Kit.i32_mask x (nI 255) (k := 8) (by omega) (by decide)
  have h1 : 0 ≤ (x &&& nI 255).toInt := by rw [h]; exact Int.emod_nonneg _ (by decide)
  have h2 : (x &&& nI 255).toInt < 256 := by rw [h]; exact Int.emod_lt_of_pos _ (by decide)
  have h3 : ¬ (x &&& nI 255) < nI 0 := by
    rw [Int32.lt_iff_toInt_lt, nI_toInt (by omega)]
    omega
  obtain ⟨j, hj, e⟩ := nI_of h3
  unfold tb8
  rw [e] at h2 ⊢
  rw [nI_toInt hj] at h2
  rw [nI_clamp hj]
  exact ⟨rfl, by omega⟩
def isL (c : Nat) : Bool := decide (97 ≤ c) && decide (c ≤ 122)
def isD (c : Nat) : Bool := decide (48 ≤ c) && decide (c ≤ 57)
def isB (c : Nat) : Bool := decide (c = 9) || decide (c = 10) || decide (c = 13) || decide (c = 32)
/-- how many of the bytes from i on are such, up to n -/
def rn (p : Nat → Bool) (b : Nat → Nat) (n : Nat) : Nat → Nat → Nat
  | 0, _ => 0
  | f + 1, i => if i < n ∧ p (b i) = true then rn p b n f (i + 1) + 1 else 0
def run (p : Nat → Bool) (b : Nat → Nat) (n i : Nat) : Nat := rn p b n (n - i) i
theorem run_no {p : Nat → Bool} {b : Nat → Nat} {n i : Nat} (h : ¬ (i < n ∧ p (b i) = true)) : run p b n i = 0 := by
  unfold run
  cases n - i with
  | zero => rfl
  | succ f => simp only [rn]; rw [if_neg h]
theorem run_yes {p : Nat → Bool} {b : Nat → Nat} {n i : Nat} (h : i < n) (h2 : p (b i) = true) : run p b n i = run p b n (i + 1) + 1 := by
  unfold run
  rw [show n - i = (n - (i + 1)) + 1 by omega]
  simp only [rn]
  rw [if_pos ⟨h, h2⟩]
theorem run_le {p : Nat → Bool} {b : Nat → Nat} {n : Nat} : ∀ f i, rn p b n f i ≤ f := by
  intro f
  induction f with
  | zero => intro i; exact Nat.le_refl _
  | succ f ih =>
    intro i
    simp only [rn]
    split
    · have := ih (i + 1); omega
    · omega
theorem run_ub {p : Nat → Bool} {b : Nat → Nat} {n i : Nat} : run p b n i ≤ n - i := run_le _ _
/-- all within a run are such, what is behind it isn't -/
theorem run_in {p : Nat → Bool} {b : Nat → Nat} {n : Nat} : ∀ k i, k < run p b n i → i + k < n ∧ p (b (i + k)) = true := by
  intro k
  induction k with
  | zero =>
    intro i h
    by_cases c : i < n ∧ p (b i) = true
    · exact c
    · rw [run_no c] at h; omega
  | succ k ih =>
    intro i h
    by_cases c : i < n ∧ p (b i) = true
    · rw [run_yes c.1 c.2] at h
      have := ih (i + 1) (by omega)
      rw [show i + 1 + k = i + (k + 1) by omega] at this
      exact this
    · rw [run_no c] at h; omega
theorem run_end {p : Nat → Bool} {b : Nat → Nat} {n : Nat} : ∀ f i, n - i ≤ f → ¬ (i + run p b n i < n ∧ p (b (i + run p b n i)) = true) := by
  intro f
  induction f with
  | zero =>
    intro i h
    have := run_ub (p := p) (b := b) (n := n) (i := i)
    omega
  | succ f ih =>
    intro i h
    by_cases c : i < n ∧ p (b i) = true
    · rw [run_yes c.1 c.2]
      have := ih (i + 1) (by omega)
      rw [show i + (run p b n (i + 1) + 1) = i + 1 + run p b n (i + 1) by omega]
      exact this
    · rw [run_no c]
      exact c
/-- the letters from i on, k of them -/
def lts (b : Nat → Nat) (i : Nat) : Nat → List Nat
  | 0 => []
  | k + 1 => lts b i k ++ [b (i + k) - 96]
/-- letters as a number -/
def enc (B : Nat) (l : List Nat) : Nat := l.foldl (fun a c => B * a + c) 0
theorem enc_app {B : Nat} {l : List Nat} {c : Nat} : enc B (l ++ [c]) = B * enc B l + c := by
  unfold enc
  rw [List.foldl_append]
  rfl
theorem lts_len {b : Nat → Nat} {i : Nat} : ∀ k, (lts b i k).length = k := by
  intro k
  induction k with
  | zero => rfl
  | succ k ih => simp only [lts, List.length_append, ih, List.length_cons, List.length_nil]
theorem enc_inj {B : Nat} (hB : 26 < B) : ∀ (n : Nat) (l m : List Nat), l.length ≤ n → m.length ≤ n → (∀ c ∈ l, 1 ≤ c ∧ c ≤ 26) → (∀ c ∈ m, 1 ≤ c ∧ c ≤ 26) → enc B l = enc B m → l = m := by
  intro n
  induction n with
  | zero =>
    intro l m hl hm _ _ _
    rw [List.length_eq_zero_iff.mp (Nat.le_zero.mp hl), List.length_eq_zero_iff.mp (Nat.le_zero.mp hm)]
  | succ n ih =>
    intro l m hl hm al am h
    rcases List.eq_nil_or_concat l with rfl | ⟨l2, c, rfl⟩
    · rcases List.eq_nil_or_concat m with rfl | ⟨m2, d, rfl⟩
      · rfl
      · rw [List.concat_eq_append] at h am ⊢
        rw [enc_app] at h
        have := am d (by simp)
        have e0 : enc B ([] : List Nat) = 0 := rfl
        rw [e0] at h
        omega
    · rcases List.eq_nil_or_concat m with rfl | ⟨m2, d, rfl⟩
      · rw [List.concat_eq_append] at h al ⊢
        rw [enc_app] at h
        have := al c (by simp)
        have e0 : enc B ([] : List Nat) = 0 := rfl
        rw [e0] at h
        omega
      · rw [List.concat_eq_append] at h al hl ⊢
        rw [List.concat_eq_append] at h am hm ⊢
        rw [enc_app, enc_app] at h
        have hc := al c (by simp)
        have hd := am d (by simp)
        have e1 : (B * enc B l2 + c) / B = enc B l2 := by
          rw [Nat.mul_add_div (by omega), Nat.div_eq_of_lt (by omega)]; rfl
        have e2 : (B * enc B m2 + d) / B = enc B m2 := by
          rw [Nat.mul_add_div (by omega), Nat.div_eq_of_lt (by omega)]; rfl
        have e3 : enc B l2 = enc B m2 := by rw [← e1, ← e2, h]
        have e4 : c = d := by rw [e3] at h; omega
        rw [e4, ih l2 m2 (by simp at hl; omega) (by simp at hm; omega) (fun x hx => al x (by simp [hx])) (fun x hx => am x (by simp [hx])) e3]
theorem enc_lt {B : Nat} (hB : 26 < B) : ∀ (l : List Nat), (∀ c ∈ l, c ≤ 26) → enc B l < B ^ l.length := by
  intro l
  induction h : l.length generalizing l with
  | zero =>
    intro _
    rw [List.length_eq_zero_iff.mp h]
    exact Nat.one_pos
  | succ n ih =>
    intro al
    rcases List.eq_nil_or_concat l with rfl | ⟨l2, c, rfl⟩
    · simp at h
    · rw [List.concat_eq_append] at h al ⊢
      have h2 : l2.length = n := by simpa using h
      have := ih l2 h2 (fun x hx => al x (by simp [hx]))
      have hc := al c (by simp)
      rw [enc_app, Nat.pow_succ]
      have : B * enc B l2 + B ≤ B * B ^ n := by
        rw [← Nat.mul_succ]
        exact Nat.mul_le_mul_left B this
      rw [Nat.mul_comm (B ^ n) B]
      omega
/-- the words that are no names -/
def kwds : List (List Nat) := ["field", "person", "hedge", "heirs", "grows", "dies", "falls", "costs", "seed", "if", "then", "else", "high", "years", "age", "faces", "which", "outer", "inner", "clipped", "gaps"].map (fun s => s.toList.map (fun c => c.toNat - 96))
def kwf : List (List Nat) → List Nat → Nat → Nat
  | [], _, k => k
  | w :: ws, l, k => if w = l then k else kwf ws l (k + 1)
/-- which of them, 21: none -/
def kwk (l : List Nat) : Nat := kwf kwds l 0
def sgk (c : Nat) : Nat := if c = 59 then 23 else if c = 61 then 24 else if c = 43 then 25 else if c = 45 then 26 else if c = 42 then 27 else if c = 47 then 28 else if c = 60 then 29 else if c = 40 then 30 else if c = 41 then 31 else 32
def dgv (b : Nat → Nat) (i : Nat) : Nat → Nat
  | 0 => 0
  | k + 1 => 10 * dgv b i k + (b (i + k) - 48)
/-- the token at a place: its kind, its length -/
def tkk (b : Nat → Nat) (n j : Nat) : Nat := if n ≤ j then 33 else if isL (b j) = true then (if 8 < run isL b n j then 32 else kwk (lts b j (run isL b n j))) else if isD (b j) = true then (if 4 < run isD b n j then 32 else 22) else sgk (b j)
def tkl (b : Nat → Nat) (n j : Nat) : Nat := if n ≤ j then 0 else if isL (b j) = true then run isL b n j else if isD (b j) = true then run isD b n j else 1
def skp (b : Nat → Nat) (n i : Nat) : Nat := i + run isB b n i
/-- where token k is -/
def tkp (b : Nat → Nat) (n : Nat) : Nat → Nat
  | 0 => skp b n 0
  | k + 1 => skp b n (tkp b n k + tkl b n (tkp b n k))
def tkn (b : Nat → Nat) (n j : Nat) : List Nat := lts b j (run isL b n j)
def tkv (b : Nat → Nat) (n j : Nat) : Nat := dgv b j (run isD b n j)
theorem skp_b {b : Nat → Nat} {n i : Nat} (h : i < n) (h2 : isB (b i) = true) : skp b n i = skp b n (i + 1) := by
  unfold skp
  rw [run_yes h h2]
  omega
theorem skp_n {b : Nat → Nat} {n i : Nat} (h : ¬ (i < n ∧ isB (b i) = true)) : skp b n i = i := by
  unfold skp
  rw [run_no h]
  rfl
theorem tkp_le {b : Nat → Nat} {n : Nat} : ∀ k, tkp b n k ≤ n := by
  have sk : ∀ i, i ≤ n → skp b n i ≤ n := fun i hi => by
    unfold skp
    have := run_ub (p := isB) (b := b) (n := n) (i := i)
    omega
  have tl : ∀ j, j ≤ n → j + tkl b n j ≤ n := fun j hj => by
    unfold tkl
    have h1 := run_ub (p := isL) (b := b) (n := n) (i := j)
    have h2 := run_ub (p := isD) (b := b) (n := n) (i := j)
    split
    · omega
    · split
      · omega
      · split <;> omega
  intro k
  induction k with
  | zero => exact sk 0 (by omega)
  | succ k ih => exact sk _ (tl _ ih)
theorem lts_ok {b : Nat → Nat} {n i : Nat} : ∀ k, k ≤ run isL b n i → ∀ c ∈ lts b i k, 1 ≤ c ∧ c ≤ 26 := by
  intro k
  induction k with
  | zero => intro _ c hc; simp [lts] at hc
  | succ k ih =>
    intro hk c hc
    simp only [lts, List.mem_append, List.mem_singleton] at hc
    rcases hc with hc | hc
    · exact ih (by omega) c hc
    · have h := (run_in (p := isL) (b := b) (n := n) k i (by omega)).2
      unfold isL at h
      simp at h
      omega
theorem dgv_lt {b : Nat → Nat} {n i : Nat} : ∀ k, k ≤ run isD b n i → dgv b i k < 10 ^ k := by
  intro k
  induction k with
  | zero => intro _; exact Nat.one_pos
  | succ k ih =>
    intro hk
    have h := (run_in (p := isD) (b := b) (n := n) k i (by omega)).2
    have h2 := ih (by omega)
    unfold isD at h
    simp at h
    simp only [dgv]
    rw [Nat.pow_succ]
    omega
theorem kwf_le : ∀ (ws : List (List Nat)) (l : List Nat) (k : Nat), k ≤ kwf ws l k ∧ kwf ws l k ≤ k + ws.length := by
  intro ws
  induction ws with
  | nil => intro l k; exact ⟨Nat.le_refl _, Nat.le_refl _⟩
  | cons w ws ih =>
    intro l k
    simp only [kwf]
    split
    · exact ⟨Nat.le_refl _, by omega⟩
    · have := ih l (k + 1)
      simp only [List.length_cons]
      omega
theorem kwk_le {l : List Nat} : kwk l ≤ 21 := by
  have h := (kwf_le kwds l 0).2
  have e : kwds.length = 21 := rfl
  unfold kwk
  omega
