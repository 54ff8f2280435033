/-! ===== Bits of small numbers ===== -/
theorem bt_and {x y : Nat} : nI x &&& nI y = nI (x &&& y) := by
  apply Int32.toBitVec_inj.mp
  apply BitVec.eq_of_toNat_eq
  show (x % 2 ^ 32) &&& (y % 2 ^ 32) = (x &&& y) % 2 ^ 32
  rw [Nat.and_mod_two_pow]
theorem bt_or {x y : Nat} : nI x ||| nI y = nI (x ||| y) := by
  apply Int32.toBitVec_inj.mp
  apply BitVec.eq_of_toNat_eq
  show (x % 2 ^ 32) ||| (y % 2 ^ 32) = (x ||| y) % 2 ^ 32
  rw [Nat.or_mod_two_pow]
theorem bt_xor {x y : Nat} : nI x ^^^ nI y = nI (x ^^^ y) := by
  apply Int32.toBitVec_inj.mp
  apply BitVec.eq_of_toNat_eq
  show (x % 2 ^ 32) ^^^ (y % 2 ^ 32) = (x ^^^ y) % 2 ^ 32
  rw [Nat.xor_mod_two_pow]
theorem bt_sm : ∀ k : Fin 32, ((nI k.val &&& nI 31).toBitVec.smod 32).toNat = k.val := by decide +kernel
theorem bt_shl {x k : Nat} (hk : k < 31) (hx : x * 2 ^ k < 2 ^ 31) : nI x <<< (nI k &&& nI 31) = nI (x * 2 ^ k) := by
  have hp : 0 < 2 ^ k := Nat.pow_pos (by omega)
  have hx1 : x < 2 ^ 31 := Nat.lt_of_le_of_lt (Nat.le_mul_of_pos_right x hp) hx
  have hs : ((nI k &&& nI 31).toBitVec.smod 32).toNat = k := bt_sm ⟨k, by omega⟩
  apply Int32.toInt_inj.mp
  have e : (nI x).toInt = (x : Int) := nI_toInt hx1
  rw [Jvm.Kit.i32_shl (nI x) _ hs (by rw [e]; have : (0 : Int) ≤ (x : Int) * 2 ^ k := Int.mul_nonneg (by omega) (by exact_mod_cast Nat.zero_le (2 ^ k)); omega) (by rw [e]; exact_mod_cast hx), e, nI_toInt hx]
  exact_mod_cast rfl
theorem bt_one {k : Nat} (hk : k < 31) : nI 1 <<< (nI k &&& nI 31) = nI (2 ^ k) := by
  have := bt_shl (x := 1) hk (by rw [Nat.one_mul]; exact Nat.pow_lt_pow_right (by omega) hk)
  rw [Nat.one_mul] at this
  exact this
theorem bt_shr {x k : Nat} (hk : k < 31) (hx : x < 2 ^ 31) : nI x >>> (nI k &&& nI 31) = nI (x / 2 ^ k) := by
  apply Int32.toInt_inj.mp
  have e : (nI x).toInt = (x : Int) := nI_toInt hx
  rw [Jvm.Kit.i32_shr (nI x) _ (bt_sm ⟨k, by omega⟩), e, nI_toInt (Nat.lt_of_le_of_lt (Nat.div_le_self _ _) hx)]
  exact_mod_cast rfl
theorem bt_get {x k : Nat} (hk : k < 31) (hx : x < 2 ^ 31) : (nI x >>> (nI k &&& nI 31)) &&& nI 1 = if x.testBit k = true then nI 1 else nI 0 := by
  rw [bt_shr hk hx, bt_and, Nat.and_one_is_mod, Nat.testBit_eq_decide_div_mod_eq]
  by_cases h : x / 2 ^ k % 2 = 1
  · rw [h]; simp
  · have h0 : x / 2 ^ k % 2 = 0 := by omega
    rw [h0]; simp
theorem bt_m1 : nM1 = nI (2 ^ 32 - 1) := by decide +kernel
/-- x without y's bits -/
def bt_wo (x y : Nat) : Nat := x &&& (y ^^^ (2 ^ 32 - 1))
theorem bt_not {x y : Nat} : nI x &&& (nI y ^^^ nM1) = nI (bt_wo x y) := by
  rw [bt_m1, bt_xor, bt_and]
  rfl
theorem bt_wo_tb {x y k : Nat} (hk : k < 32) : (bt_wo x y).testBit k = (x.testBit k && !y.testBit k) := by
  unfold bt_wo
  rw [Nat.testBit_and, Nat.testBit_xor, Nat.testBit_two_pow_sub_one]
  simp [hk]
theorem bt_wo_le {x y : Nat} : bt_wo x y ≤ x := Nat.and_le_left
theorem bt_pow_tb {n k : Nat} : (2 ^ n).testBit k = decide (n = k) := Nat.testBit_two_pow
theorem bt_one0 : (nI 1 = nI 0) ↔ False := by decide +kernel
theorem bt_zero1 : (nI 0 = nI 1) ↔ False := by decide +kernel
/-- bits as a number -/
def bN (c : Nat → Bool) : Nat → Nat
  | 0 => 0
  | n + 1 => if c n = true then bN c n ||| 2 ^ n else bN c n
theorem bN_lt {c : Nat → Bool} : ∀ n, bN c n < 2 ^ n := by
  intro n
  induction n with
  | zero => exact Nat.one_pos
  | succ n ih =>
    have h2 : 2 ^ n < 2 ^ (n + 1) := Nat.pow_lt_pow_right (by omega) (by omega)
    simp only [bN]
    split
    · exact Nat.or_lt_two_pow (by omega) h2
    · omega
theorem bN_tb {c : Nat → Bool} {k : Nat} : ∀ n, (bN c n).testBit k = (decide (k < n) && c k) := by
  intro n
  induction n with
  | zero => simp [bN]
  | succ n ih =>
    simp only [bN]
    by_cases h : k = n
    · subst h
      split
      · rename_i h2
        rw [Nat.testBit_or, bt_pow_tb]
        simp [h2]
      · rename_i h2
        rw [ih]
        simp at h2
        simp [h2]
    · split
      · rw [Nat.testBit_or, bt_pow_tb, ih]
        have : (k < n + 1) ↔ k < n := by omega
        simp [this, Ne.symm h]
      · rw [ih]
        have : (k < n + 1) ↔ k < n := by omega
        simp [this]
theorem tb_ext {x y n : Nat} (hx : x < 2 ^ n) (hy : y < 2 ^ n) (h : ∀ k, k < n → x.testBit k = y.testBit k) : x = y := by
  apply Nat.eq_of_testBit_eq
  intro i
  by_cases hi : i < n
  · exact h i hi
  · rw [Nat.testBit_lt_two_pow (Nat.lt_of_lt_of_le hx (Nat.pow_le_pow_right (by omega) (by omega))), Nat.testBit_lt_two_pow (Nat.lt_of_lt_of_le hy (Nat.pow_le_pow_right (by omega) (by omega)))]
