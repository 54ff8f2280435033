/-! ===== The class: between, neighbours, will, line ===== -/
theorem xr_0 : ∀ e : Fin 10, (2 * e.val) ^^^ 1 = 2 * e.val + 1 := by decide
theorem xr_1 : ∀ e : Fin 10, (2 * e.val + 1) ^^^ 1 = 2 * e.val := by decide
theorem xr0 {e : Nat} (h : e < 10) : (2 * e) ^^^ 1 = 2 * e + 1 := xr_0 ⟨e, h⟩
theorem xr1 {e : Nat} (h : e < 10) : (2 * e + 1) ^^^ 1 = 2 * e := xr_1 ⟨e, h⟩
theorem xr_lt {f H : Nat} (hH : H ≤ 10) (h : f < 2 * H) : f ^^^ 1 < 2 * H := by
  rcases fk_cases f with ⟨e, rfl, -⟩ | ⟨e, rfl, -⟩
  · rw [xr0 (by omega)]; omega
  · rw [xr1 (by omega)]; omega
def x_btb (fa : Nat → Int32) (f g : Int32) : Nat → Int32
  | 0 => nI 0
  | n + 1 => if fa n = f ∧ fa (n ^^^ 1) = g then x_btb fa f g n ||| (nI 1 <<< (nI (n / 2) &&& nI 31)) else x_btb fa f g n
theorem x_btb_m {fa fo fi : Nat → Int32} {f g : Int32} {H : Nat} (hH : H ≤ 10) (h : ∀ e, e < H → fa (2 * e) = fo e ∧ fa (2 * e + 1) = fi e) : ∀ n, n ≤ H → x_btb fa f g (2 * n) = a_btb fo fi f g n := by
  intro n
  induction n with
  | zero => intro _; rfl
  | succ n ih =>
    intro hn
    rw [show 2 * (n + 1) = 2 * n + 1 + 1 by omega]
    simp only [x_btb, a_btb]
    rw [ih (by omega), xr0 (by omega), xr1 (by omega), (h n (by omega)).1, (h n (by omega)).2, show (2 * n + 1) / 2 = n by omega, show 2 * n / 2 = n by omega]
    by_cases c1 : fo n = f ∧ fi n = g
    · rw [if_pos c1, if_pos (Or.inl c1)]
      by_cases c2 : fi n = f ∧ fo n = g
      · rw [if_pos c2, Int32.or_assoc, Int32.or_self]
      · rw [if_neg c2]
    · rw [if_neg c1]
      by_cases c2 : fi n = f ∧ fo n = g
      · rw [if_pos c2, if_pos (Or.inr ⟨c2.2, c2.1⟩)]
      · rw [if_neg c2, if_neg (by rintro (h | h); exact c1 h; exact c2 ⟨h.2, h.1⟩)]
def x_nb (r : Nat → Int32) (a : Nat) : Nat → Nat
  | 0 => 0
  | f + 1 => if r (a_fk f) = nI a ∧ ¬ r (a_fk (f ^^^ 1)) < nI 0 ∧ ¬ r (a_fk (f ^^^ 1)) = nI a ∧ r (48 + f / 2) = nI 0 then x_nb r a f ||| 2 ^ (r (a_fk (f ^^^ 1))).toNatClampNeg else x_nb r a f
theorem wo_or {x y z : Nat} : bt_wo (x ||| y) z = bt_wo x z ||| bt_wo y z := by unfold bt_wo; exact Nat.and_or_distrib_right x y _
theorem wo_pow : ∀ q a : Fin 6, bt_wo (2 ^ q.val) (2 ^ a.val) = if q.val = a.val then 0 else 2 ^ q.val := by decide +kernel
theorem x_nb_m {r : Nat → Int32} {P H a : Nat} (hP : P ≤ 6) (hH : H ≤ 10) (hR : RI P H r) (ha : a < 6) : ∀ n, n ≤ H → ∃ y, y < 64 ∧ a_nb r (nI a) n = nI y ∧ bt_wo y (2 ^ a) = x_nb r a (2 * n) := by
  intro n
  induction n with
  | zero => intro _; exact ⟨0, by omega, rfl, by unfold bt_wo; exact Nat.zero_and _⟩
  | succ n ih =>
    intro hn
    obtain ⟨y, hy, h1, h2⟩ := ih (by omega)
    rw [show 2 * (n + 1) = 2 * n + 1 + 1 by omega]
    simp only [x_nb, a_nb]
    rw [h1, xr0 (by omega), xr1 (by omega), fk_2, fk_21, show (2 * n + 1) / 2 = n by omega, show 2 * n / 2 = n by omega, ← h2]
    rcases hR.2.2.1 n (by omega) with g0 | g0
    · rw [if_neg (by rw [g0, bt_zero1]; exact id)]
      simp only [g0, and_true]
      -- one side
      have side : ∀ (o i : Int32) (y : Nat), y < 64 → (i = nM2 ∨ ∃ q, q < P ∧ i = nI q ∧ r q = nI 1) → ∃ y2, y2 < 64 ∧ (if o = nI a then (if i < nI 0 then nI y else nI y ||| (nI 1 <<< (i &&& nI 31))) else nI y) = nI y2 ∧ bt_wo y2 (2 ^ a) = if o = nI a ∧ ¬ i < nI 0 ∧ ¬ i = nI a then bt_wo y (2 ^ a) ||| 2 ^ i.toNatClampNeg else bt_wo y (2 ^ a) := by
        intro o i y hy hi
        by_cases c1 : o = nI a
        · rw [if_pos c1]
          rcases hi with rfl | ⟨q, hq, rfl, -⟩
          · rw [if_pos (nM2_lt (by omega)), if_neg (fun h => h.2.1 (nM2_lt (by omega)))]
            exact ⟨y, hy, rfl, rfl⟩
          · have e0 : ¬ nI q < nI 0 := by rw [nI_ltI (by omega) (by omega)]; omega
            rw [if_neg e0, bt_one (by omega), bt_or]
            have h64 : (2 : Nat) ^ q < 2 ^ 6 := Nat.pow_lt_pow_right (by omega) (by omega)
            refine ⟨_, Nat.or_lt_two_pow (n := 6) (by omega) h64, rfl, ?_⟩
            rw [wo_or, wo_pow ⟨q, by omega⟩ ⟨a, ha⟩, nI_clamp (by omega)]
            by_cases c2 : q = a
            · subst c2
              rw [if_pos rfl, if_neg (fun h => h.2.2 rfl), Nat.or_zero]
            · rw [if_neg c2, if_pos ⟨c1, e0, fun h => c2 ((nI_eq (by omega) (by omega)).mp h)⟩]
        · rw [if_neg c1, if_neg (fun h => c1 h.1)]
          exact ⟨y, hy, rfl, rfl⟩
      unfold a_nb2 a_nb1
      obtain ⟨y2, hy2, s1, s2⟩ := side (r (18 + n)) (r (28 + n)) y hy (hR.2.2.2.2.2.1 n (by omega)).2
      rw [s1]
      obtain ⟨y3, hy3, s3, s4⟩ := side (r (28 + n)) (r (18 + n)) y2 hy2 (hR.2.2.2.2.2.1 n (by omega)).1
      rw [s3]
      refine ⟨y3, hy3, rfl, ?_⟩
      rw [s4, s2]
    · rw [if_pos g0]
      refine ⟨y, hy, rfl, ?_⟩
      rw [if_neg (fun h => by rw [g0, bt_one0] at h; exact h.2.2.2), if_neg (fun h => by rw [g0, bt_one0] at h; exact h.2.2.2)]
theorem alN_wo {r : Nat → Int32} {a : Nat} (ha : a < 6) : alN (mm_up r a (nI 0)) = bt_wo (alN r) (2 ^ a) := by
  refine tb_ext (n := 6) alN_lt (Nat.lt_of_le_of_lt bt_wo_le alN_lt) (fun k hk => ?_)
  rw [bt_wo_tb (by omega), alN_tb, alN_tb, bt_pow_tb]
  by_cases h : k = a
  · subst h; rw [up_at rfl]; simp [bt_zero1]
  · rw [up_ne h]
    have : ¬ a = k := fun q => h q.symm
    simp [this]
/-- a face once one has died -/
theorem a_die_fk {I : Nat → Nat → Int32} {lv H p f : Nat} {r : Nat → Int32} (hH : H ≤ 10) (hf : f < 2 * H) (hp : p < 6) : a_die I lv H r p (a_fk f) = if r (a_fk f) = nI p then m_lt (mm_up r p (nI 0)) (nI p) (hrF I lv f p) else r (a_fk f) := by
  have h18 := @fk_lt f (by omega)
  unfold a_die m_leave hrF
  rw [up_ne (by omega)]
  by_cases c : r (a_fk f) = nI p
  · rw [if_pos c, if_pos c]
    rcases fk_cases f with ⟨e, rfl, h⟩ | ⟨e, rfl, h⟩
    · rw [h, if_pos (by omega), if_pos (by omega)]
    · rw [h, if_neg (by omega), if_pos (by omega), if_neg (by omega)]
  · rw [if_neg c, if_neg c]
/-- how many faces come to b, a dying -/
def x_wl (r : Nat → Int32) (lt : Nat → Int32) (a b : Int32) : Nat → Nat
  | 0 => 0
  | f + 1 => if r (a_fk f) = a ∧ lt f = b then x_wl r lt a b f + 1 else x_wl r lt a b f
theorem x_wl_le {r lt : Nat → Int32} {a b : Int32} : ∀ n, x_wl r lt a b n ≤ n := by
  intro n
  induction n with
  | zero => exact Nat.le_refl _
  | succ n ih => simp only [x_wl]; split <;> omega
theorem x_wl_m {I : Nat → Nat → Int32} {lv H a b : Nat} {r : Nat → Int32} (hH : H ≤ 10) (ha : a < 6) (hb : b < 6) (hab : ¬ a = b) : ∀ n, n ≤ H → m_fc (a_die I lv H r a) (nI b) n = m_fc r (nI b) n + x_wl r (fun f => m_lt (mm_up r a (nI 0)) (nI a) (hrF I lv f a)) (nI a) (nI b) (2 * n) := by
  intro n
  induction n with
  | zero => intro _; rfl
  | succ n ih =>
    intro hn
    rw [show 2 * (n + 1) = 2 * n + 1 + 1 by omega]
    simp only [x_wl, m_fc]
    have e1 := a_die_fk (I := I) (lv := lv) (r := r) hH (show 2 * n < 2 * H by omega) ha
    have e2 := a_die_fk (I := I) (lv := lv) (r := r) hH (show 2 * n + 1 < 2 * H by omega) ha
    rw [fk_2] at e1
    rw [fk_21] at e2
    rw [ih (by omega), e1, e2, fk_2, fk_21]
    have nab : ¬ nI a = nI b := by rw [nI_eq (by omega) (by omega)]; exact hab
    have one : ∀ (x l : Int32), (if (if x = nI a then l else x) = nI b then 1 else 0) = (if x = nI b then 1 else 0) + (if x = nI a ∧ l = nI b then 1 else 0) := by
      intro x l
      by_cases c1 : x = nI a
      · subst c1
        rw [if_pos rfl, if_neg nab]
        by_cases c2 : l = nI b
        · rw [if_pos c2, if_pos ⟨rfl, c2⟩]
        · rw [if_neg c2, if_neg (fun h => c2 h.2)]
      · rw [if_neg c1, if_neg (show ¬ (x = nI a ∧ l = nI b) from fun h => c1 h.1), Nat.add_zero]
    rw [one, one]
    by_cases c1 : r (18 + n) = nI a ∧ m_lt (mm_up r a (nI 0)) (nI a) (hrF I lv (2 * n) a) = nI b
    · by_cases c2 : r (28 + n) = nI a ∧ m_lt (mm_up r a (nI 0)) (nI a) (hrF I lv (2 * n + 1) a) = nI b
      · rw [if_pos c1, if_pos c2, if_pos c2, if_pos c1]; omega
      · rw [if_pos c1, if_neg c2, if_neg c2, if_pos c1]; omega
    · by_cases c2 : r (28 + n) = nI a ∧ m_lt (mm_up r a (nI 0)) (nI a) (hrF I lv (2 * n + 1) a) = nI b
      · rw [if_neg c1, if_pos c2, if_pos c2, if_neg c1]; omega
      · rw [if_neg c1, if_neg c2, if_neg c2, if_neg c1]; omega
