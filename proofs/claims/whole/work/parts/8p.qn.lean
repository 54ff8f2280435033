/-! ===== The class: statements ===== -/
def plc (b : Nat → Nat) (n : Nat) (c : Nat → Nat) : Int32 := if c 5 = 0 then nM1 else nI (tkp b n (c 6))
/-- the reader at token a, noted as c says -/
def XS (b : Nat → Nat) (n : Nat) (Y : Nat → Nat → Int32) (a : Nat) (c : Nat → Nat) : Nat → Nat → Int32 := mm_up Y 3 (mm_up (mm_up (mm_up (Y 3) 3 (nI a)) 4 (nI (c 5))) 5 (plc b n c))
/-- what may have changed: the reader, the parish at p -/
def FS (Y Z : Nat → Nat → Int32) (p : Nat) : Prop := ∀ q, ¬ q = 3 → ¬ (p ≤ q ∧ q ≤ p + 12) → Z q = Y q
def JS (J J' : Nat → Nat → Int64) (p : Nat) : Prop := ∀ q, ¬ q = p + 1 → ¬ q = p + 2 → J' q = J q
def dfl (k : Nat) : PC := if k = 0 then [(0, nI 1)] else if k = 3 then [(1, nI 0)] else [(0, nI 0)]
/-- the class's steps of law k, from f on -/
def lcd (k f : Nat) (o : Option (List PI × PC)) : PC := match o with | some x => lwc f x.1 x.2 | none => dfl k
def RXl (Y : Nat → Nat → Int32) (p : Nat) (L : Nat → Option (List PI × PC)) (a : Nat) : Prop := ∃ s, Y (p + 8) 4 = nI s ∧ s ≤ a + 4 ∧ x_ok (Y (p + 9)) (Y (p + 10)) s ∧ ∀ k, k < 4 → ∃ f, Y (p + 11) k = nI f ∧ f + (lcd k f (L k)).length ≤ s ∧ Y (p + 12) k = nI (f + (lcd k f (L k)).length) ∧ ∀ i x, (lcd k f (L k))[i]? = some x → Y (p + 9) (f + i) = nI x.1 ∧ Y (p + 10) (f + i) = x.2
def RXr (Y : Nat → Nat → Int32) (p : Nat) (c : Nat → Nat) (R : Nat → Nat → Option Nat) : Prop := (∀ i, i < c 1 → Y (p + 3) i = ovk (R 0 i)) ∧ (∀ e, e < c 2 → Y (p + 5) (2 * e) = ovk (R 1 e) ∧ Y (p + 5) (2 * e + 1) = ovk (R 2 e) ∧ Y (p + 6) (2 * e) = ovk (R 3 e) ∧ Y (p + 6) (2 * e + 1) = ovk (R 4 e) ∧ Y (p + 7) e = ovk (R 5 e)) ∧ ∀ i, i < 6 → Y (p + 4) (2 * i) = ovk (R 6 i) ∧ Y (p + 4) (2 * i + 1) = ovk (R 7 i)
def RXn (J : Nat → Nat → Int64) (p : Nat) (S : TS) : Prop := (∀ i, i < S.1 0 → J (p + 1) i = lN (enc 32 (S.2.1 i))) ∧ ∀ i, i < S.1 1 → J (p + 2) i = lN (enc 32 (S.2.2.1 i))
def RXc (Y : Nat → Nat → Int32) (p : Nat) (c : Nat → Nat) : Prop := Y p 8 = nI (c 0) ∧ Y p 9 = nI (c 1) ∧ Y p 10 = nI (c 2) ∧ Y p 11 = nI (c 3) ∧ Y p 12 = nI (c 4)
/-- the parish at p holds what is told so far -/
def RXd (Y : Nat → Nat → Int32) (J : Nat → Nat → Int64) (p : Nat) (S : TS) (a : Nat) : Prop := RXc Y p S.1 ∧ RXn J p S ∧ (S.1 5 = 0 → RXr Y p S.1 S.2.2.2.1) ∧ RXl Y p S.2.2.2.2 a
/-- numbers as they may be -/
def TSo (K : Nat → Nat) (S : TS) (a : Nat) : Prop := a ≤ 400 ∧ (∀ j, j < a → K j < 32) ∧ S.1 0 ≤ 7 ∧ S.1 1 ≤ 6 ∧ S.1 2 ≤ 10 ∧ S.1 3 ≤ 6 ∧ S.1 5 < 100 ∧ (∀ i, i < S.1 0 → ltok (S.2.1 i)) ∧ (∀ i, i < S.1 1 → ltok (S.2.2.1 i)) ∧ (S.1 5 = 0 ∨ S.1 6 < a)
def tkL (b : Nat → Nat) (n k : Nat) : List Nat := tkn b n (tkp b n k)
section Qn
variable {w : Bool} {nx ns : Nat} {Y Z : Nat → Nat → Int32} {J J' : Nat → Nat → Int64} {n a p v q : Nat} {b c : Nat → Nat} {S : TS} {Kc : Option Value → mm_M → Prop}
theorem nt_t {P : Prop} [Decidable P] (h : P) (h5 : c 5 = 0) : nt c v a P = mm_up (mm_up c 5 v) 6 a := if_pos ⟨h, h5⟩
theorem nt_f {P : Prop} [Decidable P] (h : ¬ (P ∧ c 5 = 0)) : nt c v a P = c := if_neg h
theorem nt_o {P : Prop} [Decidable P] {j : Nat} (h5 : ¬ j = 5) (h6 : ¬ j = 6) : nt c v a P j = c j := by
  unfold nt
  split
  · rw [up_ne h6, up_ne h5]
  · rfl
theorem nt_lt {P : Prop} [Decidable P] (hv : v < 100) (h : c 5 < 100) : nt c v a P 5 < 100 := by
  unfold nt
  split
  · rw [up_ne (by decide), up_at rfl]; exact hv
  · exact h
theorem nt_0 {P : Prop} [Decidable P] (hv : 0 < v) (h : nt c v a P 5 = 0) : c 5 = 0 ∧ ¬ P := by
  unfold nt at h
  by_cases d : P ∧ c 5 = 0
  · rw [if_pos d, up_ne (by decide), up_at rfl] at h; omega
  · rw [if_neg d] at h; exact ⟨h, fun e => d ⟨e, h⟩⟩
theorem XS_33 : XS b n Y a c 3 3 = nI a := rfl
theorem XS_34 : XS b n Y a c 3 4 = nI (c 5) := rfl
theorem XS_o (hq : ¬ q = 3) : XS b n Y a c q = Y q := up_ne hq
theorem XS_up {f : Nat → Int32} (hq : ¬ q = 3) : mm_up (XS b n Y a c) q f = XS b n (mm_up Y q f) a c := by
  unfold XS
  funext z
  by_cases h1 : z = q
  · subst h1
    rw [up_at rfl, up_ne hq, up_at rfl]
  · rw [up_ne h1]
    by_cases h2 : z = 3
    · subst h2
      rw [up_at rfl, up_at rfl, up_ne h1]
    · rw [up_ne h2, up_ne h2, up_ne h1]
theorem XS_tk {x : Nat} : mm_up (XS b n Y a c) 3 (mm_up (XS b n Y a c 3) 3 (nI x)) = XS b n Y x c := by
  unfold XS
  rw [mm_up_up, up_at rfl]
  congr 1
  funext j
  simp only [mm_up_app]
  by_cases h3 : j = 3
  · subst h3; rfl
  · simp only [h3, if_false]
theorem XS_nt {P : Prop} [Decidable P] (hv : 0 < v) (hc : c 5 < 100) (h6 : Y 6 a = nI (tkp b n a)) : ntX (XS b n Y a c) a v P = XS b n Y a (nt c v a P) := by
  unfold ntX nt
  rw [XS_34]
  by_cases d : P ∧ c 5 = 0
  · rw [if_pos d, if_pos ⟨d.1, by rw [d.2]⟩, show XS b n Y a c 6 a = nI (tkp b n a) from h6]
    unfold XS
    rw [mm_up_up, up_at rfl]
    have e5 : mm_up (mm_up c 5 v) 6 a 5 = v := by rw [up_ne (by decide), up_at rfl]
    have e6 : plc b n (mm_up (mm_up c 5 v) 6 a) = nI (tkp b n a) := by
      unfold plc
      rw [e5, if_neg (by omega), up_at rfl]
    rw [e5, e6]
    congr 1
    funext j
    simp only [mm_up_app]
    by_cases h5 : j = 5
    · simp only [h5, if_true]
    · by_cases h4 : j = 4
      · simp [h4]
      · simp only [h5, h4, if_false]
  · rw [if_neg d, if_neg (fun e => d ⟨e.1, (nI_eq (by omega) (by omega)).mp e.2⟩)]
theorem XS_self (h3 : Y 3 3 = nI a) (h4 : Y 3 4 = nI (c 5)) (h5 : Y 3 5 = plc b n c) : XS b n Y a c = Y := by
  unfold XS
  rw [mm_up_of (f := Y 3) (k := 3) h3, mm_up_of (f := Y 3) (k := 4) h4, mm_up_of (f := Y 3) (k := 5) h5, mm_up_id]
theorem CUX_f (h : CUX Y J b n) (h5 : Z 5 = Y 5) (h6 : Z 6 = Y 6) (h7 : J' 7 = J 7) : CUX Z J' b n := by
  intro k hk hall
  rw [h5, h6, h7]
  exact h k hk hall
theorem pre_s {K : Nat → Nat} {k : Nat} (hpre : ∀ j, j < a → K j < 32) (h : K a = k) (hk : k < 32) : ∀ j, j < a + 1 → K j < 32 := fun j hj => by
  by_cases hj2 : j < a
  · exact hpre j hj2
  · have ej : j = a := by omega
    rw [ej, h]; exact hk
/-- how it goes on behind a token taken -/
def tS (w : Bool) (nx ns : Nat) (b : Nat → Nat) (n : Nat) (Y : Nat → Nat → Int32) (J : Nat → Nat → Int64) (k a : Nat) (c : Nat → Nat) (Kc : Option Value → mm_M → Prop) : Prop := (pTk (tkK b n) k a).1 = 0 → Kc (some (.int (nI 1))) (nx, ns, SH w, XS b n Y (a + 1) c, J)
def tF (w : Bool) (nx ns : Nat) (b : Nat → Nat) (n : Nat) (Y : Nat → Nat → Int32) (J : Nat → Nat → Int64) (k a : Nat) (Kc : Option Value → mm_M → Prop) : Prop := ¬ (pTk (tkK b n) k a).1 = 0 → ∀ Z, (∀ q, ¬ q = 3 → Z q = Y q) → Z 3 1 = nI (pTk (tkK b n) k a).1 → Z 3 2 = nI (tkp b n a) → Kc (some (.int (nI 0))) (nx, ns, SH w, Z, J)
theorem kx_fin {k : Nat} (h6 : Y 6 a = nI (tkp b n a)) (hS : tS w nx ns b n Y J k a c Kc) (hF : tF w nx ns b n Y J k a Kc) : Kc (some (.int (tkA (tkK b n a) k a))) (nx, ns, SH w, tkY (XS b n Y a c) (tkK b n a) k a, J) := by
  unfold tkA tkY
  by_cases d : tkK b n a = k ∧ a < 400
  · rw [if_pos d, if_pos d, XS_tk]
    exact hS (pTk_0.mpr d)
  · rw [if_neg d, if_neg d]
    have h0 : ¬ (pTk (tkK b n) k a).1 = 0 := fun e => d (pTk_0.mp e)
    refine hF h0 _ (fun q hq => ?_) ?_ ?_
    · rw [up_ne hq]; exact XS_o hq
    · rw [up_at rfl, up_ne (by decide), up_at rfl, pTk_ne h0]
    · rw [up_at rfl, up_at rfl, XS_o (by decide)]; exact h6
theorem kx_take {k : Nat} (hk : k < 100) (hC : CUX Y J b n) (ha : a ≤ 400) (hpre : ∀ j, j < a → tkK b n j < 32) {dd : Nat} (hd : 1 ≤ dd) (hS : tS w nx ns b n Y J k a c Kc) (hF : tF w nx ns b n Y J k a Kc) : EV dd 224 [.ref 3, .int (nI k)] (nx, ns, SH w, XS b n Y a c, J) Kc := by
  obtain ⟨g5, g6, -⟩ := hC a ha hpre
  have hK33 := @tkK_lt n b a
  rw [e_xtk2 (z := tkK b n a) hk (by omega) XS_33 ha (by rw [XS_o (by decide)]; exact g5) hd]
  exact kx_fin g6 hS hF
theorem tkL_ok (h : tkK b n a ≤ 21) : ltok (tkL b n a) := by
  unfold tkL tkn
  unfold tkK tkk at h
  refine ⟨?_, lts_ok _ (Nat.le_refl _)⟩
  rw [lts_len]
  by_cases c1 : n ≤ tkp b n a
  · rw [if_pos c1] at h; omega
  · rw [if_neg c1] at h
    by_cases c2 : isL (b (tkp b n a)) = true
    · rw [if_pos c2] at h
      by_cases c3 : 8 < run isL b n (tkp b n a)
      · rw [if_pos c3] at h; omega
      · omega
    · rw [run_no (fun e => c2 e.2)]; omega
theorem tkV_lt (h : tkK b n a = 22) : tkV b n a ≤ 9999 := by
  unfold tkV tkv
  unfold tkK tkk at h
  by_cases c1 : n ≤ tkp b n a
  · rw [if_pos c1] at h; omega
  · rw [if_neg c1] at h
    by_cases c2 : isL (b (tkp b n a)) = true
    · rw [if_pos c2] at h
      by_cases c3 : 8 < run isL b n (tkp b n a)
      · rw [if_pos c3] at h; omega
      · rw [if_neg c3] at h
        have := @kwk_le (lts b (tkp b n a) (run isL b n (tkp b n a)))
        omega
    · rw [if_neg c2] at h
      by_cases c4 : isD (b (tkp b n a)) = true
      · rw [if_pos c4] at h
        by_cases c3 : 4 < run isD b n (tkp b n a)
        · rw [if_pos c3] at h; omega
        · have h5 := dgv_lt (b := b) (n := n) (i := tkp b n a) (run isD b n (tkp b n a)) (Nat.le_refl _)
          have h6 : 10 ^ run isD b n (tkp b n a) ≤ 10 ^ 4 := Nat.pow_le_pow_right (by omega) (by omega)
          have h7 : (10 : Nat) ^ 4 = 10000 := rfl
          omega
      · rw [if_neg c4] at h
        have := @sgk_no (b (tkp b n a))
        omega
end Qn
