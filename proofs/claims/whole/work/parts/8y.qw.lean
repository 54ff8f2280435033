/-! ===== The reference: statements ===== -/
/-- it lies in the half that is not read into -/
def LH (sd q z : Nat) : Prop := ((q = 333 ∨ q = 334 ∨ q = 338 ∨ q = 344 ∨ q = 345) ∧ ¬ z = sd) ∨ ((335 ≤ q ∧ q ≤ 337) ∧ (z < 6 * sd ∨ 6 * sd + 6 ≤ z)) ∨ ((339 ≤ q ∧ q ≤ 343) ∧ (z < 10 * sd ∨ 10 * sd + 10 ≤ z)) ∨ ((q = 346 ∨ q = 347) ∧ (z < 4 * sd ∨ 4 * sd + 4 ≤ z)) ∨ ((348 ≤ q ∧ q ≤ 352) ∧ (4 * z < 520 * sd ∨ 520 * sd + 520 ≤ 4 * z)) ∨ ((q = 353 ∨ q = 354) ∧ (z < 420 * sd ∨ 420 * sd + 420 ≤ z))
/-- what may have changed -/
def FR (sd : Nat) (Y Z : Nat → Nat → Int32) : Prop := (∀ q, ¬ q = 323 → ¬ (332 ≤ q ∧ q ≤ 355) → Z q = Y q) ∧ (∀ j, ¬ (11 ≤ j ∧ j ≤ 16) → ¬ j = 20 → ¬ j = 38 → ¬ j = 44 → ¬ j = 48 → Z 323 j = Y 323 j) ∧ ∀ q z, LH sd q z → Z q z = Y q z
def JM (J J' : Nat → Nat → Int64) : Prop := ∀ q, ¬ q = 331 → J' q = J q
/-- the reference at token a, wrong as c says -/
def RS (b : Nat → Nat) (n : Nat) (Y : Nat → Nat → Int32) (a : Nat) (c : Nat → Nat) : Nat → Nat → Int32 := mm_up Y 323 (mm_up (mm_up (mm_up (Y 323) 11 (nI a)) 15 (nI (c 5))) 16 (if c 5 = 0 then Y 323 16 else nI (tkp b n (c 6))))
section Qw
variable {w : Bool} {nx ns : Nat} {X Y Z : Nat → Nat → Int32} {J J' : Nat → Nat → Int64} {n a v q sd : Nat} {b c : Nat → Nat} {S : TS} {Kc : Option Value → mm_M → Prop}
theorem FR_rf : FR sd Y Y := ⟨fun _ _ _ => rfl, fun _ _ _ _ _ _ => rfl, fun _ _ _ => rfl⟩
theorem FR_tr (h1 : FR sd X Y) (h2 : FR sd Y Z) : FR sd X Z := ⟨fun q a b => (h2.1 q a b).trans (h1.1 q a b), fun j a b c d e => (h2.2.1 j a b c d e).trans (h1.2.1 j a b c d e), fun q z h => (h2.2.2 q z h).trans (h1.2.2 q z h)⟩
theorem FR_up {z : Nat} {x : Int32} (h : FR sd Y Z) (hq : 332 ≤ q ∧ q ≤ 355) (hz : ¬ LH sd q z) : FR sd Y (mm_up Z q (mm_up (Z q) z x)) := by
  refine ⟨fun q2 a b => ?_, fun j a b c d e => ?_, fun q2 z2 hl => ?_⟩
  · rw [up_ne (by omega)]; exact h.1 q2 a b
  · rw [up_ne (by omega)]; exact h.2.1 j a b c d e
  · by_cases e : q2 = q
    · subst e
      rw [up_at rfl]
      by_cases e2 : z2 = z
      · subst e2; exact absurd hl hz
      · rw [up_ne e2]; exact h.2.2 _ _ hl
    · rw [up_ne e]; exact h.2.2 _ _ hl
theorem FR_323 (h : FR sd Y Z) (h1 : ∀ q, ¬ q = 323 → X q = Z q) (h2 : ∀ j, ¬ (11 ≤ j ∧ j ≤ 16) → ¬ j = 20 → X 323 j = Z 323 j) : FR sd Y X := by
  refine ⟨fun q2 a b => ?_, fun j a b c d e => ?_, fun q2 z2 hl => ?_⟩
  · rw [h1 q2 a]; exact h.1 q2 a b
  · rw [h2 j a b]; exact h.2.1 j a b c d e
  · rw [h1 q2 (by unfold LH at hl; omega)]; exact h.2.2 _ _ hl
theorem RS_t : RS b n Y a c 323 11 = nI a := rfl
theorem RS_w : RS b n Y a c 323 15 = nI (c 5) := rfl
theorem RS_16 : RS b n Y a c 323 16 = if c 5 = 0 then Y 323 16 else nI (tkp b n (c 6)) := rfl
theorem RS_o (hq : ¬ q = 323) : RS b n Y a c q = Y q := up_ne hq
theorem RS_j {j : Nat} (h1 : ¬ j = 11) (h2 : ¬ j = 15) (h3 : ¬ j = 16) : RS b n Y a c 323 j = Y 323 j := by
  unfold RS
  rw [up_at rfl, up_ne h3, up_ne h2, up_ne h1]
theorem RS_fl : RS b n Y a c 323 13 = Y 323 13 := rfl
theorem RS_sd : RS b n Y a c 323 19 = Y 323 19 := rfl
theorem RS_nm : RS b n Y a c 323 20 = Y 323 20 := rfl
theorem RS_up {f : Nat → Int32} (hq : ¬ q = 323) : mm_up (RS b n Y a c) q f = RS b n (mm_up Y q f) a c := by
  unfold RS
  have e : mm_up Y q f 323 = Y 323 := up_ne (fun e => hq e.symm)
  rw [e]
  funext z
  by_cases h1 : z = q
  · subst h1
    rw [up_at rfl, up_ne hq, up_at rfl]
  · rw [up_ne h1]
    by_cases h2 : z = 323
    · subst h2
      rw [up_at rfl, up_at rfl]
    · rw [up_ne h2, up_ne h2, up_ne h1]
theorem RS_go {x : Nat} : mm_up (RS b n Y a c) 323 (mm_up (RS b n Y a c 323) 11 (nI x)) = RS b n Y x c := by
  unfold RS
  rw [mm_up_up, up_at rfl]
  congr 1
  funext j
  simp only [mm_up_app]
  by_cases h3 : j = 11
  · subst h3; rfl
  · simp only [h3, if_false]
theorem RS_u {j : Nat} {x : Int32} (h1 : ¬ j = 11) (h2 : ¬ j = 15) (h3 : ¬ j = 16) : mm_up (RS b n Y a c) 323 (mm_up (RS b n Y a c 323) j x) = RS b n (mm_up Y 323 (mm_up (Y 323) j x)) a c := by
  unfold RS
  rw [mm_up_up, mm_up_up, up_at rfl, up_at rfl, up_ne (fun e => h3 e.symm)]
  congr 1
  funext z
  simp only [mm_up_app]
  by_cases e : z = j
  · subst e; simp [h1, h2, h3]
  · simp only [e, if_false]
theorem RS_wr {P : Prop} [Decidable P] {t : Nat} (hv : 0 < v) (hc : c 5 < 100) (h6 : Y 327 t = nI (tkp b n t)) : wrM (RS b n Y a c) t v P = RS b n Y a (nt c v t P) := by
  unfold wrM nt
  rw [show RS b n Y a c 323 15 = nI (c 5) from rfl]
  by_cases d : P ∧ c 5 = 0
  · rw [if_pos d, if_pos ⟨d.1, by rw [d.2]⟩, show RS b n Y a c 327 t = nI (tkp b n t) from h6]
    unfold RS
    rw [mm_up_up, up_at rfl]
    have e5 : mm_up (mm_up c 5 v) 6 t 5 = v := by rw [up_ne (by decide), up_at rfl]
    have e6 : mm_up (mm_up c 5 v) 6 t 6 = t := up_at rfl
    rw [e5, e6, if_neg (show ¬ v = 0 by omega)]
    congr 1
    funext j
    simp only [mm_up_app]
    by_cases h5 : j = 16
    · simp only [h5, if_true]
    · by_cases h4 : j = 15
      · simp [h4]
      · simp only [h5, h4, if_false]
  · rw [if_neg d, if_neg (fun e => d ⟨e.1, (nI_eq (by omega) (by omega)).mp e.2⟩)]
theorem RS_self (h3 : Y 323 11 = nI a) (h4 : Y 323 15 = nI (c 5)) (h5 : ¬ c 5 = 0 → Y 323 16 = nI (tkp b n (c 6))) : RS b n Y a c = Y := by
  unfold RS
  have e : (if c 5 = 0 then Y 323 16 else nI (tkp b n (c 6))) = Y 323 16 := by
    by_cases d : c 5 = 0
    · rw [if_pos d]
    · rw [if_neg d, h5 d]
  rw [mm_up_of (f := Y 323) (k := 11) h3, mm_up_of (f := Y 323) (k := 15) h4, e, mm_up_id, mm_up_id]
theorem CUM_f (h : CUM Y J b n) (h5 : Z 326 = Y 326) (h6 : Z 327 = Y 327) (h7 : Z 328 = Y 328) (h8 : J' 329 = J 329) : CUM Z J' b n := by
  intro k hk hall
  unfold CMk
  rw [h5, h6, h7, h8]
  exact h k hk hall
theorem CUM_at (h : CUM Y J b n) (ha : a ≤ 400) (hp : ∀ j, j < a → tkK b n j < 32) : CMk Y J b n a := h a ha (fun j hj => by have := hp j hj; omega)
theorem tkp_s (h : tkK b n a < 32) : tkp b n a < tkp b n (a + 1) := by
  have h1 : tkp b n (a + 1) = skp b n (tkp b n a + tkl b n (tkp b n a)) := rfl
  have h2 : tkp b n a + tkl b n (tkp b n a) ≤ skp b n (tkp b n a + tkl b n (tkp b n a)) := by unfold skp; omega
  have h3 : 1 ≤ tkl b n (tkp b n a) := by
    unfold tkK tkk at h
    unfold tkl
    by_cases c1 : n ≤ tkp b n a
    · rw [if_pos c1] at h; omega
    · rw [if_neg c1]
      by_cases c2 : isL (b (tkp b n a)) = true
      · rw [if_pos c2, run_yes (by omega) c2]; omega
      · rw [if_neg c2]
        by_cases c3 : isD (b (tkp b n a)) = true
        · rw [if_pos c3, run_yes (by omega) c3]; omega
        · rw [if_neg c3]; omega
  omega
theorem tkp_lt {j : Nat} : ∀ k, j < k → (∀ i, i < k → tkK b n i < 32) → tkp b n j < tkp b n k := by
  intro k
  induction k with
  | zero => intro h; omega
  | succ k ih =>
    intro h hp
    have h1 := tkp_s (hp k (by omega))
    by_cases e : j = k
    · rw [e]; exact h1
    · have := ih (by omega) (fun i hi => hp i (by omega))
      omega
/-- what is wrong stands ahead of a token -/
theorem hOw_of {t : Nat} (hn : n ≤ 2000) (hp : ∀ j, j < t → tkK b n j < 32) (hc : c 5 < 100) (hq : c 5 = 0 ∨ c 6 < t) (h6 : Y 327 t = nI (tkp b n t)) : ¬ RS b n Y a c 323 15 = nI 0 → RS b n Y a c 323 16 < RS b n Y a c 327 t := by
  intro h
  have h1 : ¬ c 5 = 0 := fun e => h (by show nI (c 5) = nI 0; rw [e])
  have h2 := tkp_lt (b := b) (n := n) (j := c 6) t (by omega) hp
  have h3 := @tkp_le b n t
  show (if c 5 = 0 then Y 323 16 else nI (tkp b n (c 6))) < Y 327 t
  rw [if_neg h1, h6, nI_ltI (by omega) (by omega)]
  exact h2
end Qw
