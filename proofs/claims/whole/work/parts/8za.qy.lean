/-! ===== The reference: fields, people, seeds ===== -/
/-- a law told lies in branches and codes -/
def RMk (Y : Nat → Nat → Int32) (C D br cd b0 c0 : Nat) (l : List PI) (c : PC) : Prop := BR (Y 348) (Y 349) (Y 350) (Y 351) (Y 352) b0 c0 l c ∧ D ≤ 4 * b0 ∧ b0 + l.length + 1 ≤ br ∧ C ≤ c0 ∧ c0 + (flc l c).length ≤ cd ∧ ∀ i x, (flc l c)[i]? = some x → Y 353 (c0 + i) = nI x.1 ∧ Y 354 (c0 + i) = x.2
def RMl (Y : Nat → Nat → Int32) (sd : Nat) (L : Nat → Option (List PI × PC)) (a : Nat) : Prop := ∃ br cd, Y 323 38 = nI br ∧ Y 323 44 = nI cd ∧ 420 * sd ≤ cd ∧ cd ≤ 420 * sd + a ∧ 520 * sd ≤ 4 * br ∧ 4 * br ≤ 520 * sd + a ∧ ∀ k, k < 4 → (L k = none → Y 346 (4 * sd + k) = nI 0 ∧ Y 347 (4 * sd + k) = nI 0) ∧ ∀ x, L k = some x → ∃ b0 c0, Y 346 (4 * sd + k) = nI b0 ∧ Y 347 (4 * sd + k) = nI (b0 + x.1.length + 1) ∧ RMk Y (420 * sd) (520 * sd) br cd b0 c0 x.1 x.2
def RMr (Y : Nat → Nat → Int32) (sd : Nat) (c : Nat → Nat) (R : Nat → Nat → Option Nat) : Prop := (∀ i, i < c 1 → Y 335 (6 * sd + i) = ovk (R 0 i)) ∧ (∀ e, e < c 2 → Y 339 (10 * sd + e) = ovk (R 1 e) ∧ Y 340 (10 * sd + e) = ovk (R 2 e) ∧ Y 341 (10 * sd + e) = ovk (R 3 e) ∧ Y 342 (10 * sd + e) = ovk (R 4 e) ∧ Y 343 (10 * sd + e) = ovk (R 5 e)) ∧ ∀ i, i < 6 → Y 336 (6 * sd + i) = ovk (R 6 i) ∧ Y 337 (6 * sd + i) = ovk (R 7 i)
def RMc (Y : Nat → Nat → Int32) (sd : Nat) (c : Nat → Nat) : Prop := Y 333 sd = nI (c 0) ∧ Y 334 sd = nI (c 1) ∧ Y 338 sd = nI (c 2) ∧ Y 344 sd = nI (c 3) ∧ Y 345 sd = nI (c 4)
def RM0 (Y : Nat → Nat → Int32) (sd : Nat) : Prop := Y 323 13 = nI 0 ∧ Y 323 12 = nI 0 ∧ Y 323 19 = nI sd
/-- the side sd holds what is told so far -/
def RMd (Y : Nat → Nat → Int32) (J : Nat → Nat → Int64) (sd : Nat) (S : TS) (a : Nat) : Prop := RM0 Y sd ∧ RMc Y sd S.1 ∧ RMn Y J S ∧ (S.1 5 = 0 → RMr Y sd S.1 S.2.2.2.1) ∧ RMl Y sd S.2.2.2.2 a
def uS (w : Bool) (nx ns : Nat) (b : Nat → Nat) (n : Nat) (Y : Nat → Nat → Int32) (J : Nat → Nat → Int64) (sd : Nat) (r : Nat × Nat × TS) (Kc : Option Value → mm_M → Prop) : Prop := r.1 = 0 → ∀ Y' J', RMd Y' J' sd r.2.2 r.2.1 → FR sd Y Y' → JM J J' → Kc none (nx, ns, SH w, RS b n Y' r.2.1 r.2.2.1, J')
def uF (w : Bool) (nx ns : Nat) (b : Nat → Nat) (n : Nat) (Y : Nat → Nat → Int32) (J : Nat → Nat → Int64) (sd : Nat) (r : Nat × Nat × TS) (Kc : Option Value → mm_M → Prop) : Prop := ¬ r.1 = 0 → ∀ Z J', FR sd Y Z → JM J J' → Z 323 13 = nI r.1 → Z 323 14 = nI (tkp b n r.2.1) → Kc none (nx, ns, SH w, Z, J')
section Qy
variable {w : Bool} {nx ns : Nat} {X Y Z : Nat → Nat → Int32} {J J' : Nat → Nat → Int64} {n a v q sd fv pl : Nat} {b c : Nat → Nat} {S : TS} {Kc : Option Value → mm_M → Prop}
theorem fq_fr (h : FQ Y Z fv pl) (h0 : FR sd X Y) : FR sd X Z := FR_323 h0 h.1 (fun j h1 h2 => h.2.1 j h1)
theorem oe_nn {r : Option Nat} : oe r none = r := by cases r <;> rfl
theorem km_room {m l : Nat} (hm : m < 100) (hl : l < 100) (hX : Y 323 13 = nI 0) (hC : CUM Y J b n) (ha : a ≤ 400) (hpre : ∀ j, j < a → tkK b n j < 32) {dd : Nat} (hd : 3 ≤ dd) (hS : ¬ m = l → a < 400 → Kc none (nx, ns, SH w, RS b n Y (a + 1) c, J)) (hF : m = l ∨ ¬ a < 400 → ∀ Z, FQ Y Z 2 (tkp b n a) → Kc none (nx, ns, SH w, Z, J)) : EV dd 76 [.ref 323, .int (nI m), .int (nI l)] (nx, ns, SH w, RS b n Y a c, J) Kc := by
  have hM := CUM_at hC ha hpre
  have g6 : RS b n Y a c 327 a = nI (tkp b n a) := hM.2.1
  by_cases d : m = l
  · subst d
    rw [e_mroom0 (Y := RS b n Y a c) hm hX RS_t ha hd]
    refine hF (Or.inl rfl) _ ⟨fun q hq => ?_, fun j hj => ?_, rfl, ?_⟩
    · rw [up_ne hq]; exact RS_o hq
    · rw [up_at rfl, up_ne (by omega), up_ne (by omega)]; exact RS_j (by omega) (by omega) (by omega)
    · rw [up_at rfl, up_at rfl]; exact g6
  · by_cases d2 : a < 400
    · rw [e_mroom1 (Y := RS b n Y a c) hm hl d hX RS_t d2 hd]
      have := @RS_go Y n a b c (a + 1)
      rw [show mm_up (RS b n Y a c) 323 (mm_up (RS b n Y a c 323) 11 (nI (a + 1))) = RS b n Y (a + 1) c from this]
      exact hS d d2
    · have e4 : a = 400 := by omega
      rw [e_mroomG (Y := RS b n Y a c) hm hl d hX (by rw [← e4]; exact RS_t) hd]
      refine hF (Or.inr d2) _ ⟨fun q hq => ?_, fun j hj => ?_, rfl, ?_⟩
      · rw [up_ne hq]; exact RS_o hq
      · rw [up_at rfl, up_ne (by omega), up_ne (by omega)]; exact RS_j (by omega) (by omega) (by omega)
      · rw [up_at rfl, up_at rfl, ← e4]; exact g6
theorem km_ends {s m : Nat} {x : Int32} (hs : s ≤ 400) (hX : Y 323 13 = nI 0) (hm : Y 323 20 = nI m) (hm2 : m < 13) (hC : CUM Y J b n) (ha : a ≤ 400) (hpre : ∀ j, j < a → tkK b n j < 32) {dd : Nat} (hd : 4 ≤ dd) (hS : (pTk (tkK b n) 23 a).1 = 0 → Kc none (nx, ns, SH w, RS b n (mm_up (mm_up Y 332 (mm_up (Y 332) m x)) 323 (mm_up (Y 323) 20 (nI (m + 1)))) (a + 1) c, mm_up J 331 (mm_up (J 331) m (J 329 s)))) (hF : ¬ (pTk (tkK b n) 23 a).1 = 0 → ∀ Z, FQ Y Z (pTk (tkK b n) 23 a).1 (tkp b n a) → Kc none (nx, ns, SH w, Z, J)) : EV dd 79 [.ref 323, .int (nI s), .int x] (nx, ns, SH w, RS b n Y a c, J) Kc := by
  have hM := CUM_at hC ha hpre
  by_cases d : (pTk (tkK b n) 23 a).1 = 0
  · obtain ⟨d1, d2⟩ := pTk_0.mp d
    have hk5 : RS b n Y a c 326 a = nI (rk 23) := by rw [← d1]; exact hM.1
    rw [e_mends1 (Y := RS b n Y a c) d2 hs hX RS_t hk5 hm hm2 hd]
    have e1 : mm_up (mm_up (RS b n Y a c) 332 (mm_up (RS b n Y a c 332) m x)) 323 (mm_up (mm_up (RS b n Y a c 323) 11 (nI (a + 1))) 20 (nI (m + 1))) = RS b n (mm_up (mm_up Y 332 (mm_up (Y 332) m x)) 323 (mm_up (Y 323) 20 (nI (m + 1)))) (a + 1) c := by
      rw [RS_o (show ¬ 332 = 323 by decide), RS_up (by decide)]
      have h1 := @RS_u (mm_up Y 332 (mm_up (Y 332) m x)) n (a + 1) b c 20 (nI (m + 1)) (by decide) (by decide) (by decide)
      have h2 := @RS_go (mm_up Y 332 (mm_up (Y 332) m x)) n a b c (a + 1)
      rw [← h2, mm_up_up, up_at rfl] at h1
      exact h1
    rw [e1]
    exact hS d
  · rw [e_mends0 (Y := RS b n Y a c) (z := tkK b n a) tkK_lt (fun e => d (pTk_0.mpr e)) ha hX RS_t hM.1 hd]
    exact hF d _ (fq_mu hX hM ha d)
theorem RMn_f {S2 : TS} (h : RMn Y J S) (h1 : Z 323 20 = Y 323 20) (h2 : Z 332 = Y 332) (h3 : J' 331 = J 331) (e0 : S2.1 0 = S.1 0) (e1 : S2.1 1 = S.1 1) (e2 : S2.2.1 = S.2.1) (e3 : S2.2.2.1 = S.2.2.1) : RMn Z J' S2 := by
  unfold RMn
  rw [h1, h2, h3, e0, e1, e2, e3]
  exact h
theorem oe_some {r : Option Nat} {P : Prop} [Decidable P] {v : Nat} : (oe r (if P then some v else none)).isSome = true ↔ r.isSome = true ∨ P := by
  cases r with
  | none =>
    rw [oe_n]
    by_cases c : P
    · rw [if_pos c]; simp [c]
    · rw [if_neg c]; simp [c]
  | some x => rw [oe_s]; simp
/-- a name put down: kd = 0 a field's, kd = 10 a person's -/
theorem RMn_app {S2 : TS} {x : List Nat} {kd : Nat} {s : Nat} (h : RMn Y J S) (hx : ltok x) (hs : J 329 s = lN (enc 27 x)) (hO : (∀ i, i < S.1 0 → ltok (S.2.1 i)) ∧ ∀ i, i < S.1 1 → ltok (S.2.2.1 i)) (hk : (kd = 0 ∧ S.1 0 < 7 ∧ S2.1 0 = S.1 0 + 1 ∧ S2.1 1 = S.1 1 ∧ S2.2.1 = mm_up S.2.1 (S.1 0) x ∧ S2.2.2.1 = S.2.2.1 ∧ v = S.1 0) ∨ (kd = 10 ∧ S.1 1 < 6 ∧ S2.1 0 = S.1 0 ∧ S2.1 1 = S.1 1 + 1 ∧ S2.2.1 = S.2.1 ∧ S2.2.2.1 = mm_up S.2.2.1 (S.1 1) x ∧ v = 10 + S.1 1)) (hZ1 : Z 323 20 = nI (S.1 0 + S.1 1 + 1)) (hZ2 : Z 332 = mm_up (Y 332) (S.1 0 + S.1 1) (nI v)) (hJ : J' 331 = mm_up (J 331) (S.1 0 + S.1 1) (J 329 s)) : RMn Z J' S2 := by
  obtain ⟨A, n1, n2, n3⟩ := h
  have em : S2.1 0 + S2.1 1 = S.1 0 + S.1 1 + 1 := by omega
  unfold RMn
  rw [em]
  generalize hm : S.1 0 + S.1 1 = m at n1 n2 n3 hZ1 hZ2 hJ
  have hv20 : v < 20 := by omega
  refine ⟨mm_up A m v, hZ1, fun i hi => ?_, fun y hy => ?_⟩
  · rw [hZ2]
    by_cases e : i = m
    · rw [up_at e, up_at e]; exact ⟨rfl, hv20⟩
    · rw [up_ne e, up_ne e]; exact n2 i (by omega)
  · rw [hJ, hs]
    obtain ⟨a1, a2, a3⟩ := n3 y hy
    have kn : ∀ bs, knw (mm_up (J 331) m (lN (enc 27 x))) (mm_up A m v) (lN (enc 27 y)) bs (m + 1) 0 = oe (knw (J 331) A (lN (enc 27 y)) bs m 0) (if x = y ∧ bs ≤ v ∧ v < bs + 10 then some (v - bs) else none) := by
      intro bs
      rw [knw_sn, knw_cg (N := J 331) (A := A) m 0 (fun j h1 h2 => ⟨up_ne (by omega), up_ne (by omega)⟩), Nat.zero_add, up_at rfl, up_at rfl]
      simp only [enc_eq (B := 27) (by omega) (by omega) hx hy]
    have ki : isIn (mm_up (J 331) m (lN (enc 27 x))) (lN (enc 27 y)) (m + 1) 0 = true ↔ isIn (J 331) (lN (enc 27 y)) m 0 = true ∨ x = y := by
      rw [isIn_sn, isIn_cg (N := J 331) m 0 (fun j h1 h2 => up_ne (by omega)), Nat.zero_add, up_at rfl]
      simp only [Bool.or_eq_true, decide_eq_true_eq, enc_eq (B := 27) (by omega) (by omega) hx hy]
    rw [kn, kn, ki, a1, a2, a3]
    rcases hk with ⟨-, k1, k2, k3, k4, k5, k6⟩ | ⟨-, k1, k2, k3, k4, k5, k6⟩
    · rw [k2, k3, k4, k5, lk_up, k6]
      refine ⟨?_, ?_, ?_⟩
      · congr 1
        by_cases c : x = y
        · rw [if_pos c, if_pos ⟨c, by omega, by omega⟩]; rfl
        · rw [if_neg c, if_neg (fun h => c h.1)]
      · rw [if_neg (fun h => by omega), oe_nn]
      · rw [oe_some]
        constructor
        · rintro ((h | h) | h)
          · exact Or.inl (Or.inl h)
          · exact Or.inr h
          · exact Or.inl (Or.inr h)
        · rintro ((h | h) | h)
          · exact Or.inl (Or.inl h)
          · exact Or.inr h
          · exact Or.inl (Or.inr h)
    · rw [k2, k3, k4, k5, lk_up, k6]
      refine ⟨?_, ?_, ?_⟩
      · rw [if_neg (fun h => by omega), oe_nn]
      · congr 1
        by_cases c : x = y
        · rw [if_pos c, if_pos ⟨c, by omega, by omega⟩, Nat.add_sub_cancel_left]
        · rw [if_neg c, if_neg (fun h => c h.1)]
      · rw [oe_some]
        constructor
        · rintro ((h | h) | h)
          · exact Or.inl h
          · exact Or.inr (Or.inl h)
          · exact Or.inr (Or.inr h)
        · rintro (h | h | h)
          · exact Or.inl (Or.inl h)
          · exact Or.inl (Or.inr h)
          · exact Or.inr h
end Qy
