/-! ===== Pairs: a text read ===== -/
section Rw
variable {w : Bool} {nx ns : Nat} {I X Y Z : Nat → Nat → Int32} {J J' : Nat → Nat → Int64} {B B2 lv P H F U nxt T n hb sd : Nat} {L : Nat → Option (List PI × PC)} {tf tm tt te fl nl : Nat → Nat} {f ag oo oi hi : Nat → Int32}
theorem setr_at {f v : Nat → Int32} {bs i k : Nat} (h : bs ≤ k ∧ k < bs + i) : setr f bs i v k = v (k - bs) := if_pos h
theorem bg_al {p : Nat} (hP : P ≤ 6) (hp : p < P) : bgR f ag oo oi hi P H p = nI 1 := by
  unfold bgR
  rw [setr_no (by omega), setr_no (by omega), setr_no (by omega), setr_no (by omega), setr_no (by omega), setr_at (by omega)]
theorem bg_al0 {p : Nat} (hP : P ≤ 6) (hp : P ≤ p) (h6 : p < 6) : bgR f ag oo oi hi P H p = nI 0 := by
  unfold bgR
  rw [setr_no (by omega), setr_no (by omega), setr_no (by omega), setr_no (by omega), setr_no (by omega), setr_no (by omega), setr_no (by omega), setr_at (by omega)]
theorem bg_ag {p : Nat} (hP : P ≤ 6) (hp : p < P) : bgR f ag oo oi hi P H (6 + p) = ag p := by
  unfold bgR
  rw [setr_no (by omega), setr_no (by omega), setr_no (by omega), setr_no (by omega), setr_at (by omega), Nat.add_sub_cancel_left]
theorem bg_sp {p : Nat} (hP : P ≤ 6) (hp : p < 6) : bgR f ag oo oi hi P H (12 + p) = nM2 := by
  unfold bgR
  rw [setr_no (by omega), setr_no (by omega), setr_no (by omega), setr_no (by omega), setr_no (by omega), setr_no (by omega), setr_at (by omega)]
theorem bg_oo {e : Nat} (hP : P ≤ 6) (hH : H ≤ 10) (he : e < H) : bgR f ag oo oi hi P H (18 + e) = oo e := by
  unfold bgR
  rw [setr_no (by omega), setr_no (by omega), setr_at (by omega), Nat.add_sub_cancel_left]
theorem bg_oo0 {e : Nat} (hP : P ≤ 6) (hH : H ≤ 10) (he : H ≤ e) (h10 : e < 10) : bgR f ag oo oi hi P H (18 + e) = nI 0 := by
  unfold bgR
  rw [setr_no (by omega), setr_no (by omega), setr_no (by omega), setr_no (by omega), setr_no (by omega), setr_no (by omega), setr_no (by omega), setr_at (by omega)]
theorem bg_oi {e : Nat} (hP : P ≤ 6) (hH : H ≤ 10) (he : e < H) : bgR f ag oo oi hi P H (28 + e) = oi e := by
  unfold bgR
  rw [setr_no (by omega), setr_at (by omega), Nat.add_sub_cancel_left]
theorem bg_oi0 {e : Nat} (hP : P ≤ 6) (hH : H ≤ 10) (he : H ≤ e) (h10 : e < 10) : bgR f ag oo oi hi P H (28 + e) = nI 0 := by
  unfold bgR
  rw [setr_no (by omega), setr_no (by omega), setr_no (by omega), setr_no (by omega), setr_no (by omega), setr_no (by omega), setr_no (by omega), setr_at (by omega)]
theorem bg_hi {e : Nat} (hH : H ≤ 10) (he : e < H) : bgR f ag oo oi hi P H (38 + e) = hi e := by
  unfold bgR
  rw [setr_at (by omega), Nat.add_sub_cancel_left]
theorem bg_gp {e : Nat} (hP : P ≤ 6) (hH : H ≤ 10) (he : e < 10) : bgR f ag oo oi hi P H (48 + e) = nI 0 := by
  unfold bgR
  rw [setr_no (by omega), setr_no (by omega), setr_no (by omega), setr_no (by omega), setr_no (by omega), setr_no (by omega), setr_no (by omega), setr_at (by omega)]
theorem bg_cl {e : Nat} (hH : H ≤ 10) (he : e < 10) : bgR f ag oo oi hi P H (58 + e) = nM1 := by
  unfold bgR
  rw [setr_no (by omega), setr_no (by omega), setr_no (by omega), setr_at (by omega)]
theorem bg_68 (hP : P ≤ 6) (hH : H ≤ 10) : bgR f ag oo oi hi P H 68 = nI 0 := by
  unfold bgR
  rw [setr_no (by omega), setr_no (by omega), setr_no (by omega), setr_no (by omega), setr_no (by omega), setr_no (by omega), setr_no (by omega), setr_at (by omega)]
theorem bg_9 {k : Nat} (hP : P ≤ 6) (hH : H ≤ 10) (hk : 69 ≤ k) : bgR f ag oo oi hi P H k = f k := by
  unfold bgR
  rw [setr_no (by omega), setr_no (by omega), setr_no (by omega), setr_no (by omega), setr_no (by omega), setr_no (by omega), setr_no (by omega), setr_no (by omega)]
/-- a parish newly told -/
theorem IVb_new {S : TS} (hsd : sd < 2) (hF : S.1 0 ≤ 7) (hP : S.1 1 ≤ 6) (hH : S.1 2 ≤ 10) (h5 : S.1 5 = 0) (hR : TRo S) (hL : TLo S) (x1 : RXc Z (pw w) S.1) (x2 : RXr Z (pw w) S.1 S.2.2.2.1) (x3 : RXl Z (pw w) S.2.2.2.2 400) (m0 : Z 323 18 = nI sd) (m1 : RMc Z sd S.1) (m2 : RMr Z sd S.1 S.2.2.2.1) (m3 : RMz Z sd S.2.2.2.2) (z49 : ∀ k, 9 ≤ k → Z 49 k = nI 0) (zv : ∀ k, 9 ≤ k → Z 356 k = nI 0) (zr : ∀ k, 69 ≤ k → Z 359 k = nI 0) (hf : ∀ k, 69 ≤ k → f k = nI 0) (hnow : Z 358 = bgR f (fun i => Z 335 (6 * sd + i)) (fun i => Z 341 (10 * sd + i)) (fun i => Z 342 (10 * sd + i)) (fun i => Z 343 (10 * sd + i)) (S.1 1) (S.1 2)) (c0 : Z 35 0 = nI 0) (c1 : Z 35 1 = nI (2 ^ S.1 1 - 1)) (c2 : Z 35 2 = nI 0) (c3 : Z 35 3 = nI 0) (c4 : ∀ i, i < S.1 1 → Z 36 i = Z (pw w + 3) i ∧ Z 37 i = nM2) (c5 : ∀ e, e < S.1 2 → Z 39 e = Z (pw w + 7) e ∧ Z 40 e = nI 0) (c6 : ∀ f, f < 2 * S.1 2 → Z 38 f = Z (pw w + 6) f) (c7 : ∀ f, 2 * S.1 2 ≤ f → f < 20 → NoF (S.1 1) (Z 38 f)) (hn : nxt < 40) (h1 : Z 57 1 = nI nxt) (h2 : Z 57 2 = nI 0) (h3 : Z 323 59 = nI 0) (t1 : Z 299 4 = nI 0) (t2 : Z 323 62 = nI 0) (p1 : Z 1 1 = nI 0) (p2 : Z 323 2 = nI 0) (p3 : Z 2 = Z 324) (hpl : Z 3 2 = Z 323 17) (hk : kwR 32 (J 8) ∧ kwR 27 (J 330)) (s1 : Z 0 12 = nI 0) (s2 : ∀ k, k < 3 → Z 368 k = nI 0) : IVb B w Z J sd (S.1 1) (S.1 2) (S.1 0) S.2.2.2.2 (tfN Z) (tmN Z) (ttN Z) (teN Z) (flN Z sd) (nlN Z sd) 0 nxt 0 0 0 := by
  obtain ⟨r0, r1, r2⟩ := m2
  obtain ⟨k0, k1, k2⟩ := x2
  obtain ⟨hR4, hR2⟩ := hR
  obtain ⟨q0, q1, q2⟩ := hR2 h5
  obtain ⟨a0, a1, a2, a3, a4⟩ := m1
  obtain ⟨b0, b1, b2, b3, b4⟩ := x1
  have hri : RI (S.1 1) (S.1 2) (Z 358) := by
    rw [hnow]
    refine ⟨fun p hp => ?_, fun p h1 h2 => bg_al0 hP h1 h2, fun e he => Or.inl (bg_gp hP hH he), fun e h1 h2 => bg_gp hP hH h2, fun k h1 h2 => ?_, fun e he => ⟨Or.inr ?_, Or.inr ?_⟩, fun p hp => ?_, fun e he => ?_, fun e he => Or.inl (bg_cl hH he), fun e _ he => bg_cl hH he, fun p hp => Or.inl (bg_sp hP (by omega))⟩
    · rcases Nat.lt_or_ge p (S.1 1) with c | c
      · exact Or.inr (bg_al hP c)
      · exact Or.inl (bg_al0 hP c hp)
    · rcases Nat.lt_or_ge k 18 with c | c
      · obtain ⟨z, rfl⟩ : ∃ z, k = 12 + z := ⟨k - 12, by omega⟩
        exact Or.inl (bg_sp hP (by omega))
      · rcases Nat.lt_or_ge k 28 with d | d
        · obtain ⟨z, rfl⟩ : ∃ z, k = 18 + z := ⟨k - 18, by omega⟩
          rcases Nat.lt_or_ge z (S.1 2) with e | e
          · rw [bg_oo hP hH e]
            obtain ⟨v, v1, v2⟩ := (q1 z e).2.2.1
            exact Or.inr ⟨v, by omega, by rw [(r1 z e).2.2.1, v2]; rfl⟩
          · rw [bg_oo0 hP hH e (by omega)]; exact Or.inr ⟨0, by omega, rfl⟩
        · obtain ⟨z, rfl⟩ : ∃ z, k = 28 + z := ⟨k - 28, by omega⟩
          rcases Nat.lt_or_ge z (S.1 2) with e | e
          · rw [bg_oi hP hH e]
            obtain ⟨v, v1, v2⟩ := (q1 z e).2.2.2.1
            exact Or.inr ⟨v, by omega, by rw [(r1 z e).2.2.2.1, v2]; rfl⟩
          · rw [bg_oi0 hP hH e (by omega)]; exact Or.inr ⟨0, by omega, rfl⟩
    · obtain ⟨v, v1, v2⟩ := (q1 e he).2.2.1
      exact ⟨v, v1, by rw [bg_oo hP hH he, (r1 e he).2.2.1, v2]; rfl, bg_al hP v1⟩
    · obtain ⟨v, v1, v2⟩ := (q1 e he).2.2.2.1
      exact ⟨v, v1, by rw [bg_oi hP hH he, (r1 e he).2.2.2.1, v2]; rfl, bg_al hP v1⟩
    · obtain ⟨v, v1, v2⟩ := q0 p hp
      exact ⟨v, by omega, by rw [bg_ag hP hp, r0 p hp, v2]; rfl⟩
    · obtain ⟨v, v1, v2⟩ := (q1 e he).2.2.2.2
      exact ⟨v, v1, by rw [bg_hi hH he, (r1 e he).2.2.2.2, v2]; rfl⟩
  have hst : StR Z 35 (S.1 1) (S.1 2) (Z 358) := by
    rw [hnow]
    refine ⟨by rw [bg_68 hP hH]; exact c0, by rw [alN_P hP (fun p hp => bg_al hP hp) (fun p h1 h2 => bg_al0 hP h1 h2)]; exact c1, by rw [gpN_0 (fun e he => bg_gp hP hH he)]; exact c2, by rw [ecN_0 (fun e he => bg_cl hH he)]; exact c3, fun p hp => ?_, fun p hp => ?_, fun f hf => ?_, fun f h1 h2 => ?_, fun e he => ?_, fun e he => ?_⟩
    · rw [(c4 p hp).1, k0 p hp, bg_ag hP hp, r0 p hp]
    · rw [(c4 p hp).2, bg_sp hP (by omega)]
    · rw [c6 f hf]
      rcases fk_cases f with ⟨e, e1, e2⟩ | ⟨e, e1, e2⟩
      · rw [e2, bg_oo hP hH (by omega), e1, (k1 e (by omega)).2.2.1, (r1 e (by omega)).2.2.1]
      · rw [e2, bg_oi hP hH (by omega), e1, (k1 e (by omega)).2.2.2.1, (r1 e (by omega)).2.2.2.1]
    · exact c7 f h1 h2
    · rw [(c5 e he).1, (k1 e he).2.2.2.2, bg_hi hH he, (r1 e he).2.2.2.2]
    · rw [(c5 e he).2]
      unfold cly
      rw [bg_cl hH (by omega), if_neg (by decide)]
  refine ⟨⟨⟨⟨⟨m0, hsd, a1, hP, a2, hH, a0, hF⟩, law_LWS hsd m3 hL, zv, hri.2.2.2.2.1, fun p hp => ⟨?_, ?_⟩, fun k hk => ?_, zr⟩, ⟨b0, b1, b2, by rw [b4, a4], fun a ha => ?_, fun e he => ?_⟩, law_LwR hsd (Nat.le_refl _) x3 m3 hL, z49⟩, hst, hri⟩, ⟨m3, x3, hL⟩, ⟨by omega, hn, h1, h2, h3, fun k hk => by omega⟩, ⟨by omega, t1, t2, fun k hk => by omega⟩, ⟨p1, p2, by omega, p3⟩, hpl, hk, ⟨by omega, s1, fun k hk => by rw [s2 k hk, Nat.zero_testBit]; rfl⟩, fun k _ hb => by rw [Nat.zero_testBit] at hb; exact absurd hb (by decide), ⟨0, by omega, by rw [hnow]; exact bg_68 hP hH⟩, fun k hk => by omega⟩
  · rw [(r2 p hp).1]
    rcases (q2 p hp).1 with e | ⟨v, v1, v2⟩
    · rw [e]; exact Or.inl rfl
    · rw [v2]; exact Or.inr ⟨v, by omega, rfl⟩
  · rw [(r2 p hp).2]
    rcases (q2 p hp).2 with e | ⟨v, v1, v2⟩
    · rw [e]; exact Or.inl rfl
    · rw [v2]; exact Or.inr ⟨v, by omega, rfl⟩
  · rw [hnow, bg_9 hP hH hk]; exact hf k hk
  · rw [(k2 a (by omega)).1, (k2 a (by omega)).2, (r2 a (by omega)).1, (r2 a (by omega)).2]
    exact ⟨rfl, rfl⟩
  · rw [(k1 e he).1, (k1 e he).2.1, (r1 e he).1, (r1 e he).2.1]
    exact ⟨rfl, rfl⟩
/-- a read that failed -/
theorem IVb_fail (h : IVb B w I J lv P H F L tf tm tt te fl nl U nxt T n hb) (a : ∀ q, ¬ q = 1 → ¬ (3 ≤ q ∧ q ≤ 6) → ¬ (pw (!w) ≤ q ∧ q ≤ pw (!w) + 12) → ¬ q = 323 → ¬ (325 ≤ q ∧ q ≤ 355) → Z q = I q) (b : ∀ j, j = 18 ∨ j = 59 ∨ j = 62 → Z 323 j = I 323 j) (c : ∀ q z, LH (1 - lv) q z → Z q z = I q z) (p1 : Z 1 1 = nI 0) (p2 : Z 323 2 = nI 0) (hpl : Z 3 2 = Z 323 17) (hk : kwR 32 (J' 8) ∧ kwR 27 (J' 330)) : IVb B w Z J' lv P H F L (tfN Z) (tmN Z) (ttN Z) (teN Z) (flN Z lv) (nlN Z lv) U nxt T 0 hb := by
  obtain ⟨⟨⟨⟨⟨v0, v1, v2, v3, v4, v5, v6, v7⟩, l1, zv, pb, hhb, zn, zr⟩, ⟨e0, e1, e2, e3, e4, e5⟩, l2, z49⟩, hst, hri⟩, ⟨g1, g2, g3⟩, hs, ht, ⟨t1, t2, t3, t4⟩, -, -, ⟨u1, u2, u3⟩, hh, hy, hyu⟩ := h
  have o : ∀ q, (pw w ≤ q ∧ q ≤ pw w + 12) → Z q = I q := fun q hq => by
    have hp := pw_or w
    have hp2 := pw_or (!w)
    have hne : ¬ pw w = pw (!w) := by cases w <;> decide
    exact a q (by omega) (by omega) (by omega) (by omega) (by omega)
  have k : ∀ q, (q = 0 ∨ q = 2 ∨ (35 ≤ q ∧ q ≤ 322) ∨ q = 324 ∨ (356 ≤ q ∧ q ≤ 369)) → Z q = I q := fun q hq => by
    have hp2 := pw_or (!w)
    exact a q (by omega) (by omega) (by omega) (by omega) (by omega)
  have y1 : RMz Z lv L := RMz_fr v1 g1 c
  have y2 : RXl Z (pw w) L 400 := RXl_f g2 (fun q h1 h2 => o q (by omega)) (Nat.le_refl _)
  have en : Z 358 = I 358 := k _ (by decide)
  refine ⟨⟨⟨⟨⟨by rw [b _ (by decide)]; exact v0, v1, by rw [c _ _ (by unfold LH; omega)]; exact v2, v3, by rw [c _ _ (by unfold LH; omega)]; exact v4, v5, by rw [c _ _ (by unfold LH; omega)]; exact v6, v7⟩, law_LWS v1 y1 g3, fun z hz => by rw [k _ (by decide)]; exact zv z hz, by rw [en]; exact pb, fun p hp => ?_, fun z hz => by rw [en]; exact zn z hz, fun z hz => by rw [k _ (by decide)]; exact zr z hz⟩, ⟨by rw [o _ (by omega)]; exact e0, by rw [o _ (by omega)]; exact e1, by rw [o _ (by omega)]; exact e2, ?_, fun x hx => ?_, fun x hx => ?_⟩, law_LwR v1 (Nat.le_refl _) y2 y1 g3, fun z hz => by rw [k _ (by omega)]; exact z49 z hz⟩, by rw [en]; exact StR_fr hst (fun q h1 h2 => k q (by omega)), by rw [en]; exact hri⟩, ⟨y1, y2, g3⟩, HsR_f hs (k 57 (by omega)) (b _ (by decide)) (k _ (by decide)) (fun q h1 h2 => k q (by omega)), TdR_f ht (by rw [k 299 (by omega)]) (b _ (by decide)) (fun q hq => k q (by omega)), ⟨p1, p2, by omega, by rw [k 2 (by omega), k _ (by decide)]; exact t4⟩, hpl, hk, ⟨u1, by rw [k 0 (by omega)]; exact u2, fun z hz => by rw [k _ (by decide)]; exact u3 z hz⟩, fun z h1 h2 => ?_, by rw [en]; exact hy, fun z hz => by rw [k _ (by decide)]; exact hyu z hz⟩
  · rw [c _ _ (by unfold LH; omega), c _ _ (by unfold LH; omega)]
    exact hhb p hp
  · rw [o _ (by omega), c _ _ (by unfold LH; omega)]
    exact e3
  · have hx6 : x < 6 := by omega
    rw [o (pw w + 4) (by omega), c _ _ (by unfold LH; omega), c _ _ (by unfold LH; omega)]
    exact e4 x hx
  · rw [o (pw w + 5) (by omega), c _ _ (by unfold LH; omega), c _ _ (by unfold LH; omega)]
    exact e5 x hx
  · rw [k 369 (by decide)]
    obtain ⟨d1, d2, d3⟩ := hh z h1 h2
    exact ⟨StR_fr d1 (fun q h3 h4 => k q (by omega)), d2, d3⟩
end Rw
