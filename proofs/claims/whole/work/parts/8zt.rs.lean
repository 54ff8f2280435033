/-! ===== Pairs: told, undone, held ===== -/
section Rs
variable {w : Bool} {nx ns : Nat} {I X Y : Nat → Nat → Int32} {J J' : Nat → Nat → Int64} {B B2 lv P H F U nxt T n hb U2 nxt2 hb2 : Nat} {L : Nat → Option (List PI × PC)} {tf tm tt te fl nl : Nat → Nat}
theorem XQ_now (h : XQ I w lv P H F tf tm tt te fl nl) (g : ∀ b, (9 ≤ b ∧ b ≤ 34) ∨ (333 ≤ b ∧ b ≤ 354) → X b = I b) (g18 : X 323 18 = I 323 18) (z49 : ∀ k, 9 ≤ k → X 49 k = nI 0) (zv : ∀ k, 9 ≤ k → X 356 k = nI 0) (zr : ∀ k, 69 ≤ k → X 359 k = nI 0) (zn : ∀ k, 69 ≤ k → X 358 k = nI 0) (hs : StR X 35 P H (X 358)) (hr : RI P H (X 358)) : XQ X w lv P H F tf tm tt te fl nl := by
  obtain ⟨Z, hZ⟩ : ∃ Z : Nat → Nat → Int32, Z = fun b => if (35 ≤ b ∧ b ≤ 40) ∨ b = 358 then I b else X b := ⟨_, rfl⟩
  have e : ∀ b, ¬ ((35 ≤ b ∧ b ≤ 40) ∨ b = 358) → Z b = X b := fun b hb => by rw [hZ]; simp only; rw [if_neg hb]
  have hz : Fx I Z := by
    refine ⟨fun b hb => ?_, by rw [e 323 (by omega)]; exact g18, fun k hk => by rw [e 49 (by omega)]; exact z49 k hk, fun k hk => by rw [e _ (by decide)]; exact zv k hk, fun k hk => by rw [e _ (by decide)]; exact zr k hk⟩
    by_cases c : (35 ≤ b ∧ b ≤ 40) ∨ b = 358
    · rw [hZ]; simp only; rw [if_pos c]
    · rw [e b c]; exact g b (by omega)
  obtain ⟨⟨⟨m1, m2, m3, m4, m5, m6, m7⟩, p1, l1, z1⟩, -, -⟩ := XQ_fx h hz
  have hp := pw_or w
  have ee : ∀ b, 333 ≤ b → b ≤ 354 → Z b = X b := fun b g1 g2 => e b (by omega)
  have ep : ∀ b, 9 ≤ b → b ≤ 34 → Z b = X b := fun b g1 g2 => e b (by omega)
  refine ⟨⟨⟨?_, ?_, zv, hr.2.2.2.2.1, ?_, zn, zr⟩, ?_, ?_, z49⟩, hs, hr⟩
  · unfold LV at m1 ⊢
    rw [← e 323 (by omega), ← ee 334 (by decide) (by decide), ← ee 338 (by decide) (by decide), ← ee 333 (by decide) (by decide)]
    exact m1
  · intro k hk
    obtain ⟨a1, a2, a3, a4⟩ := m2 k hk
    refine ⟨by rw [← ee _ (by decide) (by decide)]; exact a1, by rw [← ee _ (by decide) (by decide)]; exact a2, a3, fun z g1 g2 => ?_⟩
    have b1 := a4 z g1 g2
    unfold m_bok at b1 ⊢
    rw [← ee 351 (by decide) (by decide), ← ee 352 (by decide) (by decide), ← ee 353 (by decide) (by decide), ← ee 354 (by decide) (by decide), ← ee 348 (by decide) (by decide), ← ee 349 (by decide) (by decide), ← ee 350 (by decide) (by decide)]
    exact b1
  · intro p hp
    rw [← ee 336 (by decide) (by decide), ← ee 337 (by decide) (by decide)]
    exact m5 p hp
  · unfold PaR at p1 ⊢
    rw [← ep (pw w) (by omega) (by omega), ← ep (pw w + 4) (by omega) (by omega), ← ep (pw w + 5) (by omega) (by omega), ← ee 345 (by decide) (by decide), ← ee 336 (by decide) (by decide), ← ee 337 (by decide) (by decide), ← ee 339 (by decide) (by decide), ← ee 340 (by decide) (by decide)]
    exact p1
  · intro k hk
    obtain ⟨f, B, a1, a2, a3, a4, a5, a6⟩ := l1 k hk
    have eav : m_av Z tf tm tt te fl nl = m_av X tf tm tt te fl nl := av_congr (ee _ (by decide) (by decide)) (ee _ (by decide) (by decide)) (ee _ (by decide) (by decide))
    rw [← ep (pw w + 9) (by omega) (by omega), ← ep (pw w + 10) (by omega) (by omega), ← ep (pw w + 11) (by omega) (by omega), ← ep (pw w + 12) (by omega) (by omega), ← eav]
    exact ⟨f, B, a1, a2, a3, a4, a5, a6⟩
/-- what is now has changed -/
theorem IVb_mk2 (h : IVb B w I J lv P H F L tf tm tt te fl nl U nxt T n hb) (g : ∀ b, (1 ≤ b ∧ b ≤ 3) ∨ (9 ≤ b ∧ b ≤ 34) ∨ (299 ≤ b ∧ b ≤ 302) ∨ b = 324 ∨ (333 ≤ b ∧ b ≤ 354) ∨ (365 ≤ b ∧ b ≤ 367) → X b = I b) (g2 : ∀ j, j = 2 ∨ j = 17 ∨ j = 18 ∨ j = 62 → X 323 j = I 323 j) (z49 : ∀ k, 9 ≤ k → X 49 k = nI 0) (zv : ∀ k, 9 ≤ k → X 356 k = nI 0) (zr : ∀ k, 69 ≤ k → X 359 k = nI 0) (zn : ∀ k, 69 ≤ k → X 358 k = nI 0) (hst : StR X 35 P H (X 358)) (hr : RI P H (X 358)) (hs : HsR X P H U2 nxt2) (hsl : hb2 < 8 ∧ X 0 12 = nI hb2 ∧ ∀ k, k < 3 → X 368 k = if hb2.testBit k = true then nI 1 else nI 0) (hh : ∀ k, k < 3 → hb2.testBit k = true → StR X (305 + 6 * k) P H (a_blk (X 369) (69 * k)) ∧ RI P H (a_blk (X 369) (69 * k)) ∧ YB B2 (a_blk (X 369) (69 * k))) (hy : YB B2 (X 358)) (hyu : ∀ k, k < U2 → YB B2 (a_blk (X 363) (69 * k))) : IVb B2 w X J lv P H F L tf tm tt te fl nl U2 nxt2 T n hb2 := by
  obtain ⟨hq, ⟨l1, l2, l3⟩, -, ht, ⟨t1, t2, t3, t4⟩, hpl, hk, -⟩ := h
  have hp := pw_or w
  exact ⟨XQ_now hq (fun b hb => g b (by omega)) (g2 _ (by decide)) z49 zv zr zn hst hr, ⟨RMz_f l1 (fun q q1 q2 => g q (by omega)), RXl_f l2 (fun q q1 q2 => g q (by omega)) (Nat.le_refl _), l3⟩, hs, TdR_f ht (by rw [g 299 (by omega)]) (g2 _ (by decide)) (fun b q => g b (by omega)), ⟨by rw [g 1 (by omega)]; exact t1, by rw [g2 _ (by decide)]; exact t2, t3, by rw [g 2 (by omega), g 324 (by decide)]; exact t4⟩, by rw [g 3 (by omega), g2 _ (by decide)]; exact hpl, hk, hsl, hh, hy, hyu⟩
theorem pp_tell {e f a s : Int32} (h : IVb B w I J lv P H F L tf tm tt te fl nl U nxt T n hb) (hs : s = nI 0 ∨ s = nI 1) : PP B 40 40 171 [.int e, .int f, .int a, .int s] (nx, ns, SH w, I, J) := by
  obtain ⟨hq, -, -, ht, htp, hpl, hk, -⟩ := id h
  have hx := c_xtell (nx := nx) (ns := ns) (J := J) (e := e) (f := f) (a := a) (s := s) hq ht hs
  by_cases q : a_tellok I P H T e f a = nI 0
  · rw [if_pos q, if_pos q] at hx
    have hm := c_tell (w := w) (nx := nx) (ns := ns) (J := J) (e := e) (f := f) (a := a) (s := s) hq.1.1.1 ht.1 ht.2.2.1 hs
    rw [if_pos q, if_pos q] at hm
    exact PP_rt (by omega) (by omega) hx hm h
  · rw [if_neg q, if_neg q] at hx
    have qo := q
    unfold a_tellok at qo
    have c3 : ¬ T = 20 := fun c => qo (if_pos c)
    rw [if_neg c3] at qo
    have c1 : ¬ m_fa e f H = nI 0 := fun c => qo (if_pos c)
    have hH10 : H ≤ 10 := hq.1.1.1.2.2.2.2.2.1
    obtain ⟨i, j, hi, hj, rfl, rfl⟩ := m_fa_ne hH10 c1
    have hT20 := ht.1
    have hm := c_tell (w := w) (nx := nx) (ns := ns) (J := J) (I := mm_up (mm_up (mm_up (mm_up I 299 (mm_up (I 299) 4 (nI (T + 1)))) 300 (mm_up (I 300) T (nI (2 * (nI i).toNatClampNeg + (nI j).toNatClampNeg)))) 301 (mm_up (I 301) T a)) 302 (mm_up (I 302) T s)) (e := nI i) (f := nI j) (a := a) (s := s) (lv := lv) (P := P) (H := H) (F := F) (T := T) hq.1.1.1 ht.1 ht.2.2.1 hs
    have q2 : ¬ a_tellok (mm_up (mm_up (mm_up (mm_up I 299 (mm_up (I 299) 4 (nI (T + 1)))) 300 (mm_up (I 300) T (nI (2 * (nI i).toNatClampNeg + (nI j).toNatClampNeg)))) 301 (mm_up (I 301) T a)) 302 (mm_up (I 302) T s)) P H T (nI i) (nI j) a = nI 0 := q
    rw [if_neg q2, if_neg q2] at hm
    refine PP_rt (by omega) (by omega) hx hm (IVb_mk (T2 := T + 1) (n2 := n) h (fun b hb => by simp (disch := omega) only [up_ne]) rfl rfl rfl ⟨by omega, rfl, rfl, fun k hk => ?_⟩ htp hpl hk)
    rw [nI_clamp (by omega), nI_clamp (by omega)]
    simp (disch := decide) only [up_ne, up_at]
    by_cases ek : k = T
    · subst ek
      refine ⟨2 * i + j, by omega, up_at rfl, ?_, by rw [up_at rfl, up_at rfl], by rw [up_at rfl, up_at rfl], by rw [up_at rfl]; exact hs⟩
      rw [up_at rfl]
      congr 1
      rcases (show j = 0 ∨ j = 1 by omega) with rfl | rfl
      · exact (fk_2 i).symm
      · rw [fk_21]
    · obtain ⟨f0, f1, f2, f3, f4, f5, f6⟩ := ht.2.2.2 k (by omega)
      rw [up_ne ek, up_ne ek, up_ne ek, up_ne ek, up_ne ek, up_ne ek]
      exact ⟨f0, f1, f2, f3, f4, f5, f6⟩
/-- a call of the class with a wider end, then the reference -/
theorem PP_ev {d d2 dd y z : Nat} {as : List Value} {Q : Option Value → mm_M → Prop} (hd : d ≤ dd) (hx : EV d y (.ref 0 :: as) (nx, ns, SH w, I, J) Q) (hd2 : d2 ≤ dd) (hm : ∀ v u, Q v u → ∃ a, v = some (.int a) ∧ EV d2 z (.ref 323 :: as) u (fun v2 u2 => v2 = some (.int a) ∧ ∃ w I J, u2 = (nx, ns, SH w, I, J) ∧ IV (B + 60) w I J)) : PP B dd y z as (nx, ns, SH w, I, J) := by
  refine EV_mono (EV_up hd hx) (fun v u hq => ?_)
  obtain ⟨a, h1, h2⟩ := hm v u hq
  exact ⟨a, h1, EV_up hd2 h2⟩
theorem IV_of (h : IVb B w I J lv P H F L tf tm tt te fl nl U nxt T n hb) : IV (B + 60) w I J := ⟨lv, P, H, F, L, tf, tm, tt, te, fl, nl, U, nxt, T, n, hb, IVb_up h (by omega)⟩
theorem IV_of2 (h : IVb (B + 60) w I J lv P H F L tf tm tt te fl nl U nxt T n hb) : IV (B + 60) w I J := ⟨lv, P, H, F, L, tf, tm, tt, te, fl, nl, U, nxt, T, n, hb, h⟩
theorem pp_undo (h : IVb B w I J lv P H F L tf tm tt te fl nl U nxt T n hb) : PP B 40 18 137 [] (nx, ns, SH w, I, J) := by
  obtain ⟨hq, -, hs, ht, htp, hpl, hk, hsl, hh, hy, hyu⟩ := id h
  obtain ⟨s1, s2, s3, s4, s5, s6⟩ := id hs
  have zn := hq.1.1.2.2.2.2.2.1
  refine PP_ev (d2 := 10) (by omega) (xv_undo (w := w) (nx := nx) (ns := ns) (J := J) s1 s2 s3 s4) (by omega) (fun v u hQ => ?_)
  by_cases c : U = 0
  · rw [if_pos c] at hQ
    obtain ⟨rfl, rfl⟩ := hQ
    refine ⟨nI 0, rfl, ?_⟩
    have hm := c_undo (w := w) (nx := nx) (ns := ns) (J := J) s1 s5 zn
    rw [if_pos c, if_pos c] at hm
    refine EV_mono (EV_up (by omega) hm) ?_
    rintro v u ⟨rfl, rfl⟩
    exact ⟨rfl, w, I, J, rfl, IV_of h⟩
  · rw [if_neg c] at hQ
    obtain ⟨rfl, X, rfl, x1, x2, x3, x4⟩ := hQ
    refine ⟨nI 1, rfl, ?_⟩
    have e : ∀ b, 59 ≤ b → X b = I b := fun b hb => x1 b (by omega) (by omega)
    have hm := c_undo (w := w) (nx := nx) (ns := ns) (I := X) (J := J) (U := U) s1 (by rw [e 323 (by omega)]; exact s5) (fun k hk => by rw [e _ (by decide)]; exact zn k hk)
    rw [if_neg c, if_neg c] at hm
    refine EV_mono (EV_up (by omega) hm) ?_
    rintro v u ⟨rfl, rfl⟩
    refine ⟨rfl, w, _, J, rfl, IV_of (U := U - 1) (nxt := (nxt + 39) % 40) (hb := hb) (T := T) (n := n) (IVb_mk2 h (fun b hb => by rw [up_ne (by omega), up_ne (by omega)]; exact x1 b (by omega) (by omega)) (fun j hj => by rw [up_ne (by decide), up_at rfl, up_ne (by omega), e 323 (by omega)]) (fun k hk => by rw [up_ne (by decide), up_ne (by decide), x1 49 (by decide) (by decide)]; exact hq.1.2.2.2 k hk) (fun k hk => by rw [up_ne (by decide), up_ne (by decide), e _ (by decide)]; exact hq.1.1.2.2.1 k hk) (fun k hk => by rw [up_ne (by decide), up_ne (by decide), e _ (by decide)]; exact hq.1.1.2.2.2.2.2.2 k hk) (fun k hk => by rw [up_at rfl]; unfold a_blk; rw [if_neg (by omega)]) ?_ ?_ ?_ ?_ ?_ ?_ ?_)⟩
    · rw [up_at rfl, e 363 (by decide)]
      have h9 := (s6 (U - 1) (by omega)).1
      have hi : hsI nxt U (U - 1) = (nxt + 39) % 40 := by unfold hsI; omega
      rw [hi] at h9
      exact StR_fr (x4 P H _ hq.1.1.1.2.2.2.1 hq.1.1.1.2.2.2.2.2.1 h9) (fun b g1 g2 => by rw [up_ne (by omega), up_ne (by omega)])
    · rw [up_at rfl, e 363 (by decide)]
      exact (s6 (U - 1) (by omega)).2
    · refine ⟨by omega, by omega, by rw [up_ne (by decide), up_ne (by decide)]; exact x2, by rw [up_ne (by decide), up_ne (by decide)]; exact x3, by rw [up_ne (by decide), up_at rfl, up_at rfl], fun k hk => ?_⟩
      rw [up_ne (show ¬ 363 = 358 by decide), up_ne (show ¬ 363 = 323 by decide), e 363 (by decide)]
      have hi : hsI ((nxt + 39) % 40) (U - 1) k = hsI nxt U k := by unfold hsI; omega
      have hl : hsI nxt U k < 40 := by unfold hsI; omega
      rw [hi]
      exact ⟨StR_fr (s6 k (by omega)).1 (fun b g1 g2 => by rw [up_ne (by omega), up_ne (by omega)]; exact e b (by omega)), (s6 k (by omega)).2⟩
    · refine ⟨hsl.1, by rw [up_ne (by decide), up_ne (by decide), x1 0 (by decide) (by decide)]; exact hsl.2.1, fun k hk => by rw [up_ne (by decide), up_ne (by decide), e 368 (by decide)]; exact hsl.2.2 k hk⟩
    · intro k hk hb
      rw [up_ne (show ¬ 369 = 358 by decide), up_ne (show ¬ 369 = 323 by decide), e 369 (by decide)]
      obtain ⟨c1, c2, c3⟩ := hh k hk hb
      exact ⟨StR_fr c1 (fun b g1 g2 => by rw [up_ne (by omega), up_ne (by omega)]; exact e b (by omega)), c2, c3⟩
    · rw [up_at rfl, e 363 (by decide)]
      exact hyu (U - 1) (by omega)
    · intro k hk
      rw [up_ne (show ¬ 363 = 358 by decide), up_ne (show ¬ 363 = 323 by decide), e 363 (by decide)]
      exact hyu k (by omega)
end Rs
