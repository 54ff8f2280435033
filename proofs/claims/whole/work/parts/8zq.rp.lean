/-! ===== What holds between two calls ===== -/
def YB (B : Nat) (r : Nat → Int32) : Prop := ∃ y, y ≤ B ∧ r 68 = nI y
/-- both sides lie well and tell the same -/
def IVb (B : Nat) (w : Bool) (I : Nat → Nat → Int32) (J : Nat → Nat → Int64) (lv P H F : Nat) (L : Nat → Option (List PI × PC)) (tf tm tt te fl nl : Nat → Nat) (U nxt T n hb : Nat) : Prop := XQ I w lv P H F tf tm tt te fl nl ∧ (RMz I lv L ∧ RXl I (pw w) L 400 ∧ ∀ k x, L k = some x → csL x.1 x.2) ∧ HsR I P H U nxt ∧ TdR I H T ∧ (I 1 1 = nI n ∧ I 323 2 = nI n ∧ n ≤ 2000 ∧ I 2 = I 324) ∧ I 3 2 = I 323 17 ∧ (kwR 32 (J 8) ∧ kwR 27 (J 330)) ∧ (hb < 8 ∧ I 0 12 = nI hb ∧ ∀ k, k < 3 → I 368 k = if hb.testBit k = true then nI 1 else nI 0) ∧ (∀ k, k < 3 → hb.testBit k = true → StR I (305 + 6 * k) P H (a_blk (I 369) (69 * k)) ∧ RI P H (a_blk (I 369) (69 * k)) ∧ YB B (a_blk (I 369) (69 * k))) ∧ YB B (I 358) ∧ ∀ k, k < U → YB B (a_blk (I 363) (69 * k))
def IV (B : Nat) (w : Bool) (I : Nat → Nat → Int32) (J : Nat → Nat → Int64) : Prop := ∃ (lv P H F : Nat) (L : Nat → Option (List PI × PC)) (tf tm tt te fl nl : Nat → Nat) (U nxt T n hb : Nat), IVb B w I J lv P H F L tf tm tt te fl nl U nxt T n hb
/-- only what is reckoned with has changed -/
def Fq (I X : Nat → Nat → Int32) : Prop := (∀ b, ¬ b = 323 → ¬ (4 ≤ b ∧ b ≤ 8) → ¬ (41 ≤ b ∧ b ≤ 56) → ¬ b = 303 → ¬ (325 ≤ b ∧ b ≤ 332) → ¬ (355 ≤ b ∧ b ≤ 357) → ¬ (359 ≤ b ∧ b ≤ 362) → ¬ b = 364 → X b = I b) ∧ (∀ j, j = 2 ∨ j = 17 ∨ j = 18 ∨ j = 59 ∨ j = 62 → X 323 j = I 323 j) ∧ (∀ k, 9 ≤ k → X 49 k = nI 0) ∧ (∀ k, 9 ≤ k → X 356 k = nI 0) ∧ ∀ k, 69 ≤ k → X 359 k = nI 0
section Rp
variable {w : Bool} {nx ns : Nat} {I X Y : Nat → Nat → Int32} {J J' : Nat → Nat → Int64} {B B2 lv P H F U nxt T n hb : Nat} {L : Nat → Option (List PI × PC)} {tf tm tt te fl nl : Nat → Nat}
theorem YB_up {r : Nat → Int32} (h : YB B r) (hb : B ≤ B2) : YB B2 r := by
  obtain ⟨y, h1, h2⟩ := h
  exact ⟨y, by omega, h2⟩
theorem XQ_fq (h : XQ I w lv P H F tf tm tt te fl nl) (hf : Fq I X) : XQ X w lv P H F tf tm tt te fl nl := by
  obtain ⟨⟨⟨m1, m2, m3, m4, m5, m6, m7⟩, p1, l1, z1⟩, s1, r1⟩ := h
  obtain ⟨f1, f2, f3, f4, f5⟩ := hf
  have e : ∀ b, 333 ≤ b → b ≤ 354 → X b = I b := fun b g1 g2 => f1 b (by omega) (by omega) (by omega) (by omega) (by omega) (by omega) (by omega) (by omega)
  have ep : ∀ b, 9 ≤ b → b ≤ 40 → X b = I b := fun b g1 g2 => f1 b (by omega) (by omega) (by omega) (by omega) (by omega) (by omega) (by omega) (by omega)
  have en : X 358 = I 358 := f1 _ (by decide) (by decide) (by decide) (by decide) (by decide) (by decide) (by decide) (by decide)
  have hp := pw_or w
  refine ⟨⟨⟨?_, ?_, f4, ?_, ?_, ?_, f5⟩, ?_, ?_, f3⟩, ?_, ?_⟩
  · unfold LV at m1 ⊢
    rw [f2 18 (by decide), e 334 (by decide) (by decide), e 338 (by decide) (by decide), e 333 (by decide) (by decide)]
    exact m1
  · intro k hk
    obtain ⟨a1, a2, a3, a4⟩ := m2 k hk
    refine ⟨by rw [e _ (by decide) (by decide)]; exact a1, by rw [e _ (by decide) (by decide)]; exact a2, a3, fun z g1 g2 => ?_⟩
    have b1 := a4 z g1 g2
    unfold m_bok at b1 ⊢
    rw [e 351 (by decide) (by decide), e 352 (by decide) (by decide), e 353 (by decide) (by decide), e 354 (by decide) (by decide), e 348 (by decide) (by decide), e 349 (by decide) (by decide), e 350 (by decide) (by decide)]
    exact b1
  · rw [en]; exact m4
  · intro p hp
    rw [e 336 (by decide) (by decide), e 337 (by decide) (by decide)]
    exact m5 p hp
  · intro k hk; rw [en]; exact m6 k hk
  · unfold PaR at p1 ⊢
    rw [ep (pw w) (by omega) (by omega), ep (pw w + 4) (by omega) (by omega), ep (pw w + 5) (by omega) (by omega), e 345 (by decide) (by decide), e 336 (by decide) (by decide), e 337 (by decide) (by decide), e 339 (by decide) (by decide), e 340 (by decide) (by decide)]
    exact p1
  · intro k hk
    obtain ⟨f, B, a1, a2, a3, a4, a5, a6⟩ := l1 k hk
    have eav : m_av X tf tm tt te fl nl = m_av I tf tm tt te fl nl := av_congr (e _ (by decide) (by decide)) (e _ (by decide) (by decide)) (e _ (by decide) (by decide))
    rw [ep (pw w + 9) (by omega) (by omega), ep (pw w + 10) (by omega) (by omega), ep (pw w + 11) (by omega) (by omega), ep (pw w + 12) (by omega) (by omega), eav]
    exact ⟨f, B, a1, a2, a3, a4, a5, a6⟩
  · rw [en]
    exact StR_fr s1 (fun b g1 g2 => ep b (by omega) (by omega))
  · rw [en]; exact r1
theorem HsR_f (h : HsR I P H U nxt) (h57 : X 57 = I 57) (hu : X 323 59 = I 323 59) (hh : X 363 = I 363) (hb : ∀ b, 59 ≤ b → b < 299 → X b = I b) : HsR X P H U nxt := by
  obtain ⟨a1, a2, a3, a4, a5, a6⟩ := h
  refine ⟨a1, a2, by rw [h57]; exact a3, by rw [h57]; exact a4, by rw [hu]; exact a5, fun k hk => ?_⟩
  rw [hh]
  have hi : hsI nxt U k < 40 := by unfold hsI; omega
  exact ⟨StR_fr (a6 k hk).1 (fun b g1 g2 => hb b (by omega) (by omega)), (a6 k hk).2⟩
theorem TdR_f (h : TdR I H T) (h4 : X 299 4 = I 299 4) (hu : X 323 62 = I 323 62) (hb : ∀ b, (300 ≤ b ∧ b ≤ 302) ∨ (365 ≤ b ∧ b ≤ 367) → X b = I b) : TdR X H T := by
  unfold TdR at h ⊢
  rw [h4, hu, hb 300 (by omega), hb 301 (by omega), hb 302 (by omega), hb 365 (by decide), hb 366 (by decide), hb 367 (by decide)]
  exact h
theorem RMz_f (h : RMz I lv L) (hf : ∀ q, 346 ≤ q → q ≤ 354 → X q = I q) : RMz X lv L := by
  unfold RMz RMk at h ⊢
  rw [hf 346 (by decide) (by decide), hf 347 (by decide) (by decide), hf 348 (by decide) (by decide), hf 349 (by decide) (by decide), hf 350 (by decide) (by decide), hf 351 (by decide) (by decide), hf 352 (by decide) (by decide), hf 353 (by decide) (by decide), hf 354 (by decide) (by decide)]
  exact h
theorem IVb_fq (h : IVb B w I J lv P H F L tf tm tt te fl nl U nxt T n hb) (hf : Fq I X) : IVb B w X J lv P H F L tf tm tt te fl nl U nxt T n hb := by
  obtain ⟨hq, ⟨l1, l2, l3⟩, hs, ht, ⟨t1, t2, t3, t4⟩, hpl, hk, ⟨b1, b2, b3⟩, hh, hy, hyu⟩ := h
  have hq2 := XQ_fq hq hf
  obtain ⟨f1, f2, -⟩ := hf
  have hp := pw_or w
  have g : ∀ b, (b ≤ 3 ∨ (9 ≤ b ∧ b ≤ 40) ∨ (57 ≤ b ∧ b ≤ 302) ∨ (304 ≤ b ∧ b ≤ 322) ∨ b = 324 ∨ (333 ≤ b ∧ b ≤ 354) ∨ b = 358 ∨ b = 363 ∨ (365 ≤ b ∧ b ≤ 369)) → X b = I b := fun b hb => f1 b (by omega) (by omega) (by omega) (by omega) (by omega) (by omega) (by omega) (by omega)
  refine ⟨hq2, ⟨RMz_f l1 (fun q q1 q2 => g q (by omega)), RXl_f l2 (fun q q1 q2 => g q (by omega)) (Nat.le_refl _), l3⟩, HsR_f hs (g 57 (by omega)) (f2 _ (by decide)) (g _ (by decide)) (fun b q1 q2 => g b (by omega)), TdR_f ht (by rw [g 299 (by omega)]) (f2 _ (by decide)) (fun b q => g b (by omega)), ⟨by rw [g 1 (by omega)]; exact t1, by rw [f2 _ (by decide)]; exact t2, t3, by rw [g 2 (by omega), g 324 (by decide)]; exact t4⟩, by rw [g 3 (by omega), f2 _ (by decide)]; exact hpl, hk, ⟨b1, by rw [g 0 (by omega)]; exact b2, fun k q => by rw [g 368 (by decide)]; exact b3 k q⟩, fun k q1 q2 => ?_, by rw [g 358 (by decide)]; exact hy, fun k q => by rw [g 363 (by decide)]; exact hyu k q⟩
  rw [g 369 (by decide)]
  obtain ⟨c1, c2, c3⟩ := hh k q1 q2
  exact ⟨StR_fr c1 (fun b q3 q4 => g b (by omega)), c2, c3⟩
theorem IVb_up (h : IVb B w I J lv P H F L tf tm tt te fl nl U nxt T n hb) (hB : B ≤ B2) : IVb B2 w I J lv P H F L tf tm tt te fl nl U nxt T n hb := by
  obtain ⟨hq, hl, hs, ht, htp, hpl, hk, hbb, hh, hy, hyu⟩ := h
  exact ⟨hq, hl, hs, ht, htp, hpl, hk, hbb, fun k q1 q2 => ⟨(hh k q1 q2).1, (hh k q1 q2).2.1, YB_up (hh k q1 q2).2.2 hB⟩, YB_up hy hB, fun k q => YB_up (hyu k q) hB⟩
theorem fq_cx (h : XQ I w lv P H F tf tm tt te fl nl) (hc : Cx I X) : Fq I X := by
  refine ⟨fun b h1 h2 h3 h4 h5 h6 h7 h8 => hc.1 b h3 h4, fun j _ => by rw [hc.1 323 (by omega) (by omega)], hc.2, fun k hk => ?_, fun k hk => ?_⟩
  · rw [hc.1 _ (by decide) (by decide)]; exact h.1.1.2.2.1 k hk
  · rw [hc.1 _ (by decide) (by decide)]; exact h.1.1.2.2.2.2.2.2 k hk
theorem fq_cr (h : XQ I w lv P H F tf tm tt te fl nl) (hc : Cr I X) : Fq I X := by
  refine ⟨fun b h1 h2 h3 h4 h5 h6 h7 h8 => hc.1 b h1 (by omega), fun j hj => hc.2.1 j (by omega) (by omega) (by omega), fun k hk => ?_, hc.2.2.1, hc.2.2.2⟩
  rw [hc.1 49 (by decide) (by omega)]; exact h.1.2.2.2 k hk
theorem IVb_cx (h : IVb B w I J lv P H F L tf tm tt te fl nl U nxt T n hb) (hc : Cx I X) : IVb B w X J lv P H F L tf tm tt te fl nl U nxt T n hb := IVb_fq h (fq_cx h.1 hc)
theorem IVb_cr (h : IVb B w I J lv P H F L tf tm tt te fl nl U nxt T n hb) (hc : Cr I X) : IVb B w X J lv P H F L tf tm tt te fl nl U nxt T n hb := IVb_fq h (fq_cr h.1 hc)
/-- a call of both: the same answer, and all holds again -/
def PP (B d y z : Nat) (as : List Value) (u : mm_M) : Prop := EV d y (.ref 0 :: as) u (fun v u1 => ∃ a, v = some (.int a) ∧ EV d z (.ref 323 :: as) u1 (fun v2 u2 => v2 = some (.int a) ∧ ∃ w I J, u2 = (u.1, u.2.1, SH w, I, J) ∧ IV (B + 60) w I J))
theorem PP_q {d d2 dd y z : Nat} {as : List Value} {x : Int32} (h : IVb B w I J lv P H F L tf tm tt te fl nl U nxt T n hb) (hd : d ≤ dd) (hd2 : d2 ≤ dd) (hx : EV d y (.ref 0 :: as) (nx, ns, SH w, I, J) (PX w nx ns I J x)) (hm : ∀ X, Cx I X → IVb B w X J lv P H F L tf tm tt te fl nl U nxt T n hb → EV d2 z (.ref 323 :: as) (nx, ns, SH w, X, J) (PR w nx ns X J x)) : PP B dd y z as (nx, ns, SH w, I, J) := by
  refine EV_mono (EV_up hd hx) ?_
  rintro v u1 ⟨rfl, X, rfl, hc⟩
  refine ⟨x, rfl, EV_mono (EV_up hd2 (hm X hc (IVb_cx h hc))) ?_⟩
  rintro v2 u2 ⟨rfl, Z, rfl, hr⟩
  exact ⟨rfl, w, Z, J, rfl, lv, P, H, F, L, tf, tm, tt, te, fl, nl, U, nxt, T, n, hb, IVb_up (IVb_cr (IVb_cx h hc) hr) (by omega)⟩
def cutM (I : Nat → Nat → Int32) (b : Nat) : Nat → Int32 := if 323 ≤ b then I b else fun _ => 0
theorem cutM_cx (hc : Cx I X) : cutM X = cutM I := by
  funext b
  unfold cutM
  by_cases h : 323 ≤ b
  · rw [if_pos h, if_pos h]; exact hc.1 b (by omega) (by omega)
  · rw [if_neg h, if_neg h]
end Rp
