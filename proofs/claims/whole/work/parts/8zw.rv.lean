/-! ===== Pairs: held, gone on from; a text read ===== -/
section Rv
variable {w : Bool} {nx ns : Nat} {I X Y G : Nat → Nat → Int32} {J J' : Nat → Nat → Int64} {B B2 lv P H F U nxt T n hb : Nat} {L : Nat → Option (List PI × PC)} {tf tm tt te fl nl : Nat → Nat} {r : Nat → Int32}
theorem or_b : ∀ (hb : Fin 8) (s : Fin 3), hb.val ||| 2 ^ s.val < 8 := by decide
theorem or_t : ∀ (hb : Fin 8) (s k : Fin 3), (hb.val ||| 2 ^ s.val).testBit k.val = (decide (k = s) || hb.val.testBit k.val) := by decide
theorem pp_hold {a : Int32} (h : IVb B w I J lv P H F L tf tm tt te fl nl U nxt T n hb) : PP B 40 44 178 [.int a] (nx, ns, SH w, I, J) := by
  obtain ⟨hq, -, hs, ht, htp, hpl, hk, hsl, hh, hy, hyu⟩ := id h
  have hP : P ≤ 6 := hq.1.1.1.2.2.2.1
  have hH : H ≤ 10 := hq.1.1.1.2.2.2.2.2.1
  have zn := hq.1.1.2.2.2.2.2.1
  refine PP_ev (d2 := 10) (by omega) (xv_hold (w := w) (nx := nx) (ns := ns) (J := J) (s := a) hsl.1 hsl.2.1) (by omega) (fun v u hQ => ?_)
  by_cases c : m_ok a 3 = nI 0
  · rw [if_pos c] at hQ
    obtain ⟨rfl, rfl⟩ := hQ
    have hm := @c_hold w nx ns I J a
    rw [if_pos c, if_pos c] at hm
    refine ⟨nI 0, rfl, EV_mono (EV_up (by omega) hm) ?_⟩
    rintro v u ⟨rfl, rfl⟩
    exact ⟨rfl, w, I, J, rfl, IV_of h⟩
  · rw [if_neg c] at hQ
    obtain ⟨rfl, X, rfl, x1, x2, x3⟩ := hQ
    have hm := @c_hold w nx ns X J a
    rw [if_neg c, if_neg c] at hm
    refine ⟨nI 1, rfl, EV_mono (EV_up (by omega) hm) ?_⟩
    rintro v u ⟨rfl, rfl⟩
    obtain ⟨s, hs3, rfl⟩ := m_ok_ne (by omega) c
    rw [nI_clamp (by omega)] at x1 x2 x3 ⊢
    have e : ∀ b, ¬ (305 ≤ b ∧ b ≤ 322) → ¬ b = 0 → X b = I b := fun b h1 h2 => x1 b (by omega) h2
    refine ⟨rfl, w, _, J, rfl, IV_of (U := U) (nxt := nxt) (hb := hb ||| 2 ^ s) (T := T) (n := n) (IVb_mk2 h (fun b hb => by rw [up_ne (by omega), up_ne (by omega)]; exact e b (by omega) (by omega)) (fun j hj => by rw [up_ne (by decide), up_ne (by decide), e 323 (by omega) (by omega)]) (fun k hk => by rw [up_ne (by decide), up_ne (by decide), e 49 (by decide) (by decide)]; exact hq.1.2.2.2 k hk) (fun k hk => by rw [up_ne (by decide), up_ne (by decide), e _ (by decide) (by decide)]; exact hq.1.1.2.2.1 k hk) (fun k hk => by rw [up_ne (by decide), up_ne (by decide), e _ (by decide) (by decide)]; exact hq.1.1.2.2.2.2.2.2 k hk) (fun k hk => by rw [up_ne (by decide), up_ne (by decide), e _ (by decide) (by decide)]; exact zn k hk) ?_ ?_ ?_ ?_ ?_ ?_ ?_)⟩
    · rw [up_ne (show ¬ 358 = 369 by decide), up_ne (show ¬ 358 = 368 by decide), e 358 (by decide) (by decide)]
      exact StR_fr hq.2.1 (fun b g1 g2 => by rw [up_ne (by omega), up_ne (by omega)]; exact e b (by omega) (by omega))
    · rw [up_ne (show ¬ 358 = 369 by decide), up_ne (show ¬ 358 = 368 by decide), e 358 (by decide) (by decide)]
      exact hq.2.2
    · exact HsR_f hs (by rw [up_ne (by decide), up_ne (by decide)]; exact e 57 (by decide) (by decide)) (by rw [up_ne (by decide), up_ne (by decide), e 323 (by decide) (by decide)]) (by rw [up_ne (by decide), up_ne (by decide)]; exact e _ (by decide) (by decide)) (fun b g1 g2 => by rw [up_ne (by omega), up_ne (by omega)]; exact e b (by omega) (by omega))
    · refine ⟨or_b ⟨hb, hsl.1⟩ ⟨s, hs3⟩, by rw [up_ne (by decide), up_ne (by decide)]; exact x2, fun k hk => ?_⟩
      have ho := or_t ⟨hb, hsl.1⟩ ⟨s, hs3⟩ ⟨k, hk⟩
      simp only [Fin.mk.injEq] at ho
      rw [ho, up_ne (show ¬ 368 = 369 by decide), up_at rfl]
      by_cases ek : k = s
      · rw [up_at ek]; simp [ek]
      · rw [up_ne ek, e 368 (by decide) (by decide), hsl.2.2 k hk]; simp [ek]
    · intro k hk hbt
      have ho := or_t ⟨hb, hsl.1⟩ ⟨s, hs3⟩ ⟨k, hk⟩
      simp only [Fin.mk.injEq] at ho
      rw [ho] at hbt
      rw [up_at rfl, e 369 (by decide) (by decide), e 358 (by decide) (by decide), blk_hs zn]
      by_cases ek : k = s
      · rw [if_pos ek, ek]
        exact ⟨StR_fr (x3 P H _ hP hH hq.2.1) (fun b g1 g2 => by rw [up_ne (by omega), up_ne (by omega)]), hq.2.2, hy⟩
      · rw [if_neg ek]
        have hb2 : hb.testBit k = true := by simpa [ek] using hbt
        obtain ⟨c1, c2, c3⟩ := hh k hk hb2
        exact ⟨StR_fr c1 (fun b g1 g2 => by rw [up_ne (by omega), up_ne (by omega)]; exact x1 b (by omega) (by omega)), c2, c3⟩
    · rw [up_ne (show ¬ 358 = 369 by decide), up_ne (show ¬ 358 = 368 by decide), e 358 (by decide) (by decide)]
      exact hy
    · intro k hk
      rw [up_ne (show ¬ 363 = 369 by decide), up_ne (show ¬ 363 = 368 by decide), e 363 (by decide) (by decide)]
      exact hyu k hk
theorem pp_restore {a : Int32} (h : IVb B w I J lv P H F L tf tm tt te fl nl U nxt T n hb) : PP B 40 45 179 [.int a] (nx, ns, SH w, I, J) := by
  obtain ⟨hq, -, hs, ht, htp, hpl, hk, hsl, hh, hy, hyu⟩ := id h
  have hP : P ≤ 6 := hq.1.1.1.2.2.2.1
  have hH : H ≤ 10 := hq.1.1.1.2.2.2.2.2.1
  have zn := hq.1.1.2.2.2.2.2.1
  refine PP_ev (d2 := 10) (by omega) (xv_restore (w := w) (nx := nx) (ns := ns) (J := J) (s := a) hsl.1 hsl.2.1 hsl.2.2) (by omega) (fun v u hQ => ?_)
  by_cases c : a_resok I a = nI 0
  · rw [if_pos c] at hQ
    obtain ⟨rfl, rfl⟩ := hQ
    have hm := @c_restore w nx ns I J a zn
    rw [c, if_pos rfl] at hm
    refine ⟨nI 0, rfl, EV_mono (EV_up (by omega) hm) ?_⟩
    rintro v u ⟨rfl, rfl⟩
    exact ⟨rfl, w, I, J, rfl, IV_of h⟩
  · rw [if_neg c] at hQ
    obtain ⟨rfl, X, rfl, x1, x2, x3, x4⟩ := hQ
    have e : ∀ b, ¬ (35 ≤ b ∧ b ≤ 40) → ¬ b = 57 → X b = I b := x1
    have er : a_resok X a = a_resok I a := by unfold a_resok; rw [e 368 (by decide) (by decide)]
    have hm := @c_restore w nx ns X J a (fun k hk => by rw [e 358 (by decide) (by decide)]; exact zn k hk)
    rw [er, if_neg c] at hm
    have hok : m_ok a 3 = nI 0 → False := fun q => c (by unfold a_resok; rw [if_pos q])
    obtain ⟨s, hs3, rfl⟩ := m_ok_ne (by omega) (fun q => hok q)
    have ho1 : a_resok I (nI s) = nI 1 := by
      unfold a_resok at c ⊢
      rw [if_neg (fun q => hok q)] at c ⊢
      by_cases q : I 368 (nI s).toNatClampNeg = nI 0
      · exact absurd (if_pos q) c
      · rw [if_neg q]
    rw [ho1] at hm
    refine ⟨nI 1, rfl, EV_mono (EV_up (by omega) hm) ?_⟩
    rintro v u ⟨rfl, rfl⟩
    have hbt : hb.testBit s = true := by
      unfold a_resok at c
      rw [if_neg (fun q => hok q), nI_clamp (by omega), hsl.2.2 s hs3] at c
      by_cases q : hb.testBit s = true
      · exact q
      · rw [if_neg q] at c; exact absurd (if_pos rfl) c
    rw [nI_clamp (by omega)] at x4 ⊢
    obtain ⟨c1, c2, c3⟩ := hh s hs3 hbt
    refine ⟨rfl, w, _, J, rfl, IV_of (U := 0) (nxt := nxt) (hb := hb) (T := T) (n := n) (IVb_mk2 h (fun b hb => by rw [up_ne (by omega), up_ne (by omega)]; exact e b (by omega) (by omega)) (fun j hj => by rw [up_at rfl, up_ne (by omega), e 323 (by omega) (by omega)]) (fun k hk => by rw [up_ne (by decide), up_ne (by decide), e 49 (by decide) (by decide)]; exact hq.1.2.2.2 k hk) (fun k hk => by rw [up_ne (by decide), up_ne (by decide), e _ (by decide) (by decide)]; exact hq.1.1.2.2.1 k hk) (fun k hk => by rw [up_ne (by decide), up_ne (by decide), e _ (by decide) (by decide)]; exact hq.1.1.2.2.2.2.2.2 k hk) (fun k hk => by rw [up_ne (by decide), up_at rfl]; unfold a_blk; rw [if_neg (by omega)]) ?_ ?_ ?_ ?_ ?_ ?_ (fun k hk => by omega))⟩
    · rw [up_ne (show ¬ 358 = 323 by decide), up_at rfl, e 369 (by decide) (by decide)]
      exact StR_fr (x4 P H _ hP hH c1) (fun b g1 g2 => by rw [up_ne (by omega), up_ne (by omega)])
    · rw [up_ne (show ¬ 358 = 323 by decide), up_at rfl, e 369 (by decide) (by decide)]
      exact c2
    · refine ⟨by omega, hs.2.1, ?_, ?_, rfl, fun k hk => by omega⟩
      · rw [up_ne (by decide), up_ne (by decide), x2]; exact hs.2.2.1
      · rw [up_ne (by decide), up_ne (by decide)]; exact x3
    · refine ⟨hsl.1, by rw [up_ne (by decide), up_ne (by decide), e 0 (by decide) (by decide)]; exact hsl.2.1, fun k hk => by rw [up_ne (by decide), up_ne (by decide), e 368 (by decide) (by decide)]; exact hsl.2.2 k hk⟩
    · intro k hk hbk
      rw [up_ne (show ¬ 369 = 323 by decide), up_ne (show ¬ 369 = 358 by decide), e 369 (by decide) (by decide)]
      obtain ⟨d1, d2, d3⟩ := hh k hk hbk
      exact ⟨StR_fr d1 (fun b g1 g2 => by rw [up_ne (by omega), up_ne (by omega)]; exact e b (by omega) (by omega)), d2, d3⟩
    · rw [up_ne (show ¬ 358 = 323 by decide), up_at rfl, e 369 (by decide) (by decide)]
      exact c3
end Rv
