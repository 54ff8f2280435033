/-! ===== Pairs: held, what is done by hand, years ===== -/
section Rt
variable {w : Bool} {nx ns : Nat} {I X Y G : Nat → Nat → Int32} {J J' : Nat → Nat → Int64} {B B2 lv P H F U nxt T n hb : Nat} {L : Nat → Option (List PI × PC)} {tf tm tt te fl nl : Nat → Nat}
theorem blk_hs {h r : Nat → Int32} {s k : Nat} (hz : ∀ z, 69 ≤ z → r z = nI 0) : a_blk (m_hs h r (69 * s) 69) (69 * k) = if k = s then r else a_blk h (69 * k) := by
  funext z
  unfold a_blk m_hs
  by_cases e : k = s
  · rw [if_pos e]
    subst e
    by_cases c : z < 69
    · rw [if_pos c, if_pos (by omega), Nat.add_sub_cancel_left]
    · rw [if_neg c, hz z (by omega)]
  · rw [if_neg e]
    by_cases c : z < 69
    · rw [if_pos c, if_pos c, if_neg (by omega)]
    · rw [if_neg c, if_neg c]
theorem blk_sh {h : Nat → Int32} {k : Nat} (hk : k < 39) : a_blk (m_sh h 2691) (69 * k) = a_blk h (69 * (k + 1)) := by
  funext z
  unfold a_blk m_sh
  by_cases c : z < 69
  · rw [if_pos c, if_pos c, if_pos (by omega)]
    congr 1
    omega
  · rw [if_neg c, if_neg c]
/-- kept by both: the class by KPX, the reference by its row -/
theorem IVb_rec {r : Nat → Int32} (h : IVb B w I J lv P H F L tf tm tt te fl nl U nxt T n hb) (hx : KPX I X P H U nxt r) (hc : Cr X G) (hg : G 359 = r) (hr : RI P H r) (hy2 : YB (B + 60) r) : IVb (B + 60) w (m_rec G U) J lv P H F L tf tm tt te fl nl (if U = 40 then 40 else U + 1) ((nxt + 1) % 40) T n hb := by
  obtain ⟨hq, -, hs, ht, htp, hpl, hk, hsl, hh, hy, hyu⟩ := id h
  obtain ⟨s1, s2, s3, s4, s5, s6⟩ := id hs
  obtain ⟨⟨k1, k49⟩, k2, k3, k4, k5⟩ := hx
  have zn := hq.1.1.2.2.2.2.2.1
  have gX : ∀ b, ¬ b = 323 → (b < 356 ∨ b = 358 ∨ (362 < b ∧ ¬ b = 364)) → G b = X b := fun b h1 h2 => hc.1 b h1 h2
  have eX : ∀ b, 299 ≤ b → ¬ b = 303 → X b = I b := fun b h1 h2 => k1 b (by omega) h2 (by omega)
  have m0 : ∀ b, ¬ b = 323 → ¬ b = 363 → ¬ b = 358 → m_rec G U b = G b := fun b h1 h2 h3 => by unfold m_rec; rw [up_ne h3, up_ne h1, up_ne h2]
  have m323 : ∀ j, ¬ j = 59 → m_rec G U 323 j = G 323 j := fun j hj => by
    show mm_up (G 323) 59 (nI (if U = 40 then 40 else U + 1)) j = _
    rw [up_ne hj]
  have mn : m_rec G U 358 = r := by rw [← hg]; rfl
  have mh : m_rec G U 363 = m_hist (I 363) (I 358) U := by
    show m_hist (G 363) (G 358) U = _
    rw [gX 363 (by decide) (by decide), gX 358 (by decide) (by decide), eX 363 (by decide) (by decide), eX 358 (by decide) (by decide)]
  have mX : ∀ b, ¬ b = 323 → b < 356 → m_rec G U b = X b := fun b h1 h2 => by rw [m0 b h1 (by omega) (by omega)]; exact gX b h1 (by omega)
  have m3 : ∀ j, ¬ j = 51 → ¬ j = 54 → ¬ j = 55 → ¬ j = 59 → m_rec G U 323 j = I 323 j := fun j h1 h2 h3 h4 => by rw [m323 j h4, hc.2.1 j h1 h2 h3, eX 323 (by omega) (by omega)]
  have hU1 : (if U = 40 then 40 else U + 1) ≤ 40 := by split <;> omega
  -- the k-th kept row, its place
  have hkk : ∀ k, k < (if U = 40 then 40 else U + 1) → StR (m_rec G U) (59 + 6 * hsI ((nxt + 1) % 40) (if U = 40 then 40 else U + 1) k) P H (a_blk (m_rec G U 363) (69 * k)) ∧ RI P H (a_blk (m_rec G U 363) (69 * k)) ∧ YB B (a_blk (m_rec G U 363) (69 * k)) := by
    intro k hk
    rw [mh]
    unfold m_hist
    have new : ∀ q, q = nxt → StR (m_rec G U) (59 + 6 * q) P H (I 358) := fun q hq' => by
      subst hq'
      exact StR_fr k4 (fun b g1 g2 => mX b (by omega) (by omega))
    have old : ∀ j, j < U → ¬ hsI nxt U j = nxt → StR (m_rec G U) (59 + 6 * hsI nxt U j) P H (a_blk (I 363) (69 * j)) ∧ RI P H (a_blk (I 363) (69 * j)) ∧ YB B (a_blk (I 363) (69 * j)) := fun j hj hne => by
      have hl : hsI nxt U j < 40 := by unfold hsI; omega
      exact ⟨StR_fr (s6 j hj).1 (fun b g1 g2 => by rw [mX b (by omega) (by omega)]; exact k1 b (by omega) (by omega) (by omega)), (s6 j hj).2, hyu j hj⟩
    by_cases c : U = 40
    · rw [if_pos c] at hk ⊢
      rw [if_pos c, blk_hs zn]
      by_cases e : k = 39
      · rw [if_pos e]
        have hi : hsI ((nxt + 1) % 40) 40 k = nxt := by unfold hsI; omega
        rw [hi]
        exact ⟨new nxt rfl, hq.2.2, hy⟩
      · rw [if_neg e, blk_sh (by omega)]
        have hi : hsI ((nxt + 1) % 40) 40 k = hsI nxt U (k + 1) := by unfold hsI; omega
        rw [hi]
        exact old (k + 1) (by omega) (by unfold hsI; omega)
    · rw [if_neg c] at hk ⊢
      rw [if_neg c, blk_hs zn]
      by_cases e : k = U
      · rw [if_pos e]
        have hi : hsI ((nxt + 1) % 40) (U + 1) k = nxt := by unfold hsI; omega
        rw [hi]
        exact ⟨new nxt rfl, hq.2.2, hy⟩
      · rw [if_neg e]
        have hi : hsI ((nxt + 1) % 40) (U + 1) k = hsI nxt U k := by unfold hsI; omega
        rw [hi]
        exact old k (by omega) (by unfold hsI; omega)
  refine IVb_mk2 h (fun b hb => by rw [m0 b (by omega) (by omega) (by omega), gX b (by omega) (by omega)]; exact k1 b (by omega) (by omega) (by omega)) (fun j hj => m3 j (by omega) (by omega) (by omega) (by omega)) (fun k hk => by rw [mX 49 (by decide) (by decide)]; exact k49 k hk) (fun k hk => by rw [m0 _ (by decide) (by decide) (by decide)]; exact hc.2.2.1 k hk) (fun k hk => by rw [m0 _ (by decide) (by decide) (by decide)]; exact hc.2.2.2 k hk) (fun k hk => by rw [mn, ← hg]; exact hc.2.2.2 k hk) ?_ (by rw [mn]; exact hr) ?_ ?_ ?_ (by rw [mn]; exact hy2) (fun k hk => YB_up (hkk k hk).2.2 (by omega))
  · rw [mn]
    exact StR_fr k5 (fun b g1 g2 => mX b (by omega) (by omega))
  · refine ⟨hU1, by omega, by rw [mX 57 (by decide) (by decide)]; exact k2, by rw [mX 57 (by decide) (by decide)]; exact k3, ?_, fun k hk => ⟨(hkk k hk).1, (hkk k hk).2.1⟩⟩
    show mm_up (G 323) 59 (nI (if U = 40 then 40 else U + 1)) 59 = _
    rw [up_at rfl]
  · refine ⟨hsl.1, by rw [mX 0 (by decide) (by decide), k1 0 (by omega) (by omega) (by omega)]; exact hsl.2.1, fun k hk => ?_⟩
    rw [m0 368 (by decide) (by decide) (by decide), gX 368 (by decide) (by decide), eX 368 (by decide) (by decide)]
    exact hsl.2.2 k hk
  · intro k hk hb
    rw [m0 369 (by decide) (by decide) (by decide), gX 369 (by decide) (by decide), eX 369 (by decide) (by decide)]
    obtain ⟨c1, c2, c3⟩ := hh k hk hb
    exact ⟨StR_fr c1 (fun b g1 g2 => by rw [mX b (by omega) (by omega)]; exact eX b (by omega) (by omega)), c2, YB_up c3 (by omega)⟩
/-- done by hand: both refuse, or both do it -/
theorem PP_d {d d2 y z : Nat} {as : List Value} {ok : Int32} {r : Nat → Int32} (h : IVb B w I J lv P H F L tf tm tt te fl nl U nxt T n hb) (hd : d ≤ 40) (hd2 : d2 ≤ 40) (hx : EV d y (.ref 0 :: as) (nx, ns, SH w, I, J) (DX w nx ns I J P H U nxt ok r)) (hm : ∀ X, (∀ b, 323 ≤ b → X b = I b) → MST X lv P H F tf tm tt te fl nl → X 323 59 = nI U → EV d2 z (.ref 323 :: as) (nx, ns, SH w, X, J) (DN w nx ns X J ok r U)) (hr : ¬ ok = nI 0 → RI P H r) (hy : ¬ ok = nI 0 → YB (B + 60) r) : PP B 40 y z as (nx, ns, SH w, I, J) := by
  have hu := h.2.2.1.2.2.2.2.1
  refine PP_ev hd hx hd2 (fun v u hQ => ?_)
  unfold DX at hQ
  by_cases c : ok = nI 0
  · rw [if_pos c] at hQ
    obtain ⟨rfl, rfl⟩ := hQ
    refine ⟨nI 0, rfl, EV_mono (hm I (fun _ _ => rfl) h.1.1.1 hu) (fun v u hN => ?_)⟩
    unfold DN at hN
    rw [if_pos c] at hN
    obtain ⟨rfl, Z, rfl, hz⟩ := hN
    exact ⟨rfl, w, Z, J, rfl, IV_of (IVb_cr h hz)⟩
  · rw [if_neg c] at hQ
    obtain ⟨rfl, X, rfl, hk⟩ := hQ
    have e : ∀ b, 323 ≤ b → X b = I b := fun b hb => hk.1.1 b (by omega) (by omega) (by have := h.2.2.1.2.1; omega)
    refine ⟨nI 1, rfl, EV_mono (hm X e (MST_hi h.1.1.1 e) (by rw [e 323 (by omega)]; exact hu)) (fun v u hN => ?_)⟩
    unfold DN at hN
    rw [if_neg c] at hN
    obtain ⟨rfl, G, rfl, hc, hg⟩ := hN
    exact ⟨rfl, w, _, J, rfl, IV_of2 (IVb_rec h hk hc hg (hr c) (hy c))⟩
end Rt
