/-! ===== Pairs: the tape, what is told, counts ===== -/
section Rr
variable {w : Bool} {nx ns : Nat} {I X Y : Nat → Nat → Int32} {J J' : Nat → Nat → Int64} {B B2 lv P H F U nxt T n hb T2 n2 : Nat} {L : Nat → Option (List PI × PC)} {tf tm tt te fl nl : Nat → Nat}
/-- what XQ looks at -/
def Fx (I X : Nat → Nat → Int32) : Prop := (∀ b, (9 ≤ b ∧ b ≤ 40) ∨ (333 ≤ b ∧ b ≤ 354) ∨ b = 358 → X b = I b) ∧ X 323 18 = I 323 18 ∧ (∀ k, 9 ≤ k → X 49 k = nI 0) ∧ (∀ k, 9 ≤ k → X 356 k = nI 0) ∧ ∀ k, 69 ≤ k → X 359 k = nI 0
/-- a memory that is X where XQ looks, I elsewhere -/
theorem XQ_fx (h : XQ I w lv P H F tf tm tt te fl nl) (hf : Fx I X) : XQ X w lv P H F tf tm tt te fl nl := by
  obtain ⟨f1, f2, f3, f4, f5⟩ := hf
  obtain ⟨Z, hZ⟩ : ∃ Z : Nat → Nat → Int32, Z = fun b => if (9 ≤ b ∧ b ≤ 40) ∨ (333 ≤ b ∧ b ≤ 354) ∨ b = 358 ∨ b = 49 ∨ b = 356 ∨ b = 359 then X b else I b := ⟨_, rfl⟩
  have hz : Fq I Z := by
    refine ⟨fun b h1 h2 h3 h4 h5 h6 h7 h8 => ?_, fun j _ => by rw [hZ]; simp, fun k hk => by rw [hZ]; simp; exact f3 k hk, fun k hk => by rw [hZ]; simp; exact f4 k hk, fun k hk => by rw [hZ]; simp; exact f5 k hk⟩
    rw [hZ]
    simp only
    by_cases c : (9 ≤ b ∧ b ≤ 40) ∨ (333 ≤ b ∧ b ≤ 354) ∨ b = 358 ∨ b = 49 ∨ b = 356 ∨ b = 359
    · rw [if_pos c]; exact f1 b (by omega)
    · rw [if_neg c]
  have q := XQ_fq h hz
  have e : ∀ b, (9 ≤ b ∧ b ≤ 40) ∨ (333 ≤ b ∧ b ≤ 354) ∨ b = 358 ∨ b = 49 ∨ b = 356 ∨ b = 359 → Z b = X b := fun b hb => by rw [hZ]; simp only; rw [if_pos hb]
  have e18 : Z 323 18 = X 323 18 := by rw [f2, hZ]; simp
  have hp := pw_or w
  obtain ⟨⟨⟨m1, m2, m3, m4, m5, m6, m7⟩, p1, l1, z1⟩, s1, r1⟩ := q
  have ee : ∀ b, 333 ≤ b → b ≤ 354 → Z b = X b := fun b g1 g2 => e b (by omega)
  have ep : ∀ b, 9 ≤ b → b ≤ 40 → Z b = X b := fun b g1 g2 => e b (by omega)
  have en : Z 358 = X 358 := e _ (by decide)
  refine ⟨⟨⟨?_, ?_, f4, ?_, ?_, ?_, f5⟩, ?_, ?_, f3⟩, ?_, ?_⟩
  · unfold LV at m1 ⊢
    rw [← e18, ← ee 334 (by decide) (by decide), ← ee 338 (by decide) (by decide), ← ee 333 (by decide) (by decide)]
    exact m1
  · intro k hk
    obtain ⟨a1, a2, a3, a4⟩ := m2 k hk
    refine ⟨by rw [← ee _ (by decide) (by decide)]; exact a1, by rw [← ee _ (by decide) (by decide)]; exact a2, a3, fun z g1 g2 => ?_⟩
    have b1 := a4 z g1 g2
    unfold m_bok at b1 ⊢
    rw [← ee 351 (by decide) (by decide), ← ee 352 (by decide) (by decide), ← ee 353 (by decide) (by decide), ← ee 354 (by decide) (by decide), ← ee 348 (by decide) (by decide), ← ee 349 (by decide) (by decide), ← ee 350 (by decide) (by decide)]
    exact b1
  · rw [← en]; exact m4
  · intro p hp
    rw [← ee 336 (by decide) (by decide), ← ee 337 (by decide) (by decide)]
    exact m5 p hp
  · intro k hk; rw [← en]; exact m6 k hk
  · unfold PaR at p1 ⊢
    rw [← ep (pw w) (by omega) (by omega), ← ep (pw w + 4) (by omega) (by omega), ← ep (pw w + 5) (by omega) (by omega), ← ee 345 (by decide) (by decide), ← ee 336 (by decide) (by decide), ← ee 337 (by decide) (by decide), ← ee 339 (by decide) (by decide), ← ee 340 (by decide) (by decide)]
    exact p1
  · intro k hk
    obtain ⟨f, B, a1, a2, a3, a4, a5, a6⟩ := l1 k hk
    have eav : m_av Z tf tm tt te fl nl = m_av X tf tm tt te fl nl := av_congr (ee _ (by decide) (by decide)) (ee _ (by decide) (by decide)) (ee _ (by decide) (by decide))
    rw [← ep (pw w + 9) (by omega) (by omega), ← ep (pw w + 10) (by omega) (by omega), ← ep (pw w + 11) (by omega) (by omega), ← ep (pw w + 12) (by omega) (by omega), ← eav]
    exact ⟨f, B, a1, a2, a3, a4, a5, a6⟩
  · rw [← en]
    exact StR_fr s1 (fun b g1 g2 => (ep b (by omega) (by omega)).symm)
  · rw [← en]; exact r1
theorem IVb_mk (h : IVb B w I J lv P H F L tf tm tt te fl nl U nxt T n hb) (g : ∀ b, ((9 ≤ b ∧ b ≤ 40) ∨ b = 49 ∨ (57 ≤ b ∧ b ≤ 298) ∨ (304 ≤ b ∧ b ≤ 322) ∨ (333 ≤ b ∧ b ≤ 354) ∨ b = 356 ∨ b = 358 ∨ b = 359 ∨ b = 363 ∨ b = 368 ∨ b = 369) → X b = I b) (g18 : X 323 18 = I 323 18) (g59 : X 323 59 = I 323 59) (g0 : X 0 12 = I 0 12) (ht : TdR X H T2) (tp : X 1 1 = nI n2 ∧ X 323 2 = nI n2 ∧ n2 ≤ 2000 ∧ X 2 = X 324) (hpl : X 3 2 = X 323 17) (hk : kwR 32 (J' 8) ∧ kwR 27 (J' 330)) : IVb B w X J' lv P H F L tf tm tt te fl nl U nxt T2 n2 hb := by
  obtain ⟨hq, ⟨l1, l2, l3⟩, hs, -, -, -, -, ⟨b1, b2, b3⟩, hh, hy, hyu⟩ := h
  have hp := pw_or w
  have hfx : Fx I X := ⟨fun b hb => g b (by omega), g18, fun k hk => by rw [g 49 (by omega)]; exact hq.1.2.2.2 k hk, fun k hk => by rw [g _ (by decide)]; exact hq.1.1.2.2.1 k hk, fun k hk => by rw [g _ (by decide)]; exact hq.1.1.2.2.2.2.2.2 k hk⟩
  refine ⟨XQ_fx hq hfx, ⟨RMz_f l1 (fun q q1 q2 => g q (by omega)), RXl_f l2 (fun q q1 q2 => g q (by omega)) (Nat.le_refl _), l3⟩, HsR_f hs (g 57 (by omega)) g59 (g _ (by decide)) (fun b q1 q2 => g b (by omega)), ht, tp, hpl, hk, ⟨b1, by rw [g0]; exact b2, fun k q => by rw [g 368 (by decide)]; exact b3 k q⟩, fun k q1 q2 => ?_, by rw [g 358 (by decide)]; exact hy, fun k q => by rw [g 363 (by decide)]; exact hyu k q⟩
  rw [g 369 (by decide)]
  obtain ⟨c1, c2, c3⟩ := hh k q1 q2
  exact ⟨StR_fr c1 (fun b q3 q4 => g b (by omega)), c2, c3⟩
/-- two contracts, one behind the other -/
theorem PP_rt {d d2 dd y z : Nat} {as : List Value} {x : Int32} (hd : d ≤ dd) (hd2 : d2 ≤ dd) (hx : RT d y (.ref 0 :: as) (nx, ns, SH w, I, J) (some (.int x)) (nx, ns, SH w, X, J)) (hm : RT d2 z (.ref 323 :: as) (nx, ns, SH w, X, J) (some (.int x)) (nx, ns, SH w, Y, J)) (hI : IVb B w Y J lv P H F L tf tm tt te fl nl U nxt T n hb) : PP B dd y z as (nx, ns, SH w, I, J) := by
  refine EV_mono (EV_up hd hx) ?_
  rintro v u1 ⟨rfl, rfl⟩
  refine ⟨x, rfl, EV_mono (EV_up hd2 hm) ?_⟩
  rintro v2 u2 ⟨rfl, rfl⟩
  exact ⟨rfl, w, Y, J, rfl, lv, P, H, F, L, tf, tm, tt, te, fl, nl, U, nxt, T, n, hb, IVb_up hI (by omega)⟩
theorem bt_8 : ∀ hb : Fin 8, m_bt (nI hb.val) 10 = (if (if hb.val.testBit 0 = true then nI 1 else nI 0) = nI 0 then nI 0 else nI 1) + (if (if hb.val.testBit 1 = true then nI 1 else nI 0) = nI 0 then nI 0 else nI 1) + (if (if hb.val.testBit 2 = true then nI 1 else nI 0) = nI 0 then nI 0 else nI 1) := by decide +kernel
theorem pp_count {x : Int32} (h : IVb B w I J lv P H F L tf tm tt te fl nl U nxt T n hb) : PP B 40 7 180 [.int x] (nx, ns, SH w, I, J) := by
  obtain ⟨-, -, hs, ht, htp, -, -, ⟨b1, b2, b3⟩, -⟩ := id h
  have h11 : m_bt (nI hb) 10 = a_h3 (I 368) := by
    unfold a_h3
    rw [b3 0 (by omega), b3 1 (by omega), b3 2 (by omega)]
    exact bt_8 ⟨hb, b1⟩
  refine PP_q (d2 := 10) h (by omega) (by omega) (xv_count h.1 (htp.1.trans htp.2.1.symm) (hs.2.2.2.1.trans hs.2.2.2.2.1.symm) (ht.2.1.trans ht.2.2.1.symm) b1 b2 h11) (fun X hc h2 => ?_)
  have e : a_count X tf tm tt te fl nl P H F x = a_count I tf tm tt te fl nl P H F x := by
    show a_count (cutM X) tf tm tt te fl nl P H F x = a_count (cutM I) tf tm tt te fl nl P H F x
    rw [cutM_cx hc]
  rw [← e]
  exact EV_up (by omega) (v_count h2.1.1.1)
theorem pp_place (h : IVb B w I J lv P H F L tf tm tt te fl nl U nxt T n hb) : PP B 40 4 75 [] (nx, ns, SH w, I, J) := by
  have hx := @c_xplace w nx ns I J
  rw [h.2.2.2.2.2.1] at hx
  exact PP_rt (by omega) (by omega) hx c_place h
theorem pp_forget (h : IVb B w I J lv P H F L tf tm tt te fl nl U nxt T n hb) : PP B 40 41 172 [] (nx, ns, SH w, I, J) := by
  obtain ⟨-, -, -, ht, htp, hpl, hk, -⟩ := id h
  have hx := @c_xforget w nx ns I J
  have hm := @c_forget w nx ns (mm_up I 299 (mm_up (I 299) 4 (nI 0))) J
  have e : mm_up I 299 (mm_up (I 299) 4 (nI 0)) 323 62 = I 299 4 := by rw [up_ne (by decide), ht.2.1, ht.2.2.1]
  rw [e] at hm
  refine PP_rt (by omega) (by omega) hx hm (IVb_mk (T2 := 0) (n2 := n) h (fun b hb => by rw [up_ne (by omega), up_ne (by omega)]) rfl rfl rfl ⟨by omega, rfl, rfl, fun i hi => by omega⟩ htp hpl hk)
theorem pp_feed {a b c d e : Int32} (h : IVb B w I J lv P H F L tf tm tt te fl nl U nxt T n hb) : PP B 40 1 57 [.int a, .int b, .int c, .int d, .int e] (nx, ns, SH w, I, J) := by
  obtain ⟨-, -, -, ht, ⟨t1, t2, t3, t4⟩, hpl, hk, -⟩ := id h
  have hx := @c_xfeed w nx ns I J n a b c d e t3 t1
  by_cases q : n + 20 ≤ 2000
  · rw [if_pos q, if_pos q] at hx
    have hm := @c_feed w nx ns (mm_up (mm_up I 1 (mm_up (I 1) 1 (nI (n + 20)))) 2 (m_feed (I 2) n a b c d e)) J n a b c d e t3 t2
    rw [if_pos q, if_pos q] at hm
    refine PP_rt (by omega) (by omega) hx hm (IVb_mk (T2 := T) (n2 := n + 20) h (fun b hb => by simp (disch := omega) only [up_ne]) rfl rfl rfl (TdR_f ht rfl rfl (fun b hb => by simp (disch := omega) only [up_ne])) ⟨rfl, rfl, q, ?_⟩ hpl hk)
    show m_feed (I 2) n a b c d e = m_feed (I 324) n a b c d e
    rw [t4]
  · rw [if_neg q, if_neg q] at hx
    have hm := @c_feed w nx ns I J n a b c d e t3 t2
    rw [if_neg q, if_neg q] at hm
    exact PP_rt (by omega) (by omega) hx hm h
theorem pp_back {a : Int32} (h : IVb B w I J lv P H F L tf tm tt te fl nl U nxt T n hb) : PP B 40 2 59 [.int a] (nx, ns, SH w, I, J) := by
  obtain ⟨-, -, -, ht, ⟨t1, t2, t3, t4⟩, hpl, hk, -⟩ := id h
  have hx := @c_xback w nx ns I J n a t3 t1
  by_cases q : a_backok n a = nI 0
  · rw [if_pos q, if_pos q] at hx
    have hm := @c_back w nx ns I J n a t3 t2
    rw [if_pos q, if_pos q] at hm
    exact PP_rt (by omega) (by omega) hx hm h
  · rw [if_neg q, if_neg q] at hx
    have hm := @c_back w nx ns (mm_up I 1 (mm_up (I 1) 1 (nI (n - a.toNatClampNeg)))) J n a t3 t2
    rw [if_neg q, if_neg q] at hm
    exact PP_rt (by omega) (by omega) hx hm (IVb_mk (T2 := T) (n2 := n - a.toNatClampNeg) h (fun b hb => by simp (disch := omega) only [up_ne]) rfl rfl rfl (TdR_f ht rfl rfl (fun b hb => by simp (disch := omega) only [up_ne])) ⟨rfl, rfl, by omega, t4⟩ hpl hk)
end Rr
