/-! ===== What laws tell: the reference ===== -/
section Rh
variable {vr : Nat → Int32} {cd ci : Nat → Int32}
theorem tok_cst {M : Nat} (hM : M ≤ 400) : ∀ (c : PC) (q m : Nat), hasc cd ci q c → q + c.length ≤ 840 → cst c m 1 M → m_tok cd ci c.length q m := by
  intro c
  induction c with
  | nil => intro q m h hq hc; exact hc
  | cons x c ih =>
    intro q m h hq hc
    obtain ⟨g1, g2⟩ := h 0 x rfl
    rw [Nat.add_zero] at g1 g2
    have h2 : hasc cd ci (q + 1) c := hasc_r (c := [x]) (d := c) h
    rw [List.length_cons] at hq
    have hl : (x :: c).length = c.length + 1 := rfl
    rw [hl]
    simp only [m_tok]
    refine ⟨by omega, ?_⟩
    rcases hc with ⟨a1, a2, a3⟩ | ⟨a1, a2, a3, a4⟩ | ⟨a1, a2, a3, a4, a5⟩
    · exact Or.inl ⟨by rw [g1, a1], by omega, ih _ _ h2 (by omega) a3⟩
    · obtain ⟨j, j1, j2⟩ := a2
      exact Or.inr (Or.inl ⟨by rw [g1, a1], by omega, by rw [g2, j2]; exact vp_in_nI j1 (by omega), ih _ _ h2 (by omega) a4⟩)
    · exact Or.inr (Or.inr ⟨⟨x.1, a1, a2, g1⟩, a3, by omega, ih _ _ h2 (by omega) a5⟩)
theorem tm_ev {M : Nat} : ∀ (c : PC) (q m m2 : Nat) (l : List Int32) (pl : Nat → Int32), hasc cd ci q c → cst c m m2 M → l.length = m → stk pl l → (∀ l2, ev vr c l = some l2 → (m_tm cd ci vr c.length q m pl).2.2 = false ∧ stk (m_tm cd ci vr c.length q m pl).1 l2 ∧ (m_tm cd ci vr c.length q m pl).2.1 = (m_tm cd ci vr c.length q m pl).1 0) ∧ (ev vr c l = none → (m_tm cd ci vr c.length q m pl).2.2 = true ∧ (m_tm cd ci vr c.length q m pl).2.1 = nI 0) := by
  intro c
  induction c with
  | nil =>
    intro q m m2 l pl h hc hl hs
    refine ⟨fun l2 h2 => ?_, fun h2 => by simp [ev] at h2⟩
    simp only [ev, Option.some.injEq] at h2
    subst h2
    exact ⟨rfl, hs, rfl⟩
  | cons x c ih =>
    intro q m m2 l pl h hc hl hs
    obtain ⟨g1, g2⟩ := h 0 x rfl
    rw [Nat.add_zero] at g1 g2
    have h2 : hasc cd ci (q + 1) c := hasc_r (c := [x]) (d := c) h
    have hll : (x :: c).length = c.length + 1 := rfl
    rw [hll]
    simp only [m_tm, ev]
    rw [g1, g2]
    rcases hc with ⟨a1, a2, a3⟩ | ⟨a1, a2, a3, a4⟩ | ⟨a1, a2, a3, a4, a5⟩
    · rw [a1, if_pos rfl, if_pos rfl]
      exact ih _ _ _ _ _ h2 a3 (by rw [List.length_cons, hl]) (by rw [← hl]; exact stk_push hs)
    · rw [a1, if_neg (by decide), if_pos rfl, if_neg (by decide), if_pos rfl]
      exact ih _ _ _ _ _ h2 a4 (by rw [List.length_cons, hl]) (by rw [← hl]; exact stk_push hs)
    · have n0 : ¬ nI x.1 = nI 0 := fun e => by have := (nI_eq (by omega) (by omega)).mp e; omega
      have n1 : ¬ nI x.1 = nI 1 := fun e => by have := (nI_eq (by omega) (by omega)).mp e; omega
      have n5 : nI x.1 = nI 5 ↔ x.1 = 5 := nI_eq (by omega) (by omega)
      rw [if_neg n0, if_neg n1, if_neg (show ¬ x.1 = 0 by omega), if_neg (show ¬ x.1 = 1 by omega)]
      match l, hl, hs with
      | b :: a :: l3, hl, hs =>
        simp only [List.length_cons] at hl
        have e1 : pl (m - 1) = b := by
          have := hs.1
          rw [List.length_cons] at this
          rw [show m - 1 = l3.length + 1 by omega]; exact this
        have e2 : pl (m - 2) = a := by rw [show m - 2 = l3.length by omega]; exact hs.2.1
        rw [e1, e2]
        simp only
        by_cases d : x.1 = 5 ∧ b = nI 0
        · rw [if_pos d, if_pos ⟨n5.mpr d.1, d.2⟩]
          exact ⟨fun l2 q => by simp at q, fun _ => ⟨rfl, rfl⟩⟩
        · rw [if_neg d, if_neg (fun e => d ⟨n5.mp e.1, e.2⟩)]
          exact ih _ _ _ _ _ h2 a5 (by simp only [List.length_cons]; omega) (by rw [show m - 2 = l3.length by omega]; exact stk_push hs.2.2)
      | [], hl, hs => simp at hl; omega
      | [_], hl, hs => simp at hl; omega
/-- an expression's value, by the reference -/
theorem tm_1 {c : PC} {q : Nat} {pl : Nat → Int32} (h : hasc cd ci q c) (hc : cs1 c) : (∀ l2, ev vr c [] = some l2 → (m_tm cd ci vr c.length q 0 pl).2.2 = false ∧ (m_tm cd ci vr c.length q 0 pl).2.1 = l2.headD (nI 0)) ∧ (ev vr c [] = none → (m_tm cd ci vr c.length q 0 pl).2.2 = true ∧ (m_tm cd ci vr c.length q 0 pl).2.1 = nI 0) := by
  obtain ⟨h1, h2⟩ := tm_ev (vr := vr) c q 0 1 [] pl h hc rfl trivial
  refine ⟨fun l2 hl => ?_, h2⟩
  obtain ⟨a1, a2, a3⟩ := h1 l2 hl
  refine ⟨a1, ?_⟩
  have := len1 (ev_len c 0 1 [] l2 hc rfl hl)
  rw [this] at a2
  rw [a3]
  exact a2.1
/-- branches, with numbers -/
def BRN (ht : Nat → Int32) (tf tm tt te : Nat → Nat) : Nat → Nat → List PI → PC → Prop
  | br, cd, [], c => ht br = nI 0 ∧ tt br = cd ∧ te br = cd + c.length
  | br, cd, t :: l, c => ht br = nI 1 ∧ tf br = cd ∧ tm br = cd + t.1.length ∧ tt br = cd + t.1.length + t.2.1.length ∧ te br = cd + t.1.length + t.2.1.length + t.2.2.length ∧ BRN ht tf tm tt te (br + 1) (cd + t.1.length + t.2.1.length + t.2.2.length) l c
theorem BR_n {ht tf tm tt te : Nat → Int32} : ∀ (l : List PI) (c : PC) (br c0 : Nat), BR ht tf tm tt te br c0 l c → c0 + (flc l c).length < 2 ^ 31 → BRN ht (fun z => (tf z).toNatClampNeg) (fun z => (tm z).toNatClampNeg) (fun z => (tt z).toNatClampNeg) (fun z => (te z).toNatClampNeg) br c0 l c := by
  intro l
  induction l with
  | nil =>
    intro c br c0 h hb
    obtain ⟨h1, h2, h3⟩ := h
    have hb2 : c0 + c.length < 2 ^ 31 := hb
    exact ⟨h1, by show (tt br).toNatClampNeg = _; rw [h2, nI_clamp (by omega)], by show (te br).toNatClampNeg = _; rw [h3, nI_clamp (by omega)]⟩
  | cons t l ih =>
    intro c br c0 h hb
    obtain ⟨h1, h2, h3, h4, h5, h6⟩ := h
    have hb2 : c0 + (t.1 ++ (t.2.1 ++ (t.2.2 ++ flc l c))).length < 2 ^ 31 := hb
    simp only [List.length_append] at hb2
    exact ⟨h1, by show (tf br).toNatClampNeg = _; rw [h2, nI_clamp (by omega)], by show (tm br).toNatClampNeg = _; rw [h3, nI_clamp (by omega)], by show (tt br).toNatClampNeg = _; rw [h4, nI_clamp (by omega)], by show (te br).toNatClampNeg = _; rw [h5, nI_clamp (by omega)], ih c (br + 1) _ h6 (by omega)⟩
theorem ls_lev {ht : Nat → Int32} {tf tm tt te : Nat → Nat} : ∀ (l : List PI) (c : PC) (br c0 : Nat) (pl : Nat → Int32), csL l c → BRN ht tf tm tt te br c0 l c → hasc cd ci c0 (flc l c) → (m_ls cd ci vr ht tf tm tt te (l.length + 1) br pl).2.1 = lev vr l c := by
  intro l
  induction l with
  | nil =>
    intro c br c0 pl hcs h hc
    obtain ⟨h1, h2, h3⟩ := h
    have hc2 : hasc cd ci c0 c := hc
    simp only [List.length_nil, m_ls, lev]
    rw [if_pos h1, h2, h3, Nat.add_sub_cancel_left]
    obtain ⟨t1, t2⟩ := tm_1 (vr := vr) (pl := pl) hc2 hcs.2
    cases hq : ev vr c [] with
    | none =>
      obtain ⟨a1, a2⟩ := t2 hq
      simp only [a1, if_true]
    | some l2 =>
      obtain ⟨a1, a2⟩ := t1 l2 hq
      simp only [a1, a2]
      simp
  | cons t l ih =>
    intro c br c0 pl hcs h hc
    obtain ⟨h1, h2, h3, h4, h5, h6⟩ := h
    have htt := hcs.1 t (by simp)
    have hc2 : hasc cd ci c0 (t.1 ++ (t.2.1 ++ (t.2.2 ++ flc l c))) := hc
    have k1 := hasc_l hc2
    have k2 := hasc_l (hasc_r hc2)
    have k3 := hasc_l (hasc_r (hasc_r hc2))
    have k4 := hasc_r (hasc_r (hasc_r hc2))
    have e1 : c0 + t.1.length - c0 = t.1.length := by omega
    have e2 : c0 + t.1.length + t.2.1.length - (c0 + t.1.length) = t.2.1.length := by omega
    have e3 : c0 + t.1.length + t.2.1.length + t.2.2.length - (c0 + t.1.length + t.2.1.length) = t.2.2.length := by omega
    have n0 : ¬ ht br = nI 0 := by rw [h1]; decide
    have hl : (t :: l).length + 1 = (l.length + 1) + 1 := rfl
    rw [hl]
    simp only [m_ls, lev]
    rw [if_neg n0, h2, h3, h4, h5, e1, e2, e3]
    obtain ⟨p1, p2⟩ := tm_1 (vr := vr) (pl := pl) k1 htt.1
    generalize m_tm cd ci vr t.1.length c0 0 pl = T1 at p1 p2 ⊢
    obtain ⟨q1, q2⟩ := tm_1 (vr := vr) (pl := T1.1) k2 htt.2.1
    generalize m_tm cd ci vr t.2.1.length (c0 + t.1.length) 0 T1.1 = T2 at q1 q2 ⊢
    obtain ⟨s1, s2⟩ := tm_1 (vr := vr) (pl := T2.1) k3 htt.2.2
    generalize m_tm cd ci vr t.2.2.length (c0 + t.1.length + t.2.1.length) 0 T2.1 = T3 at s1 s2 ⊢
    cases hq1 : ev vr t.1 [] with
    | none =>
      obtain ⟨a1, -⟩ := p2 hq1
      rw [if_pos (Or.inl a1)]
    | some u =>
      obtain ⟨a1, a2⟩ := p1 u hq1
      cases hq2 : ev vr t.2.1 [] with
      | none =>
        obtain ⟨b1, -⟩ := q2 hq2
        rw [if_pos (Or.inr b1)]
      | some v =>
        obtain ⟨b1, b2⟩ := q1 v hq2
        rw [if_neg (by rw [a1, b1]; simp), a2, b2]
        simp only
        by_cases d : u.headD (nI 0) < v.headD (nI 0)
        · rw [if_pos d, if_pos d]
          cases hq3 : ev vr t.2.2 [] with
          | none =>
            obtain ⟨g1, -⟩ := s2 hq3
            simp only [g1, if_true]
          | some y =>
            obtain ⟨g1, g2⟩ := s1 y hq3
            simp only [g1, g2]
            simp
        · rw [if_neg d, if_neg d]
          exact ih c (br + 1) _ T2.1 ⟨fun z hz => hcs.1 z (by simp [hz]), hcs.2⟩ h6 k4
end Rh
section Rh2
variable {I : Nat → Nat → Int32}
theorem bok_all : ∀ (l : List PI) (c : PC) (br c0 : Nat), csL l c → BR (I 348) (I 349) (I 350) (I 351) (I 352) br c0 l c → hasc (I 353) (I 354) c0 (flc l c) → br + l.length + 1 ≤ 260 → c0 + (flc l c).length ≤ 840 → ∀ z, br ≤ z → z < br + l.length + 1 → m_bok I (fun z => (I 349 z).toNatClampNeg) (fun z => (I 350 z).toNatClampNeg) (fun z => (I 351 z).toNatClampNeg) (fun z => (I 352 z).toNatClampNeg) z := by
  intro l
  induction l with
  | nil =>
    intro c br c0 hcs h hc hb hq z z1 z2
    have ez : z = br := by simp only [List.length_nil] at z2; omega
    subst ez
    obtain ⟨h1, h2, h3⟩ := h
    have hq2 : c0 + c.length ≤ 840 := hq
    unfold m_bok
    simp only [h2, h3]
    rw [nI_clamp (by omega), nI_clamp (by omega), Nat.add_sub_cancel_left]
    exact ⟨by simp only [List.length_nil] at hb; omega, rfl, rfl, by omega, hq2, tok_cst (M := 15) (by omega) c c0 0 hc hq2 hcs.2, Or.inl h1⟩
  | cons t l ih =>
    intro c br c0 hcs h hc hb hq z z1 z2
    obtain ⟨h1, h2, h3, h4, h5, h6⟩ := h
    have ht := hcs.1 t (by simp)
    have hc2 : hasc (I 353) (I 354) c0 (t.1 ++ (t.2.1 ++ (t.2.2 ++ flc l c))) := hc
    have hq2 : c0 + (t.1 ++ (t.2.1 ++ (t.2.2 ++ flc l c))).length ≤ 840 := hq
    simp only [List.length_append] at hq2
    simp only [List.length_cons] at hb z2
    have k1 := hasc_l hc2
    have k2 := hasc_l (hasc_r hc2)
    have k3 := hasc_l (hasc_r (hasc_r hc2))
    have k4 := hasc_r (hasc_r (hasc_r hc2))
    by_cases ez : z = br
    · subst ez
      unfold m_bok
      simp only [h2, h3, h4, h5]
      rw [nI_clamp (by omega), nI_clamp (by omega), nI_clamp (by omega), nI_clamp (by omega)]
      have e1 : c0 + t.1.length - c0 = t.1.length := by omega
      have e2 : c0 + t.1.length + t.2.1.length - (c0 + t.1.length) = t.2.1.length := by omega
      have e3 : c0 + t.1.length + t.2.1.length + t.2.2.length - (c0 + t.1.length + t.2.1.length) = t.2.2.length := by omega
      rw [e1, e2, e3]
      exact ⟨by omega, rfl, rfl, by omega, by omega, tok_cst (M := 15) (by omega) _ _ 0 k3 (by omega) ht.2.2, Or.inr ⟨h1, rfl, rfl, by omega, by omega, tok_cst (M := 15) (by omega) _ _ 0 k1 (by omega) ht.1, tok_cst (M := 15) (by omega) _ _ 0 k2 (by omega) ht.2.1⟩⟩
    · exact ih c (br + 1) _ ⟨fun z hz => hcs.1 z (by simp [hz]), hcs.2⟩ h6 k4 (by omega) (by omega) z (by omega) (by omega)
end Rh2
