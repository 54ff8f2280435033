/-! ===== What laws tell: steps, branches ===== -/
/-- a code over a stack; none: a divisor 0 -/
def ev (vr : Nat → Int32) : PC → List Int32 → Option (List Int32)
  | [], l => some l
  | x :: c, l => if x.1 = 0 then ev vr c (x.2 :: l) else if x.1 = 1 then ev vr c (vr x.2.toNatClampNeg :: l) else match l with
    | b :: a :: l2 => if x.1 = 5 ∧ b = nI 0 then none else ev vr c (m_op (nI x.1) a b :: l2)
    | _ => none
/-- what a law tells -/
def lev (vr : Nat → Int32) : List PI → PC → Int32
  | [], c => match ev vr c [] with | some l => l.headD (nI 0) | none => nI 0
  | t :: l, c => match ev vr t.1 [] with
    | none => nI 0
    | some u => match ev vr t.2.1 [] with
      | none => nI 0
      | some v => if u.headD (nI 0) < v.headD (nI 0) then (match ev vr t.2.2 [] with | some l => l.headD (nI 0) | none => nI 0) else lev vr l c
section Rg
variable {vr : Nat → Int32}
theorem ev_len {M : Nat} : ∀ (c : PC) (m m2 : Nat) (l l2 : List Int32), cst c m m2 M → l.length = m → ev vr c l = some l2 → l2.length = m2 := by
  intro c
  induction c with
  | nil =>
    intro m m2 l l2 h hl he
    have h1 : m = m2 := h
    simp only [ev, Option.some.injEq] at he
    rw [← he, hl, h1]
  | cons x c ih =>
    intro m m2 l l2 h hl he
    simp only [ev] at he
    rcases h with ⟨a1, a2, a3⟩ | ⟨a1, a2, a3, a4⟩ | ⟨a1, a2, a3, a4, a5⟩
    · rw [if_pos a1] at he
      exact ih _ _ _ _ a3 (by rw [List.length_cons, hl]) he
    · rw [if_neg (by omega), if_pos a1] at he
      exact ih _ _ _ _ a4 (by rw [List.length_cons, hl]) he
    · rw [if_neg (by omega), if_neg (by omega)] at he
      match l, hl, he with
      | b :: a :: l3, hl, he =>
        simp only at he
        split at he
        · simp at he
        · exact ih _ _ _ _ a5 (by simp only [List.length_cons] at hl ⊢; omega) he
      | [], hl, he => simp at he
      | [_], hl, he => simp at he
theorem ev_base {M : Nat} {z : List Int32} : ∀ (c : PC) (m m2 : Nat) (l : List Int32), cst c m m2 M → l.length = m → ev vr c (l ++ z) = (ev vr c l).map (fun q => q ++ z) := by
  intro c
  induction c with
  | nil => intro m m2 l h hl; rfl
  | cons x c ih =>
    intro m m2 l h hl
    simp only [ev]
    rcases h with ⟨a1, a2, a3⟩ | ⟨a1, a2, a3, a4⟩ | ⟨a1, a2, a3, a4, a5⟩
    · rw [if_pos a1, if_pos a1]
      exact ih _ _ (x.2 :: l) a3 (by rw [List.length_cons, hl])
    · rw [if_neg (by omega), if_pos a1, if_neg (by omega), if_pos a1]
      exact ih _ _ (vr x.2.toNatClampNeg :: l) a4 (by rw [List.length_cons, hl])
    · rw [if_neg (by omega), if_neg (by omega), if_neg (by omega), if_neg (by omega)]
      match l, hl with
      | b :: a :: l3, hl =>
        simp only [List.cons_append]
        split
        · rfl
        · exact ih _ _ (m_op (nI x.1) a b :: l3) a5 (by simp only [List.length_cons] at hl ⊢; omega)
      | [], hl => simp at hl; omega
      | [_], hl => simp at hl; omega
theorem cst_sh {M : Nat} (k : Nat) : ∀ (c : PC) (m m2 : Nat), cst c m m2 M → cst c (m + k) (m2 + k) (M + k) := by
  intro c
  induction c with
  | nil => intro m m2 h; have h1 : m = m2 := h; show m + k = m2 + k; rw [h1]
  | cons x c ih =>
    intro m m2 h
    rcases h with ⟨a1, a2, a3⟩ | ⟨a1, a2, a3, a4⟩ | ⟨a1, a2, a3, a4, a5⟩
    · have := ih _ _ a3
      rw [show m + 1 + k = m + k + 1 by omega] at this
      exact Or.inl ⟨a1, by omega, this⟩
    · have := ih _ _ a4
      rw [show m + 1 + k = m + k + 1 by omega] at this
      exact Or.inr (Or.inl ⟨a1, a2, by omega, this⟩)
    · have := ih _ _ a5
      rw [show m - 1 + k = m + k - 1 by omega] at this
      exact Or.inr (Or.inr ⟨a1, a2, by omega, by omega, this⟩)
/-- the class's row from q on holds c -/
def hasc (st nm : Nat → Int32) (q : Nat) (c : PC) : Prop := ∀ i x, c[i]? = some x → st (q + i) = nI x.1 ∧ nm (q + i) = x.2
theorem hasc_l {st nm : Nat → Int32} {q : Nat} {c d : PC} (h : hasc st nm q (c ++ d)) : hasc st nm q c := fun i x hx => h i x (by
  have hi : i < c.length := by
    rcases Nat.lt_or_ge i c.length with k | k
    · exact k
    · rw [List.getElem?_eq_none k] at hx; simp at hx
  rw [List.getElem?_append_left hi]; exact hx)
theorem hasc_r {st nm : Nat → Int32} {q : Nat} {c d : PC} (h : hasc st nm q (c ++ d)) : hasc st nm (q + c.length) d := fun i x hx => by
  have := h (c.length + i) x (by rw [List.getElem?_append_right (by omega), Nat.add_sub_cancel_left]; exact hx)
  rw [← Nat.add_assoc] at this
  exact this
theorem xv_ev {st nm : Nat → Int32} {B M : Nat} (hM : M ≤ 64) : ∀ (c : PC) (n q m m2 : Nat) (l : List Int32), hasc st nm q c → q + c.length ≤ B → cst c m m2 M → l.length = m → x_v st nm vr B (n + c.length) q l = match ev vr c l with | some l2 => x_v st nm vr B n (q + c.length) l2 | none => nI 0 := by
  intro c
  induction c with
  | nil => intro n q m m2 l h hB hc hl; rfl
  | cons x c ih =>
    intro n q m m2 l h hB hc hl
    obtain ⟨g1, g2⟩ := h 0 x rfl
    rw [Nat.add_zero] at g1 g2
    have h2 : hasc st nm (q + 1) c := by
      have := hasc_r (c := [x]) (d := c) h
      exact this
    rw [List.length_cons] at hB
    rw [List.length_cons, show n + (c.length + 1) = (n + c.length) + 1 by omega, show q + (c.length + 1) = q + 1 + c.length by omega]
    simp only [x_v, ev]
    rw [if_neg (show ¬ B ≤ q by omega), g1, g2]
    rcases hc with ⟨a1, a2, a3⟩ | ⟨a1, a2, a3, a4⟩ | ⟨a1, a2, a3, a4, a5⟩
    · rw [a1, if_pos rfl, if_neg (by omega), if_pos rfl]
      exact ih n (q + 1) _ _ _ h2 (by omega) a3 (by rw [List.length_cons, hl])
    · rw [a1, if_neg (by decide), if_pos rfl, if_neg (by omega), if_neg (by decide), if_pos rfl]
      exact ih n (q + 1) _ _ _ h2 (by omega) a4 (by rw [List.length_cons, hl])
    · have n0 : ¬ nI x.1 = nI 0 := fun e => by have := (nI_eq (by omega) (by omega)).mp e; omega
      have n1 : ¬ nI x.1 = nI 1 := fun e => by have := (nI_eq (by omega) (by omega)).mp e; omega
      have n7 : ¬ nI x.1 = nI 7 := fun e => by have := (nI_eq (by omega) (by omega)).mp e; omega
      have n6 : ¬ nI x.1 = nI 6 := fun e => by have := (nI_eq (by omega) (by omega)).mp e; omega
      have n5 : nI x.1 = nI 5 ↔ x.1 = 5 := nI_eq (by omega) (by omega)
      rw [if_neg n0, if_neg n1, if_neg n7, if_neg (show ¬ x.1 = 0 by omega), if_neg (show ¬ x.1 = 1 by omega)]
      match l, hl with
      | b :: a :: l3, hl =>
        simp only
        rw [if_neg n6]
        by_cases d : x.1 = 5 ∧ b = nI 0
        · rw [if_pos d, if_pos ⟨n5.mpr d.1, d.2⟩]
        · rw [if_neg d, if_neg (fun e => d ⟨n5.mp e.1, e.2⟩)]
          exact ih n (q + 1) _ _ _ h2 (by omega) a5 (by simp only [List.length_cons] at hl ⊢; omega)
      | [], hl => simp at hl; omega
      | [_], hl => simp at hl; omega
theorem len1 {l : List Int32} (h : l.length = 1) : l = [l.headD (nI 0)] := by
  match l, h with
  | [x], _ => rfl
/-- the class's steps tell what the law tells -/
theorem xv_lev {st nm : Nat → Int32} : ∀ (l : List PI) (c : PC) (s n : Nat), csL l c → hasc st nm s (lwc s l c) → s + (lwc s l c).length ≤ 404 → (lwc s l c).length < n → x_v st nm vr (s + (lwc s l c).length) n s [] = lev vr l c := by
  intro l
  induction l with
  | nil =>
    intro c s n hcs h hs hn
    obtain ⟨k, rfl⟩ : ∃ k, n = k + 1 + (lwc s [] c).length := ⟨n - 1 - (lwc s [] c).length, by omega⟩
    have hx := xv_ev (vr := vr) (st := st) (nm := nm) (B := s + (lwc s [] c).length) (M := 15) (by omega) (lwc s [] c) (k + 1) s 0 1 [] h (Nat.le_refl _) hcs.2 rfl
    rw [hx]
    show _ = (match ev vr c [] with | some l => l.headD (nI 0) | none => nI 0)
    have e : lwc s [] c = c := rfl
    rw [e]
    cases hq : ev vr c [] with
    | none => rfl
    | some l2 =>
      simp only [x_v]
      rw [if_pos (Nat.le_refl _)]
  | cons t l ih =>
    intro c s n hcs h hs hn
    have ht := hcs.1 t (by simp)
    have el : lwc s (t :: l) c = t.1 ++ (t.2.1 ++ ((6, nI (s + ifl t)) :: (t.2.2 ++ [(7, nI 0)]))) ++ lwc (s + ifl t) l c := rfl
    have hlen : (lwc s (t :: l) c).length = ifl t + (lwc (s + ifl t) l c).length := by
      show (ifc s t ++ lwc (s + ifl t) l c).length = _
      rw [List.length_append, ifc_len]
    have hif : ifl t = t.1.length + t.2.1.length + t.2.2.length + 2 := rfl
    obtain ⟨B, hB⟩ : ∃ B, B = s + (lwc s (t :: l) c).length := ⟨_, rfl⟩
    rw [← hB]
    rw [el] at h
    have h1 := hasc_l (hasc_l h)
    have h2 := hasc_r (hasc_l h)
    have h3 := hasc_l h2
    have h4 := hasc_r h2
    have h5 : hasc st nm (s + t.1.length + t.2.1.length + 1) (t.2.2 ++ [(7, nI 0)]) := hasc_r (c := [(6, nI (s + ifl t))]) h4
    have h6 := hasc_l h5
    have h7 := hasc_r h5
    have h8 : hasc st nm (s + ifl t) (lwc (s + ifl t) l c) := by
      have := hasc_r h
      have e9 := @ifc_len s t
      unfold ifc at e9
      rw [e9] at this
      exact this
    obtain ⟨g6, g6n⟩ := h4 0 (6, nI (s + ifl t)) rfl
    obtain ⟨g7, -⟩ := h7 0 (7, nI 0) rfl
    simp only [Nat.add_zero] at g6 g6n g7
    -- the first expression
    obtain ⟨n1, rfl⟩ : ∃ n1, n = n1 + t.1.length := ⟨n - t.1.length, by omega⟩
    rw [xv_ev (B := B) (M := 15) (by omega) t.1 n1 s 0 1 [] h1 (by omega) ht.1 rfl]
    simp only [lev]
    cases hq1 : ev vr t.1 [] with
    | none => rfl
    | some u =>
      obtain ⟨u0, rfl⟩ : ∃ u0, u = [u0] := ⟨_, len1 (ev_len t.1 0 1 [] u ht.1 rfl hq1)⟩
      simp only
      obtain ⟨n2, rfl⟩ : ∃ n2, n1 = n2 + t.2.1.length := ⟨n1 - t.2.1.length, by omega⟩
      have hc2 : cst t.2.1 1 2 16 := cst_sh 1 t.2.1 0 1 ht.2.1
      rw [xv_ev (B := B) (M := 16) (by omega) t.2.1 n2 (s + t.1.length) 1 2 [u0] h3 (by omega) hc2 rfl]
      have e8 : ev vr t.2.1 [u0] = (ev vr t.2.1 []).map (fun q => q ++ [u0]) := ev_base (z := [u0]) t.2.1 0 1 [] ht.2.1 rfl
      rw [e8]
      cases hq2 : ev vr t.2.1 [] with
      | none => rfl
      | some v =>
        obtain ⟨v0, rfl⟩ : ∃ v0, v = [v0] := ⟨_, len1 (ev_len t.2.1 0 1 [] v ht.2.1 rfl hq2)⟩
        simp only [Option.map_some, List.nil_append, List.cons_append]
        obtain ⟨n3, rfl⟩ : ∃ n3, n2 = n3 + 1 := ⟨n2 - 1, by omega⟩
        simp only [x_v]
        rw [if_neg (show ¬ B ≤ s + t.1.length + t.2.1.length by omega), g6, if_neg (by decide), if_neg (by decide), if_neg (by decide), if_pos rfl]
        by_cases d : u0 < v0
        · rw [if_pos d, if_pos (show [u0].headD (nI 0) < [v0].headD (nI 0) from d)]
          obtain ⟨n4, rfl⟩ : ∃ n4, n3 = n4 + t.2.2.length := ⟨n3 - t.2.2.length, by omega⟩
          rw [xv_ev (B := B) (M := 15) (by omega) t.2.2 n4 (s + t.1.length + t.2.1.length + 1) 0 1 [] h6 (by omega) ht.2.2 rfl]
          cases hq3 : ev vr t.2.2 [] with
          | none => rfl
          | some y =>
            obtain ⟨n5, rfl⟩ : ∃ n5, n4 = n5 + 1 := ⟨n4 - 1, by omega⟩
            simp only [x_v]
            rw [if_neg (show ¬ B ≤ s + t.1.length + t.2.1.length + 1 + t.2.2.length by omega), g7, if_neg (by decide), if_neg (by decide), if_pos rfl]
        · rw [if_neg d, if_neg (show ¬ [u0].headD (nI 0) < [v0].headD (nI 0) from d), g6n, nI_clamp (by omega), show max (s + t.1.length + t.2.1.length) (s + ifl t - 1) + 1 = s + ifl t by omega]
          have := ih c (s + ifl t) n3 ⟨fun z hz => hcs.1 z (by simp [hz]), hcs.2⟩ h8 (by omega) (by omega)
          rw [show s + ifl t + (lwc (s + ifl t) l c).length = B by omega] at this
          exact this
end Rg
