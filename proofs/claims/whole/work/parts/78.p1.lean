/-! ===== Expressions, read purely: which fault, which token, what steps ===== -/
abbrev PR9 := Nat × Nat × List (Nat × Int32)
/-- one behind the other -/
def pq (r : PR9) (s : Nat → PR9) : PR9 := if r.1 = 0 then ((s r.2.1).1, (s r.2.1).2.1, r.2.2 ++ (s r.2.1).2.2) else r
def pU (K V : Nat → Nat) (g : Nat → Nat → Nat → PR9) (d a : Nat) : PR9 :=
  if K a = 30 then (if 6 ≤ d then (2, a, []) else if 400 ≤ a then (2, a, []) else if (g 3 (d + 1) (a + 1)).1 = 0 then (if K (g 3 (d + 1) (a + 1)).2.1 = 31 then (if 400 ≤ (g 3 (d + 1) (a + 1)).2.1 then (2, (g 3 (d + 1) (a + 1)).2.1, []) else (0, (g 3 (d + 1) (a + 1)).2.1 + 1, (g 3 (d + 1) (a + 1)).2.2)) else (1, (g 3 (d + 1) (a + 1)).2.1, [])) else g 3 (d + 1) (a + 1))
  else if 12 ≤ K a ∧ K a ≤ 20 then (if 400 ≤ a then (2, a, []) else (0, a + 1, [(1, nI (K a - 12))]))
  else if K a = 22 then (if 400 ≤ a then (2, a, []) else (0, a + 1, [(0, nI (V a))]))
  else (1, a, [])
/-- signs x, y with their steps, then another one, and so on -/
def pL (K : Nat → Nat) (g : Nat → Nat → Nat → PR9) (x y ox oy mu ml d a : Nat) : PR9 :=
  if K a = x ∨ K a = y then (if 400 ≤ a then (2, a, []) else pq (g mu d (a + 1)) (fun b => ((g ml d b).1, (g ml d b).2.1, (if K a = x then ox else oy, nI 0) :: (g ml d b).2.2))) else (0, a, [])
/-- modes: 0 a unit, 1 a product, 2 its rest, 3 a sum, 4 its rest -/
def pE (K V : Nat → Nat) : Nat → Nat → Nat → Nat → PR9
  | 0, _, _, a => (9, a, [])
  | f + 1, m, d, a =>
    if m = 0 then pU K V (pE K V f) d a
    else if m = 1 then pq (pE K V f 0 d a) (pE K V f 2 d)
    else if m = 2 then pL K (pE K V f) 27 28 4 5 0 2 d a
    else if m = 3 then pq (pE K V f 1 d a) (pE K V f 4 d)
    else pL K (pE K V f) 25 26 2 3 1 4 d a
theorem pE_0 {K V : Nat → Nat} {f d a : Nat} : pE K V (f + 1) 0 d a = pU K V (pE K V f) d a := rfl
theorem pE_1 {K V : Nat → Nat} {f d a : Nat} : pE K V (f + 1) 1 d a = pq (pE K V f 0 d a) (pE K V f 2 d) := rfl
theorem pE_2 {K V : Nat → Nat} {f d a : Nat} : pE K V (f + 1) 2 d a = pL K (pE K V f) 27 28 4 5 0 2 d a := rfl
theorem pE_3 {K V : Nat → Nat} {f d a : Nat} : pE K V (f + 1) 3 d a = pq (pE K V f 1 d a) (pE K V f 4 d) := rfl
theorem pE_4 {K V : Nat → Nat} {f d a : Nat} : pE K V (f + 1) 4 d a = pL K (pE K V f) 25 26 2 3 1 4 d a := rfl
/-- fuel that is enough -/
def pM (m a : Nat) : Nat := 5 * (401 - a) + (if m = 1 then 1 else if m = 3 then 2 else 0)
def pok (K : Nat → Nat) (m a : Nat) (r : PR9) : Prop := r.1 ≤ 2 ∧ a ≤ r.2.1 ∧ r.2.1 ≤ 400 ∧ (r.1 = 0 → (m = 0 ∨ m = 1 ∨ m = 3) → a < r.2.1) ∧ (∀ j, a ≤ j → j < r.2.1 → K j < 32) ∧ (r.1 = 0 → r.2.2.length ≤ r.2.1 - a) ∧ (r.1 = 0 → (m = 1 ∨ m = 2 ∨ m = 3 ∨ (m = 4 ∧ ¬ K a = 27 ∧ ¬ K a = 28)) → ¬ K r.2.1 = 27 ∧ ¬ K r.2.1 = 28) ∧ (r.1 = 0 → (m = 3 ∨ m = 4) → ¬ K r.2.1 = 25 ∧ ¬ K r.2.1 = 26)
theorem pok_fail {K : Nat → Nat} {m a b k : Nat} {c : List (Nat × Int32)} (h1 : k ≤ 2) (h2 : ¬ k = 0) (h3 : a ≤ b) (h4 : b ≤ 400) (h5 : ∀ j, a ≤ j → j < b → K j < 32) : pok K m a (k, b, c) := ⟨h1, h3, h4, fun h => absurd h h2, h5, fun h => absurd h h2, fun h => absurd h h2, fun h => absurd h h2⟩
theorem pok_ne {K : Nat → Nat} {m m1 a a1 : Nat} {r : PR9} (h : pok K m1 a1 r) (hr : ¬ r.1 = 0) (ha : a ≤ a1) (h5 : ∀ j, a ≤ j → j < a1 → K j < 32) : pok K m a r := by
  refine ⟨h.1, Nat.le_trans ha h.2.1, h.2.2.1, fun h => absurd h hr, fun j h1 h2 => ?_, fun h => absurd h hr, fun h => absurd h hr, fun h => absurd h hr⟩
  by_cases hj : j < a1
  · exact h5 j h1 hj
  · exact h.2.2.2.2.1 j (Nat.le_of_not_lt hj) h2
theorem pok_one {K : Nat → Nat} {a : Nat} {x : Nat × Int32} (h : K a < 32) (h4 : a < 400) : pok K 0 a (0, a + 1, [x]) := by
  refine ⟨Nat.zero_le _, Nat.le_succ _, h4, fun _ _ => Nat.lt_succ_self _, fun j h1 h2 => ?_, fun _ => ?_, fun _ h => ?_, fun _ h => ?_⟩
  · have h3 : j < a + 1 := h2
    have e : j = a := by omega
    rw [e]; exact h
  · show 1 ≤ a + 1 - a; omega
  · omega
  · omega
theorem len_h {l1 l2 l3 a b r2 s2 : Nat} (h1 : l1 ≤ r2 - a) (h2 : l2 ≤ a - b) (h3 : l3 ≤ s2 - r2) (h4 : b ≤ a) (h5 : a ≤ r2) (h6 : r2 ≤ s2) : l1 + (l2 + l3) ≤ s2 - b := by omega
theorem pok_2 {K : Nat → Nat} {a b m m1 m2 : Nat} {r s : PR9} (h1 : pok K m1 a r) (hm1 : m1 = 0 ∨ m1 = 1) (c : r.1 = 0) (h2 : pok K m2 r.2.1 s) (ha : b ≤ a) (h5 : ∀ j, b ≤ j → j < a → K j < 32) {x : List (Nat × Int32)} (hx : x.length ≤ a - b) (hm : (m1 = 0 ∧ m2 = 2 ∧ (m = 1 ∨ m = 2)) ∨ (m1 = 1 ∧ m2 = 4 ∧ (m = 3 ∨ m = 4))) : pok K m b (s.1, s.2.1, r.2.2 ++ (x ++ s.2.2)) := by
  have hlt : a < r.2.1 := h1.2.2.2.1 c (by rcases hm1 with e | e; exact Or.inl e; exact Or.inr (Or.inl e))
  have hrs : r.2.1 ≤ s.2.1 := h2.2.1
  have hbs : b < s.2.1 := Nat.lt_of_le_of_lt ha (Nat.lt_of_lt_of_le hlt hrs)
  refine ⟨h2.1, Nat.le_of_lt hbs, h2.2.2.1, fun _ _ => hbs, fun j h3 h4 => ?_, fun h => ?_, fun h h3 => ?_, fun h h3 => ?_⟩
  · by_cases hj : j < a
    · exact h5 j h3 hj
    · by_cases hj2 : j < r.2.1
      · exact h1.2.2.2.2.1 j (Nat.le_of_not_lt hj) hj2
      · exact h2.2.2.2.2.1 j (Nat.le_of_not_lt hj2) h4
  · have h6 := h1.2.2.2.2.2.1 c
    have h7 := h2.2.2.2.2.2.1 h
    show (r.2.2 ++ (x ++ s.2.2)).length ≤ s.2.1 - b
    rw [List.length_append, List.length_append]
    exact len_h h6 hx h7 ha (Nat.le_of_lt hlt) hrs
  · rcases hm with ⟨e1, e2, e3⟩ | ⟨e1, e2, e3⟩
    · exact h2.2.2.2.2.2.2.1 h (Or.inr (Or.inl e2))
    · exact h2.2.2.2.2.2.2.1 h (Or.inr (Or.inr (Or.inr ⟨e2, h1.2.2.2.2.2.2.1 c (Or.inl e1)⟩)))
  · rcases hm with ⟨e1, e2, e3⟩ | ⟨e1, e2, e3⟩
    · exfalso
      rcases e3 with e3 | e3 <;> rcases h3 with h3 | h3 <;> rw [e3] at h3 <;> exact absurd h3 (by decide)
    · exact h2.2.2.2.2.2.2.2 h (Or.inr e2)
theorem pok_pq {K : Nat → Nat} {a m m1 m2 : Nat} {r : PR9} {s : Nat → PR9} (h1 : pok K m1 a r) (hm1 : m1 = 0 ∨ m1 = 1) (h2 : ∀ b, a < b → b ≤ 400 → pok K m2 b (s b)) (hm : (m1 = 0 ∧ m2 = 2 ∧ (m = 1 ∨ m = 2)) ∨ (m1 = 1 ∧ m2 = 4 ∧ (m = 3 ∨ m = 4))) : pok K m a (pq r s) := by
  unfold pq
  by_cases c : r.1 = 0
  · rw [if_pos c]
    exact pok_2 (x := []) h1 hm1 c (h2 r.2.1 (h1.2.2.2.1 c (by omega)) h1.2.2.1) (Nat.le_refl _) (fun j h3 h4 => by omega) (Nat.zero_le _) hm
  · rw [if_neg c]
    exact pok_ne h1 c (Nat.le_refl _) (fun j h3 h4 => by omega)
theorem pok_pL {K : Nat → Nat} {g : Nat → Nat → Nat → PR9} {a m x y ox oy mu ml d : Nat} (ha : a ≤ 400) (hx : x < 32) (hy : y < 32) (h1 : a < 400 → pok K mu (a + 1) (g mu d (a + 1))) (hmu : mu = 0 ∨ mu = 1) (h2 : ∀ b, a < b → b ≤ 400 → pok K ml b (g ml d b)) (hm : (mu = 0 ∧ ml = 2 ∧ m = 2 ∧ x = 27 ∧ y = 28) ∨ (mu = 1 ∧ ml = 4 ∧ m = 4 ∧ x = 25 ∧ y = 26)) : pok K m a (pL K g x y ox oy mu ml d a) := by
  unfold pL
  by_cases c : K a = x ∨ K a = y
  · rw [if_pos c]
    have hK : K a < 32 := by omega
    have hself : ∀ j, a ≤ j → j < a + 1 → K j < 32 := fun j h3 h4 => by
      have e : j = a := by omega
      rw [e]; exact hK
    by_cases c4 : 400 ≤ a
    · rw [if_pos c4]
      exact pok_fail (by omega) (by omega) (Nat.le_refl _) ha (fun j h3 h4 => by omega)
    · rw [if_neg c4]
      have hp := h1 (by omega)
      unfold pq
      generalize g mu d (a + 1) = r at hp ⊢
      by_cases c1 : r.1 = 0
      · rw [if_pos c1]
        have hq := h2 r.2.1 (Nat.lt_of_lt_of_le (Nat.lt_succ_self a) hp.2.1) hp.2.2.1
        have hm9 : (mu = 0 ∧ ml = 2 ∧ (m = 1 ∨ m = 2)) ∨ (mu = 1 ∧ ml = 4 ∧ (m = 3 ∨ m = 4)) := by
          rcases hm with ⟨e1, e2, e3, -, -⟩ | ⟨e1, e2, e3, -, -⟩
          · exact Or.inl ⟨e1, e2, Or.inr e3⟩
          · exact Or.inr ⟨e1, e2, Or.inr e3⟩
        have hl9 : [(if K a = x then ox else oy, nI 0)].length ≤ a + 1 - a := by
          rw [Nat.add_sub_cancel_left]; exact Nat.le_refl _
        exact pok_2 (x := [(if K a = x then ox else oy, nI 0)]) hp hmu c1 hq (Nat.le_succ _) hself hl9 hm9
      · rw [if_neg c1]
        exact pok_ne hp c1 (Nat.le_succ _) hself
  · rw [if_neg c]
    have c1 : ¬ K a = x := fun h => c (Or.inl h)
    have c2 : ¬ K a = y := fun h => c (Or.inr h)
    refine ⟨Nat.zero_le _, Nat.le_refl _, ha, fun _ h => by omega, fun j h3 h4 => ?_, fun _ => Nat.zero_le _, fun _ h => ?_, fun _ h => ?_⟩
    · have h5 : j < a := h4
      omega
    · show ¬ K a = 27 ∧ ¬ K a = 28
      rcases hm with ⟨e1, e2, e3, e4, e5⟩ | ⟨e1, e2, e3, e4, e5⟩
      · rw [e4] at c1; rw [e5] at c2; exact ⟨c1, c2⟩
      · rcases h with h | h | h | h
        · omega
        · omega
        · omega
        · exact h.2
    · show ¬ K a = 25 ∧ ¬ K a = 26
      rcases hm with ⟨e1, e2, e3, e4, e5⟩ | ⟨e1, e2, e3, e4, e5⟩
      · omega
      · rw [e4] at c1; rw [e5] at c2; exact ⟨c1, c2⟩
theorem pM_lt {m a m2 a2 f : Nat} (hf : pM m a ≤ f + 1) (h1 : a < a2) (h2 : a2 ≤ 400) : pM m2 a2 ≤ f := by
  unfold pM at *
  have h3 : (if m2 = 1 then 1 else if m2 = 3 then 2 else 0) ≤ 2 := by
    by_cases e1 : m2 = 1
    · rw [if_pos e1]; omega
    · rw [if_neg e1]
      by_cases e2 : m2 = 3
      · rw [if_pos e2]; omega
      · rw [if_neg e2]; omega
  omega
theorem pok_pU {K V : Nat → Nat} {g : Nat → Nat → Nat → PR9} {d a : Nat} (ha : a ≤ 400) (h1 : a < 400 → pok K 3 (a + 1) (g 3 (d + 1) (a + 1))) : pok K 0 a (pU K V g d a) := by
  unfold pU
  by_cases c : K a = 30
  · rw [if_pos c]
    by_cases c1 : 6 ≤ d
    · rw [if_pos c1]; exact pok_fail (by omega) (by omega) (Nat.le_refl _) ha (fun j h1 h2 => by omega)
    · rw [if_neg c1]
      by_cases c2 : 400 ≤ a
      · rw [if_pos c2]; exact pok_fail (by omega) (by omega) (Nat.le_refl _) ha (fun j h1 h2 => by omega)
      · rw [if_neg c2]
        have hp := h1 (by omega)
        generalize g 3 (d + 1) (a + 1) = r at hp ⊢
        have hself : ∀ j, a ≤ j → j < a + 1 → K j < 32 := fun j h3 h4 => by
          have e : j = a := by omega
          rw [e]; omega
        by_cases c3 : r.1 = 0
        · rw [if_pos c3]
          obtain ⟨r1, r2, r3⟩ := r
          have p2 : a + 1 ≤ r2 := hp.2.1
          have p3 : r2 ≤ 400 := hp.2.2.1
          have p5 : ∀ j, a + 1 ≤ j → j < r2 → K j < 32 := hp.2.2.2.2.1
          have hlen0 : r3.length ≤ r2 - (a + 1) := hp.2.2.2.2.2.1 c3
          clear hp
          dsimp only at *
          have p5' : ∀ j, a ≤ j → j < r2 → K j < 32 := fun j h1 h2 => by
            by_cases hj : j < a + 1
            · exact hself j h1 hj
            · exact p5 j (by omega) h2
          by_cases c4 : K r2 = 31
          · rw [if_pos c4]
            by_cases c5 : 400 ≤ r2
            · rw [if_pos c5]; exact pok_fail (by omega) (by omega) (by omega) p3 p5'
            · rw [if_neg c5]
              refine ⟨Nat.zero_le _, by show a ≤ r2 + 1; omega, by show r2 + 1 ≤ 400; omega, fun _ _ => by show a < r2 + 1; omega, fun j h1 h2 => ?_, fun _ => by show r3.length ≤ r2 + 1 - a; omega, fun _ h => by omega, fun _ h => by omega⟩
              have h3 : j < r2 + 1 := h2
              by_cases hj : j = r2
              · rw [hj, c4]; omega
              · exact p5' j h1 (by omega)
          · rw [if_neg c4]; exact pok_fail (by omega) (by omega) (by omega) p3 p5'
        · rw [if_neg c3]
          exact pok_ne hp c3 (Nat.le_succ _) hself
  · rw [if_neg c]
    by_cases c1 : 12 ≤ K a ∧ K a ≤ 20
    · rw [if_pos c1]
      by_cases c2 : 400 ≤ a
      · rw [if_pos c2]; exact pok_fail (by omega) (by omega) (Nat.le_refl _) ha (fun j h1 h2 => by omega)
      · rw [if_neg c2]; exact pok_one (by omega) (by omega)
    · rw [if_neg c1]
      by_cases c3 : K a = 22
      · rw [if_pos c3]
        by_cases c2 : 400 ≤ a
        · rw [if_pos c2]; exact pok_fail (by omega) (by omega) (Nat.le_refl _) ha (fun j h1 h2 => by omega)
        · rw [if_neg c2]; exact pok_one (by omega) (by omega)
      · rw [if_neg c3]; exact pok_fail (by omega) (by omega) (Nat.le_refl _) ha (fun j h1 h2 => by omega)
theorem pE_ok {K V : Nat → Nat} : ∀ f m d a, m ≤ 4 → a ≤ 400 → pM m a ≤ f → pok K m a (pE K V f m d a) := by
  intro f
  induction f with
  | zero =>
    intro m d a hm ha hf
    unfold pM at hf
    omega
  | succ f ih =>
    intro m d a hm ha hf
    rcases (show m = 0 ∨ m = 1 ∨ m = 2 ∨ m = 3 ∨ m = 4 by omega) with rfl | rfl | rfl | rfl | rfl
    · rw [pE_0]
      exact pok_pU ha (fun h => ih 3 (d + 1) (a + 1) (by omega) (by omega) (pM_lt hf (by omega) (by omega)))
    · rw [pE_1]
      exact pok_pq (m2 := 2) (ih 0 d a (by omega) ha (by unfold pM at hf ⊢; simp at hf ⊢; omega)) (by omega) (fun b h1 h2 => ih 2 d b (by omega) h2 (pM_lt hf h1 h2)) (by omega)
    · rw [pE_2]
      exact pok_pL ha (by omega) (by omega) (fun h => ih 0 d (a + 1) (by omega) (by omega) (pM_lt hf (by omega) (by omega))) (by omega) (fun b h1 h2 => ih 2 d b (by omega) h2 (pM_lt hf h1 h2)) (by omega)
    · rw [pE_3]
      exact pok_pq (m2 := 4) (ih 1 d a (by omega) ha (by unfold pM at hf ⊢; simp at hf ⊢; omega)) (by omega) (fun b h1 h2 => ih 4 d b (by omega) h2 (pM_lt hf h1 h2)) (by omega)
    · rw [pE_4]
      exact pok_pL ha (by omega) (by omega) (fun h => ih 1 d (a + 1) (by omega) (by omega) (pM_lt hf (by omega) (by omega))) (by omega) (fun b h1 h2 => ih 4 d b (by omega) h2 (pM_lt hf h1 h2)) (by omega)
/-- steps written behind others; what lies below and above them stays -/
def APP (st nm : Nat → Int32) (s : Nat) (c : List (Nat × Int32)) (st' nm' : Nat → Int32) : Prop := (∀ k, k < s → st' k = st k ∧ nm' k = nm k) ∧ (∀ i x, c[i]? = some x → st' (s + i) = nI x.1 ∧ nm' (s + i) = x.2) ∧ ∀ k, s + c.length ≤ k → st' k = st k ∧ nm' k = nm k
theorem APP_0 {st nm : Nat → Int32} {s : Nat} : APP st nm s [] st nm := ⟨fun _ _ => ⟨rfl, rfl⟩, fun i x h => by simp at h, fun _ _ => ⟨rfl, rfl⟩⟩
theorem APP_1 {st nm : Nat → Int32} {s k : Nat} {v : Int32} : APP st nm s [(k, v)] (mm_up st s (nI k)) (mm_up nm s v) := by
  refine ⟨fun j hj => ⟨up_ne (by omega), up_ne (by omega)⟩, fun i x h => ?_, fun j hj => ?_⟩
  · cases i with
    | zero =>
      simp at h
      subst h
      exact ⟨up_at (by omega), up_at (by omega)⟩
    | succ i => simp at h
  · have hj2 : s + 1 ≤ j := hj
    exact ⟨up_ne (by omega), up_ne (by omega)⟩
theorem APP_tr {st nm st' nm' st2 nm2 : Nat → Int32} {s : Nat} {c d : List (Nat × Int32)} (h1 : APP st nm s c st' nm') (h2 : APP st' nm' (s + c.length) d st2 nm2) : APP st nm s (c ++ d) st2 nm2 := by
  refine ⟨fun k hk => ?_, fun i x h => ?_, fun k hk => ?_⟩
  · have a := h2.1 k (by omega)
    have b := h1.1 k hk
    exact ⟨a.1.trans b.1, a.2.trans b.2⟩
  · by_cases hi : i < c.length
    · rw [List.getElem?_append_left hi] at h
      have a := h2.1 (s + i) (by omega)
      have b := h1.2.1 i x h
      exact ⟨a.1.trans b.1, a.2.trans b.2⟩
    · rw [List.getElem?_append_right (by omega)] at h
      have := h2.2.1 (i - c.length) x h
      rw [show s + c.length + (i - c.length) = s + i by omega] at this
      exact this
  · rw [List.length_append] at hk
    have a := h2.2.2 k (by omega)
    have b := h1.2.2 k (by omega)
    exact ⟨a.1.trans b.1, a.2.trans b.2⟩
