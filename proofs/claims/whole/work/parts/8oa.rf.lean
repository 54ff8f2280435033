/-! ===== Codes: how many values they leave ===== -/
/-- from m values to m2, never above M -/
def cst : PC → Nat → Nat → Nat → Prop
  | [], m, m2, _ => m = m2
  | x :: c, m, m2, M => (x.1 = 0 ∧ m < M ∧ cst c (m + 1) m2 M) ∨ (x.1 = 1 ∧ (∃ j, j < 9 ∧ x.2 = nI j) ∧ m < M ∧ cst c (m + 1) m2 M) ∨ (2 ≤ x.1 ∧ x.1 ≤ 5 ∧ 2 ≤ m ∧ m ≤ M ∧ cst c (m - 1) m2 M)
theorem cst_app {M : Nat} : ∀ (c d : PC) (m m1 m2 : Nat), cst c m m1 M → cst d m1 m2 M → cst (c ++ d) m m2 M := by
  intro c
  induction c with
  | nil => intro d m m1 m2 h1 h2; have h3 : m = m1 := h1; rw [h3]; exact h2
  | cons x c ih =>
    intro d m m1 m2 h1 h2
    rcases h1 with ⟨a1, a2, a3⟩ | ⟨a1, a2, a3, a4⟩ | ⟨a1, a2, a3, a4, a5⟩
    · exact Or.inl ⟨a1, a2, ih d _ _ _ a3 h2⟩
    · exact Or.inr (Or.inl ⟨a1, a2, a3, ih d _ _ _ a4 h2⟩)
    · exact Or.inr (Or.inr ⟨a1, a2, a3, a4, ih d _ _ _ a5 h2⟩)
theorem cst_mono {M M2 : Nat} (h : M ≤ M2) : ∀ (c : PC) (m m2 : Nat), cst c m m2 M → cst c m m2 M2 := by
  intro c
  induction c with
  | nil => intro m m2 h1; exact h1
  | cons x c ih =>
    intro m m2 h1
    rcases h1 with ⟨a1, a2, a3⟩ | ⟨a1, a2, a3, a4⟩ | ⟨a1, a2, a3, a4, a5⟩
    · exact Or.inl ⟨a1, by omega, ih _ _ a3⟩
    · exact Or.inr (Or.inl ⟨a1, a2, by omega, ih _ _ a4⟩)
    · exact Or.inr (Or.inr ⟨a1, a2, a3, by omega, ih _ _ a5⟩)
/-- what mode m leaves, from s values on -/
def pcs (m d s : Nat) (c : PC) : Prop := if m = 0 then cst c s (s + 1) (s + 1 + 2 * (6 - d)) else if m = 1 then cst c s (s + 1) (s + 2 + 2 * (6 - d)) else if m = 2 then cst c (s + 1) (s + 1) (s + 2 + 2 * (6 - d)) else if m = 3 then cst c s (s + 1) (s + 3 + 2 * (6 - d)) else cst c (s + 1) (s + 1) (s + 3 + 2 * (6 - d))
section Rf
variable {K V : Nat → Nat}
theorem pE_cst : ∀ (f m d a : Nat), m ≤ 4 → d ≤ 6 → (pE K V f m d a).1 = 0 → ∀ s, pcs m d s (pE K V f m d a).2.2 := by
  intro f
  induction f with
  | zero => intro m d a hm hd h; simp [pE] at h
  | succ f ih =>
    intro m d a hm hd h s
    rcases (show m = 0 ∨ m = 1 ∨ m = 2 ∨ m = 3 ∨ m = 4 by omega) with rfl | rfl | rfl | rfl | rfl
    · rw [pE_0] at h ⊢
      show cst _ s (s + 1) (s + 1 + 2 * (6 - d))
      unfold pU at h ⊢
      by_cases c1 : K a = 30
      · rw [if_pos c1] at h ⊢
        by_cases c2 : 6 ≤ d
        · rw [if_pos c2] at h; simp at h
        · rw [if_neg c2] at h ⊢
          by_cases c3 : 400 ≤ a
          · rw [if_pos c3] at h; simp at h
          · rw [if_neg c3] at h ⊢
            by_cases c4 : (pE K V f 3 (d + 1) (a + 1)).1 = 0
            · rw [if_pos c4] at h ⊢
              have h3 := ih 3 (d + 1) (a + 1) (by omega) (by omega) c4 s
              have h4 : cst (pE K V f 3 (d + 1) (a + 1)).2.2 s (s + 1) (s + 3 + 2 * (6 - (d + 1))) := h3
              by_cases c5 : K (pE K V f 3 (d + 1) (a + 1)).2.1 = 31
              · rw [if_pos c5] at h ⊢
                by_cases c6 : 400 ≤ (pE K V f 3 (d + 1) (a + 1)).2.1
                · rw [if_pos c6] at h; simp at h
                · rw [if_neg c6]
                  exact cst_mono (by omega) _ _ _ h4
              · rw [if_neg c5] at h; simp at h
            · rw [if_neg c4] at h; exact absurd h c4
      · rw [if_neg c1] at h ⊢
        by_cases c2 : 12 ≤ K a ∧ K a ≤ 20
        · rw [if_pos c2] at h ⊢
          by_cases c3 : 400 ≤ a
          · rw [if_pos c3] at h; simp at h
          · rw [if_neg c3]
            exact Or.inr (Or.inl ⟨rfl, ⟨K a - 12, by omega, rfl⟩, by omega, rfl⟩)
        · rw [if_neg c2] at h ⊢
          by_cases c4 : K a = 22
          · rw [if_pos c4] at h ⊢
            by_cases c3 : 400 ≤ a
            · rw [if_pos c3] at h; simp at h
            · rw [if_neg c3]
              exact Or.inl ⟨rfl, by omega, rfl⟩
          · rw [if_neg c4] at h; simp at h
    · rw [pE_1] at h ⊢
      show cst _ s (s + 1) (s + 2 + 2 * (6 - d))
      unfold pq at h ⊢
      by_cases c1 : (pE K V f 0 d a).1 = 0
      · rw [if_pos c1] at h ⊢
        have h1 : cst _ s (s + 1) (s + 1 + 2 * (6 - d)) := ih 0 d a (by omega) hd c1 s
        have h2 : cst _ (s + 1) (s + 1) (s + 2 + 2 * (6 - d)) := ih 2 d _ (by omega) hd h s
        exact cst_app _ _ _ _ _ (cst_mono (by omega) _ _ _ h1) h2
      · rw [if_neg c1] at h; exact absurd h c1
    · rw [pE_2] at h ⊢
      show cst _ (s + 1) (s + 1) (s + 2 + 2 * (6 - d))
      unfold pL at h ⊢
      by_cases c0 : K a = 27 ∨ K a = 28
      · rw [if_pos c0] at h ⊢
        by_cases c3 : 400 ≤ a
        · rw [if_pos c3] at h; simp at h
        · rw [if_neg c3] at h ⊢
          unfold pq at h ⊢
          by_cases c1 : (pE K V f 0 d (a + 1)).1 = 0
          · rw [if_pos c1] at h ⊢
            have h1 : cst _ (s + 1) (s + 1 + 1) (s + 1 + 1 + 2 * (6 - d)) := ih 0 d (a + 1) (by omega) hd c1 (s + 1)
            have h2 : cst _ (s + 1) (s + 1) (s + 2 + 2 * (6 - d)) := ih 2 d _ (by omega) hd h s
            refine cst_app _ _ _ _ _ (cst_mono (by omega) _ _ _ h1) ?_
            refine Or.inr (Or.inr ⟨?_, ?_, by omega, by omega, ?_⟩)
            · show 2 ≤ (if K a = 27 then 4 else 5); split <;> omega
            · show (if K a = 27 then 4 else 5) ≤ 5; split <;> omega
            · rw [show s + 1 + 1 - 1 = s + 1 by omega]; exact h2
          · rw [if_neg c1] at h; exact absurd h c1
      · rw [if_neg c0]; rfl
    · rw [pE_3] at h ⊢
      show cst _ s (s + 1) (s + 3 + 2 * (6 - d))
      unfold pq at h ⊢
      by_cases c1 : (pE K V f 1 d a).1 = 0
      · rw [if_pos c1] at h ⊢
        have h1 : cst _ s (s + 1) (s + 2 + 2 * (6 - d)) := ih 1 d a (by omega) hd c1 s
        have h2 : cst _ (s + 1) (s + 1) (s + 3 + 2 * (6 - d)) := ih 4 d _ (by omega) hd h s
        exact cst_app _ _ _ _ _ (cst_mono (by omega) _ _ _ h1) h2
      · rw [if_neg c1] at h; exact absurd h c1
    · rw [pE_4] at h ⊢
      show cst _ (s + 1) (s + 1) (s + 3 + 2 * (6 - d))
      unfold pL at h ⊢
      by_cases c0 : K a = 25 ∨ K a = 26
      · rw [if_pos c0] at h ⊢
        by_cases c3 : 400 ≤ a
        · rw [if_pos c3] at h; simp at h
        · rw [if_neg c3] at h ⊢
          unfold pq at h ⊢
          by_cases c1 : (pE K V f 1 d (a + 1)).1 = 0
          · rw [if_pos c1] at h ⊢
            have h1 : cst _ (s + 1) (s + 1 + 1) (s + 1 + 2 + 2 * (6 - d)) := ih 1 d (a + 1) (by omega) hd c1 (s + 1)
            have h2 : cst _ (s + 1) (s + 1) (s + 3 + 2 * (6 - d)) := ih 4 d _ (by omega) hd h s
            refine cst_app _ _ _ _ _ (cst_mono (by omega) _ _ _ h1) ?_
            refine Or.inr (Or.inr ⟨?_, ?_, by omega, by omega, ?_⟩)
            · show 2 ≤ (if K a = 25 then 2 else 3); split <;> omega
            · show (if K a = 25 then 2 else 3) ≤ 5; split <;> omega
            · rw [show s + 1 + 1 - 1 = s + 1 by omega]; exact h2
          · rw [if_neg c1] at h; exact absurd h c1
      · rw [if_neg c0]; rfl
/-- an expression leaves one value -/
def cs1 (c : PC) : Prop := cst c 0 1 15
theorem pE0_cs {a : Nat} (h : (pE0 K V a).1 = 0) : cs1 (pE0 K V a).2.2 := pE_cst 2010 3 0 a (by omega) (by omega) h 0
def csI (t : PI) : Prop := cs1 t.1 ∧ cs1 t.2.1 ∧ cs1 t.2.2
/-- a law's code is good -/
def csL (l : List PI) (c : PC) : Prop := (∀ t ∈ l, csI t) ∧ cs1 c
theorem pIf_cs {a : Nat} (h : (pIf K V a).1 = 0) : csI (pIf K V a).2.2 := by
  unfold pIf at h ⊢
  by_cases c1 : (pTk K 9 a).1 = 0
  · rw [if_pos c1] at h ⊢
    by_cases c2 : (pE0 K V (a + 1)).1 = 0
    · rw [if_pos c2] at h ⊢
      have q1 := pE0_cs c2
      generalize pE0 K V (a + 1) = r1 at c2 q1 h ⊢
      by_cases c3 : (pTk K 29 r1.2.1).1 = 0
      · rw [if_pos c3] at h ⊢
        by_cases c4 : (pE0 K V (r1.2.1 + 1)).1 = 0
        · rw [if_pos c4] at h ⊢
          have q2 := pE0_cs c4
          generalize pE0 K V (r1.2.1 + 1) = r2 at c4 q2 h ⊢
          by_cases c5 : (pTk K 10 r2.2.1).1 = 0
          · rw [if_pos c5] at h ⊢
            by_cases c6 : (pE0 K V (r2.2.1 + 1)).1 = 0
            · rw [if_pos c6] at h ⊢
              have q3 := pE0_cs c6
              generalize pE0 K V (r2.2.1 + 1) = r3 at c6 q3 h ⊢
              by_cases c7 : (pTk K 11 r3.2.1).1 = 0
              · rw [if_pos c7]; exact ⟨q1, q2, q3⟩
              · rw [if_neg c7] at h; exact absurd h c7
            · rw [if_neg c6] at h; exact absurd h c6
          · rw [if_neg c5] at h; exact absurd h c5
        · rw [if_neg c4] at h; exact absurd h c4
      · rw [if_neg c3] at h; exact absurd h c3
    · rw [if_neg c2] at h; exact absurd h c2
  · rw [if_neg c1] at h; exact absurd h c1
theorem pLw_cs : ∀ (g a : Nat), (pLw K V g a).1 = 0 → csL (pLw K V g a).2.2.1 (pLw K V g a).2.2.2 := by
  have he : ∀ a, (if (pE0 K V a).1 = 0 then (if (pTk K 23 (pE0 K V a).2.1).1 = 0 then (0, (pE0 K V a).2.1 + 1, [], (pE0 K V a).2.2) else ((pTk K 23 (pE0 K V a).2.1).1, (pE0 K V a).2.1, [], [])) else ((pE0 K V a).1, (pE0 K V a).2.1, [], []) : Nat × Nat × List PI × PC).1 = 0 → csL (if (pE0 K V a).1 = 0 then (if (pTk K 23 (pE0 K V a).2.1).1 = 0 then (0, (pE0 K V a).2.1 + 1, [], (pE0 K V a).2.2) else ((pTk K 23 (pE0 K V a).2.1).1, (pE0 K V a).2.1, [], [])) else ((pE0 K V a).1, (pE0 K V a).2.1, [], []) : Nat × Nat × List PI × PC).2.2.1 (if (pE0 K V a).1 = 0 then (if (pTk K 23 (pE0 K V a).2.1).1 = 0 then (0, (pE0 K V a).2.1 + 1, [], (pE0 K V a).2.2) else ((pTk K 23 (pE0 K V a).2.1).1, (pE0 K V a).2.1, [], [])) else ((pE0 K V a).1, (pE0 K V a).2.1, [], []) : Nat × Nat × List PI × PC).2.2.2 := by
    intro a h
    by_cases c : (pE0 K V a).1 = 0
    · rw [if_pos c] at h ⊢
      by_cases d : (pTk K 23 (pE0 K V a).2.1).1 = 0
      · rw [if_pos d]; exact ⟨fun t ht => by simp at ht, pE0_cs c⟩
      · rw [if_neg d] at h; exact absurd h d
    · rw [if_neg c] at h; exact absurd h c
  intro g
  induction g with
  | zero =>
    intro a h
    simp only [pLw] at h ⊢
    by_cases c : K a = 9
    · rw [if_pos c] at h; simp at h
    · rw [if_neg c] at h ⊢; exact he a h
  | succ g ih =>
    intro a h
    simp only [pLw] at h ⊢
    by_cases c : K a = 9
    · rw [if_pos c] at h ⊢
      by_cases d : (pIf K V a).1 = 0
      · rw [if_pos d] at h ⊢
        by_cases f : (pLw K V g (pIf K V a).2.1).1 = 0
        · rw [if_pos f]
          obtain ⟨g1, g2⟩ := ih _ f
          refine ⟨fun t ht => ?_, g2⟩
          simp only [List.mem_cons] at ht
          rcases ht with ht | ht
          · rw [ht]; exact pIf_cs d
          · exact g1 t ht
        · rw [if_neg f] at h; exact absurd h f
      · rw [if_neg d] at h; exact absurd h d
    · rw [if_neg c] at h ⊢; exact he a h
theorem pLaw_cs {a : Nat} (h : (pLaw K V a).1 = 0) : csL (pLaw K V a).2.2.1 (pLaw K V a).2.2.2 := by
  unfold pLaw at h ⊢
  by_cases c : a < 400
  · rw [if_pos c] at h ⊢
    by_cases d : (pTk K 24 (a + 1)).1 = 0
    · rw [if_pos d] at h ⊢; exact pLw_cs 4 _ h
    · rw [if_neg d] at h; exact absurd h d
  · rw [if_neg c] at h; simp at h
/-- steps that may stand in the class's row -/
def okx (x : Nat × Int32) : Prop := x.1 ≤ 7 ∧ (x.1 = 1 → ∃ v, v < 9 ∧ x.2 = nI v) ∧ (x.1 = 6 → ∃ t, t ≤ 404 ∧ x.2 = nI t)
theorem cst_ok {M : Nat} : ∀ (c : PC) (m m2 : Nat), cst c m m2 M → ∀ x ∈ c, okx x := by
  intro c
  induction c with
  | nil => intro m m2 _ x hx; simp at hx
  | cons y c ih =>
    intro m m2 h x hx
    simp only [List.mem_cons] at hx
    rcases h with ⟨a1, a2, a3⟩ | ⟨a1, a2, a3, a4⟩ | ⟨a1, a2, a3, a4, a5⟩
    · rcases hx with hx | hx
      · rw [hx]; exact ⟨by omega, fun h => by omega, fun h => by omega⟩
      · exact ih _ _ a3 x hx
    · rcases hx with hx | hx
      · rw [hx]; exact ⟨by omega, fun _ => a2, fun h => by omega⟩
      · exact ih _ _ a4 x hx
    · rcases hx with hx | hx
      · rw [hx]; exact ⟨by omega, fun h => by omega, fun h => by omega⟩
      · exact ih _ _ a5 x hx
theorem lwc_ok : ∀ (l : List PI) (c : PC) (s : Nat), csL l c → s + (lwc s l c).length ≤ 404 → ∀ x ∈ lwc s l c, okx x := by
  intro l
  induction l with
  | nil => intro c s h hs x hx; exact cst_ok _ _ _ h.2 x hx
  | cons t l ih =>
    intro c s h hs x hx
    have ht := h.1 t (by simp)
    have hx2 : x ∈ ifc s t ++ lwc (s + ifl t) l c := hx
    have hs2 : s + (ifc s t ++ lwc (s + ifl t) l c).length ≤ 404 := hs
    rw [List.length_append, ifc_len] at hs2
    rw [List.mem_append] at hx2
    rcases hx2 with hx2 | hx2
    · unfold ifc at hx2
      simp only [List.mem_append, List.mem_cons, List.not_mem_nil, or_false] at hx2
      rcases hx2 with q | q | q | q | q
      · exact cst_ok _ _ _ ht.1 x q
      · exact cst_ok _ _ _ ht.2.1 x q
      · rw [q]; exact ⟨by omega, fun h => by omega, fun _ => ⟨s + ifl t, by omega, rfl⟩⟩
      · exact cst_ok _ _ _ ht.2.2 x q
      · rw [q]; exact ⟨by omega, fun h => by omega, fun h => by omega⟩
    · exact ih c (s + ifl t) ⟨fun z hz => h.1 z (by simp [hz]), h.2⟩ (by omega) x hx2
end Rf
