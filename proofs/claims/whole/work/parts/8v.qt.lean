/-! ===== Statements: what stays so ===== -/
section Qt
variable {K V : Nat → Nat} {W : Nat → List Nat} {S : TS} {a : Nat}
theorem pSeq_ok : ∀ (ks : List Nat) (a : Nat), (∀ k ∈ ks, k < 32) → a ≤ 400 → (∀ j, j < a → K j < 32) → (pSeq K ks a).1 = 0 → (pSeq K ks a).2 = a + ks.length ∧ (pSeq K ks a).2 ≤ 400 ∧ (∀ j, j < (pSeq K ks a).2 → K j < 32) ∧ ∀ i k, ks[i]? = some k → K (a + i) = k := by
  intro ks
  induction ks with
  | nil => intro a _ ha hp _; exact ⟨rfl, ha, hp, fun i k h => by simp at h⟩
  | cons k ks ih =>
    intro a hks ha hp h
    rw [pSeq_c] at h ⊢
    by_cases c : (pTk K k a).1 = 0
    · rw [if_pos c] at h ⊢
      obtain ⟨c1, c2⟩ := pTk_0.mp c
      obtain ⟨e1, e2, e3, e4⟩ := ih (a + 1) (fun z hz => hks z (by simp [hz])) (by omega) (pre_s hp c1 (hks k (by simp))) h
      refine ⟨by rw [e1, List.length_cons]; omega, e2, e3, fun i z hi => ?_⟩
      cases i with
      | zero => simp at hi; rw [← hi]; exact c1
      | succ i =>
        simp at hi
        have := e4 i z hi
        rw [show a + 1 + i = a + (i + 1) by omega] at this
        exact this
    · rw [if_neg c] at h
      exact absurd h c
theorem nt_a {c : Nat → Nat} {v ti a2 : Nat} {P : Prop} [Decidable P] (h : c 5 = 0 ∨ c 6 < a2) (hti : ti < a2) : nt c v ti P 5 = 0 ∨ nt c v ti P 6 < a2 := by
  unfold nt
  by_cases d : P ∧ c 5 = 0
  · rw [if_pos d]; right; rw [up_at rfl]; exact hti
  · rw [if_neg d]; exact h
theorem pLw_ok : ∀ (g a : Nat), a ≤ 400 → (∀ j, j < a → K j < 32) → (pLw K V g a).1 = 0 → a < (pLw K V g a).2.1 ∧ (pLw K V g a).2.1 ≤ 400 ∧ ∀ j, j < (pLw K V g a).2.1 → K j < 32 := by
  have he : ∀ a, a ≤ 400 → (∀ j, j < a → K j < 32) → (if (pE0 K V a).1 = 0 then (if (pTk K 23 (pE0 K V a).2.1).1 = 0 then (0, (pE0 K V a).2.1 + 1, [], (pE0 K V a).2.2) else ((pTk K 23 (pE0 K V a).2.1).1, (pE0 K V a).2.1, [], [])) else ((pE0 K V a).1, (pE0 K V a).2.1, [], []) : Nat × Nat × List PI × PC).1 = 0 → a < (if (pE0 K V a).1 = 0 then (if (pTk K 23 (pE0 K V a).2.1).1 = 0 then (0, (pE0 K V a).2.1 + 1, [], (pE0 K V a).2.2) else ((pTk K 23 (pE0 K V a).2.1).1, (pE0 K V a).2.1, [], [])) else ((pE0 K V a).1, (pE0 K V a).2.1, [], []) : Nat × Nat × List PI × PC).2.1 ∧ (if (pE0 K V a).1 = 0 then (if (pTk K 23 (pE0 K V a).2.1).1 = 0 then (0, (pE0 K V a).2.1 + 1, [], (pE0 K V a).2.2) else ((pTk K 23 (pE0 K V a).2.1).1, (pE0 K V a).2.1, [], [])) else ((pE0 K V a).1, (pE0 K V a).2.1, [], []) : Nat × Nat × List PI × PC).2.1 ≤ 400 ∧ ∀ j, j < (if (pE0 K V a).1 = 0 then (if (pTk K 23 (pE0 K V a).2.1).1 = 0 then (0, (pE0 K V a).2.1 + 1, [], (pE0 K V a).2.2) else ((pTk K 23 (pE0 K V a).2.1).1, (pE0 K V a).2.1, [], [])) else ((pE0 K V a).1, (pE0 K V a).2.1, [], []) : Nat × Nat × List PI × PC).2.1 → K j < 32 := by
    intro a ha hp h
    have ok := @pE0_ok a K V ha
    generalize pE0 K V a = r at ok h ⊢
    by_cases c : r.1 = 0
    · rw [if_pos c] at h ⊢
      by_cases d : (pTk K 23 r.2.1).1 = 0
      · rw [if_pos d] at h ⊢
        obtain ⟨d1, d2⟩ := pTk_0.mp d
        have h2 := ok.2.1
        refine ⟨by show a < r.2.1 + 1; omega, by show r.2.1 + 1 ≤ 400; omega, fun j hj => ?_⟩
        have hj' : j < r.2.1 + 1 := hj
        by_cases j1 : j < a
        · exact hp j j1
        · by_cases j2 : j < r.2.1
          · exact ok.2.2.2.2.1 j (by omega) j2
          · have ej : j = r.2.1 := by omega
            rw [ej, d1]; omega
      · rw [if_neg d] at h; exact absurd h d
    · rw [if_neg c] at h; exact absurd h c
  have hi : ∀ a, a ≤ 400 → (∀ j, j < a → K j < 32) → (pIf K V a).1 = 0 → a < (pIf K V a).2.1 ∧ (pIf K V a).2.1 ≤ 400 ∧ ∀ j, j < (pIf K V a).2.1 → K j < 32 := by
    intro a ha hp h
    unfold pIf at h ⊢
    have step : ∀ (k a : Nat), (pTk K k a).1 = 0 → k < 32 → a ≤ 400 → (∀ j, j < a → K j < 32) → a + 1 ≤ 400 ∧ ∀ j, j < a + 1 → K j < 32 := fun k a h1 h2 h3 h4 => by
      obtain ⟨d1, d2⟩ := pTk_0.mp h1
      exact ⟨by omega, pre_s h4 d1 h2⟩
    have est : ∀ a, a ≤ 400 → (∀ j, j < a → K j < 32) → a ≤ (pE0 K V a).2.1 ∧ (pE0 K V a).2.1 ≤ 400 ∧ ∀ j, j < (pE0 K V a).2.1 → K j < 32 := fun a ha hp => by
      have ok := @pE0_ok a K V ha
      refine ⟨ok.2.1, ok.2.2.1, fun j hj => ?_⟩
      by_cases j1 : j < a
      · exact hp j j1
      · exact ok.2.2.2.2.1 j (by omega) hj
    by_cases c1 : (pTk K 9 a).1 = 0
    · rw [if_pos c1] at h ⊢
      obtain ⟨a1, b1⟩ := step 9 a c1 (by omega) ha hp
      obtain ⟨f2, a2, b2⟩ := est (a + 1) a1 b1
      generalize pE0 K V (a + 1) = r1 at f2 a2 b2 h ⊢
      by_cases c2 : r1.1 = 0
      · rw [if_pos c2] at h ⊢
        by_cases c3 : (pTk K 29 r1.2.1).1 = 0
        · rw [if_pos c3] at h ⊢
          obtain ⟨a3, b3⟩ := step 29 r1.2.1 c3 (by omega) a2 b2
          obtain ⟨f4, a4, b4⟩ := est (r1.2.1 + 1) a3 b3
          generalize pE0 K V (r1.2.1 + 1) = r2 at f4 a4 b4 h ⊢
          by_cases c4 : r2.1 = 0
          · rw [if_pos c4] at h ⊢
            by_cases c5 : (pTk K 10 r2.2.1).1 = 0
            · rw [if_pos c5] at h ⊢
              obtain ⟨a5, b5⟩ := step 10 r2.2.1 c5 (by omega) a4 b4
              obtain ⟨f6, a6, b6⟩ := est (r2.2.1 + 1) a5 b5
              generalize pE0 K V (r2.2.1 + 1) = r3 at f6 a6 b6 h ⊢
              by_cases c6 : r3.1 = 0
              · rw [if_pos c6] at h ⊢
                by_cases c7 : (pTk K 11 r3.2.1).1 = 0
                · rw [if_pos c7] at h ⊢
                  obtain ⟨a7, b7⟩ := step 11 r3.2.1 c7 (by omega) a6 b6
                  exact ⟨by show a < r3.2.1 + 1; omega, a7, b7⟩
                · rw [if_neg c7] at h; exact absurd h c7
              · rw [if_neg c6] at h; exact absurd h c6
            · rw [if_neg c5] at h; exact absurd h c5
          · rw [if_neg c4] at h; exact absurd h c4
        · rw [if_neg c3] at h; exact absurd h c3
      · rw [if_neg c2] at h; exact absurd h c2
    · rw [if_neg c1] at h; exact absurd h c1
  intro g
  induction g with
  | zero =>
    intro a ha hp h
    simp only [pLw] at h ⊢
    by_cases c : K a = 9
    · rw [if_pos c] at h; simp at h
    · rw [if_neg c] at h ⊢; exact he a ha hp h
  | succ g ih =>
    intro a ha hp h
    simp only [pLw] at h ⊢
    by_cases c : K a = 9
    · rw [if_pos c] at h ⊢
      by_cases d : (pIf K V a).1 = 0
      · rw [if_pos d] at h ⊢
        obtain ⟨e1, e2, e3⟩ := hi a ha hp d
        by_cases f : (pLw K V g (pIf K V a).2.1).1 = 0
        · rw [if_pos f] at h ⊢
          obtain ⟨g1, g2, g3⟩ := ih _ e2 e3 f
          exact ⟨by show a < (pLw K V g (pIf K V a).2.1).2.1; omega, g2, g3⟩
        · rw [if_neg f] at h; exact absurd h f
      · rw [if_neg d] at h; exact absurd h d
    · rw [if_neg c] at h ⊢; exact he a ha hp h
theorem pLaw_ok (ha : a ≤ 400) (hp : ∀ j, j < a → K j < 32) (hK : K a < 32) (h : (pLaw K V a).1 = 0) : a < (pLaw K V a).2.1 ∧ (pLaw K V a).2.1 ≤ 400 ∧ ∀ j, j < (pLaw K V a).2.1 → K j < 32 := by
  unfold pLaw at h ⊢
  by_cases c : a < 400
  · rw [if_pos c] at h ⊢
    by_cases d : (pTk K 24 (a + 1)).1 = 0
    · rw [if_pos d] at h ⊢
      obtain ⟨d1, d2⟩ := pTk_0.mp d
      obtain ⟨e1, e2, e3⟩ := pLw_ok 4 (a + 2) (by omega) (pre_s (pre_s hp rfl hK) d1 (by omega)) h
      exact ⟨by omega, e2, e3⟩
    · rw [if_neg d] at h; exact absurd h d
  · rw [if_neg c] at h; simp at h
theorem pSt_ok (hT : TSo K S a) (hK : K a < 33) (hW : ∀ j, K j ≤ 21 → ltok (W j)) (h : (pSt K V W S a).1 = 0) : TSo K (pSt K V W S a).2.2 (pSt K V W S a).2.1 ∧ a < (pSt K V W S a).2.1 := by
  obtain ⟨ha, hp, f7, p6, h10, e6, c5, o1, o2, o3⟩ := hT
  unfold pSt at h ⊢
  by_cases k0 : K a = 0
  · rw [if_pos k0] at h ⊢
    by_cases c : S.1 0 = 7
    · rw [if_pos c] at h; simp at h
    · rw [if_neg c] at h ⊢
      obtain ⟨e1, e2, e3, e4⟩ := pSeq_ok [0, 21, 23] a (by decide) ha hp h
      have w1 := hW (a + 1) (by rw [e4 1 21 rfl]; omega)
      refine ⟨⟨e2, e3, ?_, ?_, ?_, ?_, ?_, ?_, ?_, ?_⟩, by rw [e1]; simp⟩
      · unfold uFd; simp (disch := decide) only [up_ne, up_at, nt_o]; omega
      · unfold uFd; simp (disch := decide) only [up_ne, up_at, nt_o]; exact p6
      · unfold uFd; simp (disch := decide) only [up_ne, up_at, nt_o]; exact h10
      · unfold uFd; simp (disch := decide) only [up_ne, up_at, nt_o]; exact e6
      · unfold uFd; simp (disch := decide) only [up_ne, up_at]; exact nt_lt (by decide) c5
      · unfold uFd; simp (disch := decide) only [up_ne, up_at, nt_o]
        intro i hi
        by_cases e : i = S.1 0
        · rw [up_at e]; exact w1
        · rw [up_ne e]; exact o1 i (by omega)
      · unfold uFd; simp (disch := decide) only [up_ne, up_at, nt_o]; exact o2
      · unfold uFd; simp (disch := decide) only [up_ne, up_at]
        exact nt_a (by omega) (by rw [e1]; simp)
  rw [if_neg k0] at h ⊢
  by_cases k1 : K a = 1
  · rw [if_pos k1] at h ⊢
    by_cases c : S.1 1 = 6
    · rw [if_pos c] at h; simp at h
    · rw [if_neg c] at h ⊢
      obtain ⟨e1, e2, e3, e4⟩ := pSeq_ok [1, 21, 22, 23] a (by decide) ha hp h
      have w1 := hW (a + 1) (by rw [e4 1 21 rfl]; omega)
      refine ⟨⟨e2, e3, ?_, ?_, ?_, ?_, ?_, ?_, ?_, ?_⟩, by rw [e1]; simp⟩
      · unfold uPn; simp (disch := decide) only [up_ne, up_at, nt_o]; exact f7
      · unfold uPn; simp (disch := decide) only [up_ne, up_at, nt_o]; omega
      · unfold uPn; simp (disch := decide) only [up_ne, up_at, nt_o]; exact h10
      · unfold uPn; simp (disch := decide) only [up_ne, up_at, nt_o]; exact e6
      · unfold uPn; simp (disch := decide) only [up_ne, up_at]; exact nt_lt (by decide) (nt_lt (by decide) c5)
      · unfold uPn; simp (disch := decide) only [up_ne, up_at, nt_o]; exact o1
      · unfold uPn; simp (disch := decide) only [up_ne, up_at, nt_o]
        intro i hi
        by_cases e : i = S.1 1
        · rw [up_at e]; exact w1
        · rw [up_ne e]; exact o2 i (by omega)
      · unfold uPn; simp (disch := decide) only [up_ne, up_at]
        exact nt_a (nt_a (by omega) (by rw [e1]; simp)) (by rw [e1]; simp)
  rw [if_neg k1] at h ⊢
  by_cases k2 : K a = 2
  · rw [if_pos k2] at h ⊢
    by_cases c : S.1 2 = 10
    · rw [if_pos c] at h; simp at h
    · rw [if_neg c] at h ⊢
      obtain ⟨e1, e2, e3, e4⟩ := pSeq_ok [2, 21, 21, 21, 21, 22, 23] a (by decide) ha hp h
      refine ⟨⟨e2, e3, ?_, ?_, ?_, ?_, ?_, ?_, ?_, ?_⟩, by rw [e1]; simp⟩
      · unfold uHg hgC; simp (disch := decide) only [up_ne, up_at, nt_o]; exact f7
      · unfold uHg hgC; simp (disch := decide) only [up_ne, up_at, nt_o]; exact p6
      · unfold uHg hgC; simp (disch := decide) only [up_ne, up_at, nt_o]; omega
      · unfold uHg hgC; simp (disch := decide) only [up_ne, up_at, nt_o]; exact e6
      · unfold uHg hgC; simp (disch := decide) only [up_ne, up_at]; exact nt_lt (by decide) (nt_lt (by decide) (nt_lt (by decide) (nt_lt (by decide) (nt_lt (by decide) (nt_lt (by decide) c5)))))
      · unfold uHg hgC; simp (disch := decide) only [up_ne, up_at, nt_o]; exact o1
      · unfold uHg hgC; simp (disch := decide) only [up_ne, up_at, nt_o]; exact o2
      · unfold uHg hgC; simp (disch := decide) only [up_ne, up_at]
        rw [e1]
        simp only [List.length_cons, List.length_nil]
        exact nt_a (nt_a (nt_a (nt_a (nt_a (nt_a (by omega) (by omega)) (by omega)) (by omega)) (by omega)) (by omega)) (by omega)
  rw [if_neg k2] at h ⊢
  by_cases k3 : K a = 3
  · rw [if_pos k3] at h ⊢
    by_cases c : S.1 3 = 6
    · rw [if_pos c] at h; simp at h
    · rw [if_neg c] at h ⊢
      obtain ⟨e1, e2, e3, e4⟩ := pSeq_ok [3, 21, 21, 21, 23] a (by decide) ha hp h
      refine ⟨⟨e2, e3, ?_, ?_, ?_, ?_, ?_, ?_, ?_, ?_⟩, by rw [e1]; simp⟩
      · unfold uHr hrC; simp (disch := decide) only [up_ne, up_at, nt_o]; exact f7
      · unfold uHr hrC; simp (disch := decide) only [up_ne, up_at, nt_o]; exact p6
      · unfold uHr hrC; simp (disch := decide) only [up_ne, up_at, nt_o]; exact h10
      · unfold uHr hrC; simp (disch := decide) only [up_ne, up_at, nt_o]; omega
      · unfold uHr hrC; simp (disch := decide) only [up_ne, up_at]; exact nt_lt (by decide) (nt_lt (by decide) (nt_lt (by decide) (nt_lt (by decide) (nt_lt (by decide) c5))))
      · unfold uHr hrC; simp (disch := decide) only [up_ne, up_at, nt_o]; exact o1
      · unfold uHr hrC; simp (disch := decide) only [up_ne, up_at, nt_o]; exact o2
      · unfold uHr hrC; simp (disch := decide) only [up_ne, up_at]
        rw [e1]
        simp only [List.length_cons, List.length_nil]
        exact nt_a (nt_a (nt_a (nt_a (nt_a (by omega) (by omega)) (by omega)) (by omega)) (by omega)) (by omega)
  rw [if_neg k3] at h ⊢
  by_cases k8 : K a = 8
  · rw [if_pos k8] at h ⊢
    obtain ⟨e1, e2, e3, e4⟩ := pSeq_ok [8, 22, 23] a (by decide) ha hp h
    exact ⟨⟨e2, e3, f7, p6, h10, e6, c5, o1, o2, by show S.1 5 = 0 ∨ S.1 6 < (pSeq K [8, 22, 23] a).2; rw [e1]; omega⟩, by rw [e1]; simp⟩
  rw [if_neg k8] at h ⊢
  by_cases k4 : 4 ≤ K a ∧ K a ≤ 7
  · rw [if_pos k4] at h ⊢
    obtain ⟨e1, e2, e3⟩ := pLaw_ok ha hp (by omega) h
    exact ⟨⟨e2, e3, f7, p6, h10, e6, c5, o1, o2, by show S.1 5 = 0 ∨ S.1 6 < (pLaw K V a).2.1; omega⟩, e1⟩
  · rw [if_neg k4] at h; simp at h
end Qt
