/-! ===== Laws told: both sides tell the same ===== -/
section Ri
variable {I : Nat → Nat → Int32} {p sd a a2 : Nat} {L : Nat → Option (List PI × PC)}
def tfN (I : Nat → Nat → Int32) (z : Nat) : Nat := (I 349 z).toNatClampNeg
def tmN (I : Nat → Nat → Int32) (z : Nat) : Nat := (I 350 z).toNatClampNeg
def ttN (I : Nat → Nat → Int32) (z : Nat) : Nat := (I 351 z).toNatClampNeg
def teN (I : Nat → Nat → Int32) (z : Nat) : Nat := (I 352 z).toNatClampNeg
def flN (I : Nat → Nat → Int32) (sd k : Nat) : Nat := (I 346 (4 * sd + k)).toNatClampNeg
def nlN (I : Nat → Nat → Int32) (sd k : Nat) : Nat := (I 347 (4 * sd + k)).toNatClampNeg - flN I sd k
/-- a half's laws, wherever the next one goes -/
def RMz (Y : Nat → Nat → Int32) (sd : Nat) (L : Nat → Option (List PI × PC)) : Prop := ∃ br cd, 420 * sd ≤ cd ∧ cd ≤ 420 * sd + 400 ∧ 520 * sd ≤ 4 * br ∧ 4 * br ≤ 520 * sd + 400 ∧ ∀ k, k < 4 → (L k = none → Y 346 (4 * sd + k) = nI 0 ∧ Y 347 (4 * sd + k) = nI 0) ∧ ∀ x, L k = some x → ∃ b0 c0, Y 346 (4 * sd + k) = nI b0 ∧ Y 347 (4 * sd + k) = nI (b0 + x.1.length + 1) ∧ RMk Y (420 * sd) (520 * sd) br cd b0 c0 x.1 x.2
theorem RMz_of (ha : a ≤ 400) (h : RMl I sd L a) : RMz I sd L := by
  obtain ⟨br, cd, g1, g2, g3, g4, g5, g6, g7⟩ := h
  exact ⟨br, cd, g3, by omega, g5, by omega, g7⟩
theorem RMz_fr {Z : Nat → Nat → Int32} {lv : Nat} (hlv : lv < 2) (h : RMz I lv L) (hf : ∀ q z, LH (1 - lv) q z → Z q z = I q z) : RMz Z lv L := by
  obtain ⟨br, cd, g3, g4, g5, g6, g7⟩ := h
  refine ⟨br, cd, g3, g4, g5, g6, fun k hk => ?_⟩
  obtain ⟨n1, n2⟩ := g7 k hk
  have e1 : Z 346 (4 * lv + k) = I 346 (4 * lv + k) := hf _ _ (by unfold LH; omega)
  have e2 : Z 347 (4 * lv + k) = I 347 (4 * lv + k) := hf _ _ (by unfold LH; omega)
  rw [e1, e2]
  refine ⟨n1, fun x hx => ?_⟩
  obtain ⟨b0, c0, b1, b2, b3, b4, b5, b6, b7, b8⟩ := n2 x hx
  refine ⟨b0, c0, b1, b2, BR_rw _ _ _ _ b3 (fun z z1 z2 => ⟨hf _ _ ?_, hf _ _ ?_, hf _ _ ?_, hf _ _ ?_, hf _ _ ?_⟩), b4, b5, b6, b7, fun i y hy => ?_⟩
  · unfold LH; omega
  · unfold LH; omega
  · unfold LH; omega
  · unfold LH; omega
  · unfold LH; omega
  · have hi : i < (flc x.1 x.2).length := by
      rcases Nat.lt_or_ge i (flc x.1 x.2).length with h | h
      · exact h
      · rw [List.getElem?_eq_none h] at hy; simp at hy
    rw [hf _ (c0 + i) (by unfold LH; omega), hf _ (c0 + i) (by unfold LH; omega)]
    exact b8 i y hy
theorem law_LWS (hsd : sd < 2) (h : RMz I sd L) (hcs : ∀ k x, L k = some x → csL x.1 x.2) : LWS I sd (tfN I) (tmN I) (ttN I) (teN I) (flN I sd) (nlN I sd) := by
  obtain ⟨br, cd, g3, g4, g5, g6, g7⟩ := h
  intro k hk
  obtain ⟨n1, n2⟩ := g7 k hk
  cases hL : L k with
  | none =>
    obtain ⟨a1, a2⟩ := n1 hL
    have e1 : flN I sd k = 0 := by unfold flN; rw [a1]; rfl
    have e2 : nlN I sd k = 0 := by unfold nlN; rw [a2, e1]; rfl
    rw [e1, e2]
    exact ⟨a1, a2, by omega, fun z z1 z2 => by omega⟩
  | some x =>
    obtain ⟨b0, c0, b1, b2, b3, b4, b5, b6, b7, b8⟩ := n2 x hL
    have e1 : flN I sd k = b0 := by unfold flN; rw [b1, nI_clamp (by omega)]
    have e2 : nlN I sd k = x.1.length + 1 := by unfold nlN; rw [b2, e1, nI_clamp (by omega)]; omega
    rw [e1, e2]
    refine ⟨b1, by rw [b2]; congr 1, by omega, fun z z1 z2 => ?_⟩
    exact bok_all x.1 x.2 b0 c0 (hcs k x hL) b3 b8 (by omega) (by omega) z z1 (by omega)
theorem law_LwR (hsd : sd < 2) (ha2 : a2 ≤ 400) (hX : RXl I p L a2) (h : RMz I sd L) (hcs : ∀ k x, L k = some x → csL x.1 x.2) : LwR I p (tfN I) (tmN I) (ttN I) (teN I) (flN I sd) (nlN I sd) := by
  obtain ⟨br, cd, g3, g4, g5, g6, g7⟩ := h
  obtain ⟨s, s1, s2, s3, s4⟩ := hX
  intro k hk
  obtain ⟨n1, n2⟩ := g7 k hk
  obtain ⟨f, f1, f2, f3, f4⟩ := s4 k hk
  refine ⟨f, f + (lcd k f (L k)).length, f1, f3, by omega, by omega, fun c hc => s3 c (by omega), fun vr => ?_⟩
  cases hL : L k with
  | none =>
    rw [hL] at f2 f4
    obtain ⟨a1, a2⟩ := n1 hL
    have e1 : flN I sd k = 0 := by unfold flN; rw [a1]; rfl
    have e2 : nlN I sd k = 0 := by unfold nlN; rw [a2, e1]; rfl
    have ed : lcd k f none = dfl k := rfl
    rw [ed] at f2 f4 ⊢
    unfold m_av
    rw [if_pos e2]
    unfold pln
    unfold dfl at f4 ⊢
    by_cases k0 : k = 0
    · rw [if_pos k0] at f4 ⊢
      rw [if_pos k0]
      have q1 : I (p + 9) f = nI 0 := (f4 0 (0, nI 1) rfl).1
      have q2 : I (p + 10) f = nI 1 := (f4 0 (0, nI 1) rfl).2
      simp only [List.length_cons, List.length_nil, Nat.zero_add]
      rw [show 405 = 403 + 1 + 1 from rfl, x_v, if_neg (by omega), q1, if_pos rfl, if_neg (by simp), q2, x_v, if_pos (Nat.le_refl _)]
      rfl
      all_goals (intro y x l h; simp at h)
    · rw [if_neg k0] at f4 ⊢
      rw [if_neg k0]
      by_cases k3 : k = 3
      · rw [if_pos k3] at f4 ⊢
        rw [if_pos k3]
        have q1 : I (p + 9) f = nI 1 := (f4 0 (1, nI 0) rfl).1
        have q2 : I (p + 10) f = nI 0 := (f4 0 (1, nI 0) rfl).2
        simp only [List.length_cons, List.length_nil, Nat.zero_add]
        rw [show 405 = 403 + 1 + 1 from rfl, x_v, if_neg (by omega), q1, if_neg (by decide), if_pos rfl, if_neg (by simp), q2, x_v, if_pos (Nat.le_refl _)]
        rfl
        all_goals (intro y x l h; simp at h)
      · rw [if_neg k3] at f4 ⊢
        rw [if_neg k3]
        have q1 : I (p + 9) f = nI 0 := (f4 0 (0, nI 0) rfl).1
        have q2 : I (p + 10) f = nI 0 := (f4 0 (0, nI 0) rfl).2
        simp only [List.length_cons, List.length_nil, Nat.zero_add]
        rw [show 405 = 403 + 1 + 1 from rfl, x_v, if_neg (by omega), q1, if_pos rfl, if_neg (by simp), q2, x_v, if_pos (Nat.le_refl _)]
        rfl
        all_goals (intro y x l h; simp at h)
  | some x =>
    rw [hL] at f2 f4
    obtain ⟨b0, c0, b1, b2, b3, b4, b5, b6, b7, b8⟩ := n2 x hL
    have e1 : flN I sd k = b0 := by unfold flN; rw [b1, nI_clamp (by omega)]
    have e2 : nlN I sd k = x.1.length + 1 := by unfold nlN; rw [b2, e1, nI_clamp (by omega)]; omega
    have ed : lcd k f (some x) = lwc f x.1 x.2 := rfl
    rw [ed] at f2 f4 ⊢
    unfold m_av
    rw [e1, e2, if_neg (by omega), xv_lev x.1 x.2 f 405 (hcs k x hL) f4 (by omega) (by omega)]
    exact (ls_lev x.1 x.2 b0 c0 (fun _ => nI 0) (hcs k x hL) (BR_n x.1 x.2 b0 c0 b3 (by omega)) b8).symm
end Ri
/-! ===== What all statements keep ===== -/
section Ri2
variable {K V : Nat → Nat} {W : Nat → List Nat}
def TLo (S : TS) : Prop := ∀ k x, S.2.2.2.2 k = some x → csL x.1 x.2
/-- rows as they may be, where nothing is wrong -/
def TRo (S : TS) : Prop := S.1 4 ≤ 9999 ∧ (S.1 5 = 0 → (∀ i, i < S.1 1 → ∃ v, v ≤ 99 ∧ S.2.2.2.1 0 i = some v) ∧ (∀ e, e < S.1 2 → (∃ v, v < S.1 0 ∧ S.2.2.2.1 1 e = some v) ∧ (∃ v, v < S.1 0 ∧ S.2.2.2.1 2 e = some v) ∧ (∃ v, v < S.1 1 ∧ S.2.2.2.1 3 e = some v) ∧ (∃ v, v < S.1 1 ∧ S.2.2.2.1 4 e = some v) ∧ ∃ v, v ≤ 99 ∧ S.2.2.2.1 5 e = some v) ∧ ∀ i, i < 6 → (S.2.2.2.1 6 i = none ∨ ∃ v, v < S.1 1 ∧ S.2.2.2.1 6 i = some v) ∧ (S.2.2.2.1 7 i = none ∨ ∃ v, v < S.1 1 ∧ S.2.2.2.1 7 i = some v))
theorem some_of {r : Option Nat} (h : ¬ r = none) : ∃ v, r = some v := by
  cases r with
  | none => exact absurd rfl h
  | some v => exact ⟨v, rfl⟩
theorem pSt_lo {S : TS} {a : Nat} (hL : TLo S) (h : (pSt K V W S a).1 = 0) : TLo (pSt K V W S a).2.2 := by
  unfold pSt at h ⊢
  repeat' split
  all_goals first | exact hL | skip
  rename_i c0 c1 c2 c3 c8 c4
  rw [if_neg c0, if_neg c1, if_neg c2, if_neg c3, if_neg c8, if_pos c4] at h
  intro k x hx
  have hx2 : mm_up S.2.2.2.2 (K a - 4) (some ((pLaw K V a).2.2.1, (pLaw K V a).2.2.2)) k = some x := hx
  by_cases e : k = K a - 4
  · rw [up_at e] at hx2
    simp only [Option.some.injEq] at hx2
    subst hx2
    exact pLaw_cs h
  · rw [up_ne e] at hx2
    exact hL k x hx2
theorem pSt_ro {S : TS} {a : Nat} (hT : TSo K S a) (hV : ∀ j, K j = 22 → V j ≤ 9999) (hR : TRo S) (h : (pSt K V W S a).1 = 0) : TRo (pSt K V W S a).2.2 := by
  obtain ⟨ha, hp, -⟩ := hT
  unfold pSt at h ⊢
  by_cases k0 : K a = 0
  · rw [if_pos k0] at h ⊢
    by_cases c : S.1 0 = 7
    · rw [if_pos c]; exact hR
    · rw [if_neg c]
      refine ⟨by unfold uFd; simp (disch := decide) only [up_ne, nt_o]; exact hR.1, fun h0 => ?_⟩
      have h00 : nt S.1 3 (a + 1) ((lk S.2.1 (W (a + 1)) (S.1 0)).isSome = true ∨ (lk S.2.2.1 (W (a + 1)) (S.1 1)).isSome = true) 5 = 0 := h0
      obtain ⟨r1, r2, r3⟩ := hR.2 (nt_0 (by decide) h00).1
      unfold uFd
      simp (disch := decide) only [up_ne, up_at, nt_o]
      refine ⟨r1, fun e he => ?_, r3⟩
      obtain ⟨⟨v1, q1, q2⟩, ⟨v2, q3, q4⟩, q5, q6, q7⟩ := r2 e he
      exact ⟨⟨v1, by omega, q2⟩, ⟨v2, by omega, q4⟩, q5, q6, q7⟩
  rw [if_neg k0] at h ⊢
  by_cases k1 : K a = 1
  · rw [if_pos k1] at h ⊢
    by_cases c : S.1 1 = 6
    · rw [if_pos c]; exact hR
    · rw [if_neg c]
      refine ⟨by unfold uPn; simp (disch := decide) only [up_ne, nt_o]; exact hR.1, fun h0 => ?_⟩
      have h00 : nt (nt S.1 3 (a + 1) ((lk S.2.1 (W (a + 1)) (S.1 0)).isSome = true ∨ (lk S.2.2.1 (W (a + 1)) (S.1 1)).isSome = true)) 5 (a + 2) (99 < V (a + 2)) 5 = 0 := h0
      obtain ⟨h1, h2⟩ := nt_0 (by decide) h00
      obtain ⟨r1, r2, r3⟩ := hR.2 (nt_0 (by decide) h1).1
      unfold uPn
      simp (disch := decide) only [up_ne, up_at, nt_o]
      refine ⟨fun i hi => ?_, fun e he => ?_, fun i hi => ?_⟩
      · by_cases e : i = S.1 1
        · exact ⟨V (a + 2), by omega, up_at e⟩
        · obtain ⟨v, v1, v2⟩ := r1 i (by omega)
          exact ⟨v, v1, by rw [up_ne e]; exact v2⟩
      · obtain ⟨q1, q2, ⟨v1, q3, q4⟩, ⟨v2, q5, q6⟩, q7⟩ := r2 e he
        exact ⟨q1, q2, ⟨v1, by omega, q4⟩, ⟨v2, by omega, q6⟩, q7⟩
      · obtain ⟨q1, q2⟩ := r3 i hi
        refine ⟨?_, ?_⟩
        · rcases q1 with q | ⟨v, v1, v2⟩
          · exact Or.inl q
          · exact Or.inr ⟨v, by omega, v2⟩
        · rcases q2 with q | ⟨v, v1, v2⟩
          · exact Or.inl q
          · exact Or.inr ⟨v, by omega, v2⟩
  rw [if_neg k1] at h ⊢
  by_cases k2 : K a = 2
  · rw [if_pos k2] at h ⊢
    by_cases c : S.1 2 = 10
    · rw [if_pos c]; exact hR
    · rw [if_neg c]
      refine ⟨by unfold uHg hgC; simp (disch := decide) only [up_ne, nt_o]; exact hR.1, fun h0 => ?_⟩
      have h00 : hgC W V S a 5 = 0 := h0
      unfold hgC at h00
      obtain ⟨h1, n6⟩ := nt_0 (by decide) h00
      obtain ⟨h2, n5⟩ := nt_0 (by decide) h1
      obtain ⟨h3, n4⟩ := nt_0 (by decide) h2
      obtain ⟨h4, n3⟩ := nt_0 (by decide) h3
      obtain ⟨h5, -⟩ := nt_0 (by decide) h4
      obtain ⟨h6, n1⟩ := nt_0 (by decide) h5
      obtain ⟨r1, r2, r3⟩ := hR.2 h6
      have e0 : (uHg W V S a).1 0 = S.1 0 := by unfold uHg hgC; simp (disch := decide) only [up_ne, nt_o]
      have e1 : (uHg W V S a).1 1 = S.1 1 := by unfold uHg hgC; simp (disch := decide) only [up_ne, nt_o]
      have e2 : (uHg W V S a).1 2 = S.1 2 + 1 := by unfold uHg; simp only [up_at]
      have eR : (uHg W V S a).2.2.2.1 = hgR W V S a := rfl
      show (∀ i, i < (uHg W V S a).1 1 → _) ∧ (∀ e, e < (uHg W V S a).1 2 → _) ∧ _
      rw [e0, e1, e2, eR]
      refine ⟨fun i hi => ?_, fun e he => ?_, fun i hi => ?_⟩
      · have : hgR W V S a 0 i = S.2.2.2.1 0 i := by unfold hgR; simp
        rw [this]; exact r1 i hi
      · by_cases ee : e = S.1 2
        · obtain ⟨v1, w1⟩ := some_of n1
          obtain ⟨v3, w3⟩ := some_of n3
          obtain ⟨v4, w4⟩ := some_of n4
          obtain ⟨v5, w5⟩ := some_of n5
          unfold hgR
          simp only [ee, if_true]
          exact ⟨⟨v1, (lk_lt w1).1, w1⟩, ⟨v3, (lk_lt w3).1, by simpa using w3⟩, ⟨v4, (lk_lt w4).1, by simpa using w4⟩, ⟨v5, (lk_lt w5).1, by simpa using w5⟩, ⟨V (a + 5), by omega, by simp⟩⟩
        · have hg : ∀ i, hgR W V S a i e = S.2.2.2.1 i e := fun i => by unfold hgR; rw [if_neg ee]
          rw [hg, hg, hg, hg, hg]
          exact r2 e (by omega)
      · have h6 : hgR W V S a 6 i = S.2.2.2.1 6 i := by unfold hgR; simp
        have h7 : hgR W V S a 7 i = S.2.2.2.1 7 i := by unfold hgR; simp
        rw [h6, h7]
        exact r3 i hi
  rw [if_neg k2] at h ⊢
  by_cases k3 : K a = 3
  · rw [if_pos k3] at h ⊢
    by_cases c : S.1 3 = 6
    · rw [if_pos c]; exact hR
    · rw [if_neg c]
      refine ⟨by unfold uHr hrC; simp (disch := decide) only [up_ne, nt_o]; exact hR.1, fun h0 => ?_⟩
      have h00 : hrC W S a 5 = 0 := h0
      unfold hrC at h00
      obtain ⟨h1, n5⟩ := nt_0 (by decide) h00
      obtain ⟨h2, -⟩ := nt_0 (by decide) h1
      obtain ⟨h3, n3⟩ := nt_0 (by decide) h2
      obtain ⟨h4, -⟩ := nt_0 (by decide) h3
      obtain ⟨h6, n1⟩ := nt_0 (by decide) h4
      obtain ⟨r1, r2, r3⟩ := hR.2 h6
      have e0 : (uHr W S a).1 0 = S.1 0 := by unfold uHr hrC; simp (disch := decide) only [up_ne, nt_o]
      have e1 : (uHr W S a).1 1 = S.1 1 := by unfold uHr hrC; simp (disch := decide) only [up_ne, nt_o]
      have e2 : (uHr W S a).1 2 = S.1 2 := by unfold uHr hrC; simp (disch := decide) only [up_ne, nt_o]
      have eR : (uHr W S a).2.2.2.1 = hrR W S a := rfl
      show (∀ i, i < (uHr W S a).1 1 → _) ∧ (∀ e, e < (uHr W S a).1 2 → _) ∧ _
      rw [e0, e1, e2, eR]
      have hg : ∀ i e, ¬ i = 6 → ¬ i = 7 → hrR W S a i e = S.2.2.2.1 i e := fun i e h1 h2 => by unfold hrR; simp [h1, h2]
      refine ⟨fun i hi => ?_, fun e he => ?_, fun i hi => ?_⟩
      · rw [hg 0 i (by decide) (by decide)]; exact r1 i hi
      · rw [hg 1 e (by decide) (by decide), hg 2 e (by decide) (by decide), hg 3 e (by decide) (by decide), hg 4 e (by decide) (by decide), hg 5 e (by decide) (by decide)]
        exact r2 e he
      · obtain ⟨v3, w3⟩ := some_of n3
        obtain ⟨v5, w5⟩ := some_of n5
        by_cases ee : lk S.2.2.1 (W (a + 1)) (S.1 1) = some i
        · unfold hrR
          rw [if_pos ee, if_pos ee]
          simp only [if_true]
          exact ⟨Or.inr ⟨v3, (lk_lt w3).1, w3⟩, Or.inr ⟨v5, (lk_lt w5).1, by simpa using w5⟩⟩
        · have h6 : hrR W S a 6 i = S.2.2.2.1 6 i := by unfold hrR; rw [if_neg ee]
          have h7 : hrR W S a 7 i = S.2.2.2.1 7 i := by unfold hrR; rw [if_neg ee]
          rw [h6, h7]
          exact r3 i hi
  rw [if_neg k3] at h ⊢
  by_cases k8 : K a = 8
  · rw [if_pos k8] at h ⊢
    obtain ⟨e1, e2, e3, e4⟩ := pSeq_ok [8, 22, 23] a (by decide) ha hp h
    have := hV (a + 1) (e4 1 22 rfl)
    exact ⟨by show mm_up S.1 4 (V (a + 1)) 4 ≤ 9999; rw [up_at rfl]; exact this, hR.2⟩
  rw [if_neg k8] at h ⊢
  by_cases k4 : 4 ≤ K a ∧ K a ≤ 7
  · rw [if_pos k4]; exact hR
  · rw [if_neg k4]; exact hR
theorem pAll_keep (hW : ∀ j, K j ≤ 21 → ltok (W j)) (hV : ∀ j, K j = 22 → V j ≤ 9999) (hK : ∀ j, K j ≤ 33) : ∀ (f : Nat) (S : TS) (a : Nat), TSo K S a → TLo S → TRo S → (pAll K V W f S a).1 = 0 → TLo (pAll K V W f S a).2.2 ∧ TRo (pAll K V W f S a).2.2 := by
  intro f
  induction f with
  | zero => intro S a _ h1 h2 _; exact ⟨h1, h2⟩
  | succ f ih =>
    intro S a hT h1 h2 h
    simp only [pAll] at h ⊢
    by_cases c : K a = 33
    · rw [if_pos c]; exact ⟨h1, h2⟩
    · rw [if_neg c] at h ⊢
      by_cases d : (pSt K V W S a).1 = 0
      · rw [if_pos d] at h ⊢
        have h33 := hK a
        exact ih _ _ (pSt_ok hT (by omega) hW d).1 (pSt_lo h1 d) (pSt_ro hT hV h2 d) h
      · rw [if_neg d] at h; exact absurd h d
end Ri2
