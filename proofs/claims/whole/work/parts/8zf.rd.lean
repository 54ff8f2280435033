/-! ===== The reference: a law told; all statements ===== -/
section Rd
variable {w : Bool} {nx ns : Nat} {X Y Z : Nat → Nat → Int32} {J J' : Nat → Nat → Int64} {n a v q sd fv pl : Nat} {b c : Nat → Nat} {S : TS} {Kc : Option Value → mm_M → Prop}
theorem nI_ex (x : Int32) : ∃ k, x = nI k := ⟨x.toBitVec.toNat, by
  apply Int32.toBitVec_inj.mp
  show x.toBitVec = BitVec.ofNat 32 x.toBitVec.toNat
  simp⟩
theorem RP_RS {t op cd wt br : Nat} {ht tf tm tt te r1 r2 r3 : Nat → Int32} : RP (BB (RS b n Y a c) br ht tf tm tt te) t op cd wt r1 r2 r3 = RS b n (RP (BB Y br ht tf tm tt te) t op cd wt r1 r2 r3) t c := by
  funext z
  by_cases h : z = 323
  · subst h
    funext j
    show mm_up (mm_up (mm_up (mm_up (mm_up (mm_up (mm_up (mm_up (Y 323) 11 (nI a)) 15 (nI (c 5))) 16 (if c 5 = 0 then Y 323 16 else nI (tkp b n (c 6)))) 38 (nI br)) 11 (nI t)) 12 (nI op)) 44 (nI cd)) 48 (nI wt) j = mm_up (mm_up (mm_up (mm_up (mm_up (mm_up (mm_up (mm_up (Y 323) 38 (nI br)) 11 (nI t)) 12 (nI op)) 44 (nI cd)) 48 (nI wt)) 11 (nI t)) 15 (nI (c 5))) 16 (if c 5 = 0 then Y 323 16 else nI (tkp b n (c 6))) j
    simp only [mm_up_app]
    by_cases h1 : j = 11
    · subst h1; rfl
    by_cases h2 : j = 12
    · subst h2; rfl
    by_cases h3 : j = 15
    · subst h3; rfl
    by_cases h4 : j = 16
    · subst h4; rfl
    by_cases h5 : j = 38
    · subst h5; rfl
    by_cases h6 : j = 44
    · subst h6; rfl
    by_cases h7 : j = 48
    · subst h7; rfl
    simp only [h1, h2, h3, h4, h5, h6, h7, if_false]
  · rw [RS_o h]
    unfold RP BB
    simp only [mm_up_app, h, if_false]
    rw [RS_o h]
theorem RP_id {br cd wt : Nat} (h38 : Y 323 38 = nI br) (h12 : Y 323 12 = nI 0) (h44 : Y 323 44 = nI cd) (h48 : Y 323 48 = nI wt) (h11 : Y 323 11 = nI a) : RP (BB Y br (Y 348) (Y 349) (Y 350) (Y 351) (Y 352)) a 0 cd wt (Y 353) (Y 354) (Y 355) = Y := by
  have e1 : BB Y br (Y 348) (Y 349) (Y 350) (Y 351) (Y 352) = Y := by
    unfold BB
    rw [mm_up_of h38, mm_up_id, mm_up_id, mm_up_id, mm_up_id, mm_up_id, mm_up_id]
  rw [e1]
  unfold RP
  rw [mm_up_of h11, mm_up_of h12, mm_up_of h44, mm_up_of h48, mm_up_id, mm_up_id, mm_up_id, mm_up_id]
theorem BR_rw {ht tf tm tt te ht' tf' tm' tt' te' : Nat → Int32} : ∀ (l : List PI) (c : PC) (b0 c0 : Nat), BR ht tf tm tt te b0 c0 l c → (∀ z, b0 ≤ z → z < b0 + l.length + 1 → ht' z = ht z ∧ tf' z = tf z ∧ tm' z = tm z ∧ tt' z = tt z ∧ te' z = te z) → BR ht' tf' tm' tt' te' b0 c0 l c := by
  intro l
  induction l with
  | nil =>
    intro c b0 c0 h hz
    obtain ⟨h1, h2, h3⟩ := h
    obtain ⟨z1, -, -, z4, z5⟩ := hz b0 (Nat.le_refl _) (by simp)
    exact ⟨z1.trans h1, z4.trans h2, z5.trans h3⟩
  | cons t l ih =>
    intro c b0 c0 h hz
    obtain ⟨h1, h2, h3, h4, h5, h6⟩ := h
    obtain ⟨z1, z2, z3, z4, z5⟩ := hz b0 (Nat.le_refl _) (by simp only [List.length_cons]; omega)
    exact ⟨z1.trans h1, z2.trans h2, z3.trans h3, z4.trans h4, z5.trans h5, ih c (b0 + 1) _ h6 (fun z q1 q2 => hz z (by omega) (by simp only [List.length_cons]; omega))⟩
set_option maxHeartbeats 1000000 in
theorem km_law {k : Nat} (hsd : sd < 2) (hT : TSo (tkK b n) S a) (hD : RMd Y J sd S a) (hC : CUM Y J b n) (hk : k < 4) (hK : tkK b n a = 4 + k) {dd : Nat} (hd : 8 ≤ dd) (hS : uS w nx ns b n Y J sd (pSt (tkK b n) (tkV b n) (tkL b n) S a) Kc) (hF : uF w nx ns b n Y J sd (pSt (tkK b n) (tkV b n) (tkL b n) S a) Kc) : EV dd 77 [.ref 323] (nx, ns, SH w, RS b n Y a S.1, J) Kc := by
  obtain ⟨ha, hpre, f7, p6, h10, e6, c5, o1, o2, o3⟩ := hT
  obtain ⟨⟨m13, m12, m19⟩, hc, hN, hR, br, cd, l1, l2, l3, l4, l5, l6, l7⟩ := hD
  unfold pSt at hS hF
  rw [if_neg (by omega), if_neg (by omega), if_neg (by omega), if_neg (by omega), if_neg (by omega), if_pos (by omega), show tkK b n a - 4 = k by omega] at hS hF
  obtain ⟨wt, hwt⟩ := nI_ex (Y 323 48)
  have hid := @RP_id (RS b n Y a S.1) a br cd wt l1 m12 l2 hwt rfl
  have hCX : CUM (RS b n Y a S.1) J b n := CUM_f hC rfl rfl rfl rfl
  rw [← hid]
  refine k_mlawOne (X := RS b n Y a S.1) (C := 420 * sd) (D := 520 * sd) (sd := sd) (k := k) m13 m19 hsd hk hK hCX (by omega) (by omega) ha hpre l4 l6 ⟨l3, fun z _ => ⟨rfl, rfl⟩⟩ ⟨l5, fun z _ => ⟨rfl, rfl, rfl, rfl, rfl⟩⟩ hd ?_ ?_
  · intro hr br' ht' tf' tm' tt' te' s1 s2 s3 hBR hRW hBF hbr' happ hp2 hle hcd hbr2
    have ecd : cd + (flc (pLaw (tkK b n) (tkV b n) a).2.2.1 (pLaw (tkK b n) (tkV b n) a).2.2.2).length ≤ 420 * sd + 420 := by omega
    have hcf := CFc_app (C := 420 * sd) (X := RS b n Y a S.1) ⟨l3, fun z _ => ⟨rfl, rfl⟩⟩ happ ecd
    generalize hr0 : pLaw (tkK b n) (tkV b n) a = r at hr hBR hbr' happ hp2 hle hcd hbr2 hS hcf ⊢
    rw [RP_RS, RS_up (by decide), RS_up (by decide)]
    have e346 : RS b n Y a S.1 346 = Y 346 := rfl
    have e347 : RS b n Y a S.1 347 = Y 347 := rfl
    rw [e346, e347]
    have hgf := hBF.1
    generalize hYn : mm_up (mm_up (RP (BB Y br' ht' tf' tm' tt' te') r.2.1 0 (cd + (flc r.2.2.1 r.2.2.2).length) 0 s1 s2 s3) 346 (mm_up (Y 346) (4 * sd + k) (nI br))) 347 (mm_up (Y 347) (4 * sd + k) (nI br')) = Yn
    have y0 : ∀ q, ¬ q = 323 → ¬ (346 ≤ q ∧ q ≤ 355) → Yn q = Y q := fun q h1 h2 => by
      rw [← hYn, up_ne (by omega), up_ne (by omega)]
      unfold RP BB
      simp (disch := omega) only [up_ne]
    have y323 : ∀ j, ¬ (11 ≤ j ∧ j ≤ 12) → ¬ j = 38 → ¬ j = 44 → ¬ j = 48 → Yn 323 j = Y 323 j := fun j h1 h2 h3 h4 => by
      rw [← hYn]
      show mm_up (mm_up (mm_up (mm_up (mm_up (Y 323) 38 (nI br')) 11 (nI r.2.1)) 12 (nI 0)) 44 (nI (cd + (flc r.2.2.1 r.2.2.2).length))) 48 (nI 0) j = _
      rw [up_ne h4, up_ne h3, up_ne (by omega), up_ne (by omega), up_ne h2]
    have y346 : Yn 346 = mm_up (Y 346) (4 * sd + k) (nI br) := by rw [← hYn]; rfl
    have y347 : Yn 347 = mm_up (Y 347) (4 * sd + k) (nI br') := by rw [← hYn]; rfl
    have y348 : Yn 348 = ht' := by rw [← hYn]; rfl
    have y349 : Yn 349 = tf' := by rw [← hYn]; rfl
    have y350 : Yn 350 = tm' := by rw [← hYn]; rfl
    have y351 : Yn 351 = tt' := by rw [← hYn]; rfl
    have y352 : Yn 352 = te' := by rw [← hYn]; rfl
    have y353 : Yn 353 = s1 := by rw [← hYn]; rfl
    have y354 : Yn 354 = s2 := by rw [← hYn]; rfl
    have y38 : Yn 323 38 = nI br' := by rw [← hYn]; rfl
    have y44 : Yn 323 44 = nI (cd + (flc r.2.2.1 r.2.2.2).length) := by rw [← hYn]; rfl
    have y12 : Yn 323 12 = nI 0 := by rw [← hYn]; rfl
    clear hYn hid
    refine hS hr Yn J ⟨⟨by rw [y323 _ (by decide) (by decide) (by decide) (by decide)]; exact m13, y12, by rw [y323 _ (by decide) (by decide) (by decide) (by decide)]; exact m19⟩, ?_, ?_, fun h0 => ?_, br', cd + (flc r.2.2.1 r.2.2.2).length, y38, y44, by omega, by show _ ≤ 420 * sd + r.2.1; omega, hgf, by show _ ≤ 520 * sd + r.2.1; omega, fun k2 hk2 => ?_⟩ ⟨fun q h1 h2 => y0 q h1 (by omega), fun j h1 h2 h3 h4 h5 => y323 j (by omega) h3 h4 h5, fun q z hl => ?_⟩ (fun _ _ => rfl)
    · unfold RMc
      rw [y0 333 (by decide) (by decide), y0 334 (by decide) (by decide), y0 338 (by decide) (by decide), y0 344 (by decide) (by decide), y0 345 (by decide) (by decide)]
      exact hc
    · exact RMn_f hN (y323 _ (by decide) (by decide) (by decide) (by decide)) (y0 _ (by decide) (by decide)) rfl rfl rfl rfl rfl
    · exact RMr_f (hR h0) (fun q hq => y0 q (by omega) (by omega)) rfl rfl
    · rw [y346, y347]
      unfold RMk
      rw [y348, y349, y350, y351, y352, y353, y354]
      by_cases e : k2 = k
      · subst e
        refine ⟨fun h => ?_, fun x hx => ?_⟩
        · have h9 : mm_up S.2.2.2.2 k2 (some (r.2.2.1, r.2.2.2)) k2 = none := h
          rw [up_at rfl] at h9; simp at h9
        · have hx2 : mm_up S.2.2.2.2 k2 (some (r.2.2.1, r.2.2.2)) k2 = some x := hx
          rw [up_at rfl] at hx2
          simp only [Option.some.injEq] at hx2
          subst hx2
          exact ⟨br, cd, up_at rfl, by rw [up_at rfl, hbr'], hBR, l5, by show br + r.2.2.1.length + 1 ≤ br'; omega, l3, Nat.le_refl _, fun i x hx => happ.2.1 i x hx⟩
      · have hne : ¬ 4 * sd + k2 = 4 * sd + k := by omega
        rw [up_ne hne, up_ne hne]
        have eL : mm_up S.2.2.2.2 k (some (r.2.2.1, r.2.2.2)) k2 = S.2.2.2.2 k2 := up_ne e
        obtain ⟨g1, g2⟩ := l7 k2 hk2
        refine ⟨fun h => g1 (by rw [← eL]; exact h), fun x hx => ?_⟩
        obtain ⟨b0, c0, b1, b2, b3, b4, b5, b6, b7, b8⟩ := g2 x (by rw [← eL]; exact hx)
        refine ⟨b0, c0, b1, b2, BR_rw _ _ _ _ b3 (fun z q1 q2 => hRW z (by omega)), b4, by omega, b6, by omega, fun i y hy => ?_⟩
        have hi : i < (flc x.1 x.2).length := by
          rcases Nat.lt_or_ge i (flc x.1 x.2).length with h | h
          · exact h
          · rw [List.getElem?_eq_none h] at hy; simp at hy
        obtain ⟨c1, c2⟩ := happ.1 (c0 + i) (by omega)
        rw [c1, c2]
        exact b8 i y hy
    · unfold LH at hl
      have hb := hBF.2 z
      have hc9 := hcf.2 z
      rcases (show (q < 346) ∨ q = 346 ∨ q = 347 ∨ q = 348 ∨ q = 349 ∨ q = 350 ∨ q = 351 ∨ q = 352 ∨ q = 353 ∨ q = 354 by omega) with h | h | h | h | h | h | h | h | h | h
      · rw [y0 q (by omega) (by omega)]
      · subst h; rw [y346, up_ne (by omega)]
      · subst h; rw [y347, up_ne (by omega)]
      · subst h; rw [y348]; exact (hb (by omega)).1
      · subst h; rw [y349]; exact (hb (by omega)).2.1
      · subst h; rw [y350]; exact (hb (by omega)).2.2.1
      · subst h; rw [y351]; exact (hb (by omega)).2.2.2.1
      · subst h; rw [y352]; exact (hb (by omega)).2.2.2.2
      · subst h; rw [y353]; exact (hc9 (by omega)).1
      · subst h; rw [y354]; exact (hc9 (by omega)).2
  · intro hr Z hZ z1 z2
    obtain ⟨f1, f2, f3, f4⟩ := hZ
    refine hF hr Z J ⟨fun q h1 h2 => ?_, fun j h1 h2 h3 h4 h5 => ?_, fun q z hl => ?_⟩ (fun _ _ => rfl) z1 z2
    · rw [f1 q h1 (by omega)]; exact RS_o h1
    · rw [f2 j (by omega) h3 h4 h5]; exact RS_j (by omega) (by omega) (by omega)
    · unfold LH at hl
      have hb := f4 z
      have hc9 := f3 z
      rcases (show (q < 348) ∨ q = 348 ∨ q = 349 ∨ q = 350 ∨ q = 351 ∨ q = 352 ∨ q = 353 ∨ q = 354 by omega) with h | h | h | h | h | h | h | h
      · rw [f1 q (by omega) (by omega), RS_o (by omega)]
      · subst h; exact (hb (by omega)).1
      · subst h; exact (hb (by omega)).2.1
      · subst h; exact (hb (by omega)).2.2.1
      · subst h; exact (hb (by omega)).2.2.2.1
      · subst h; exact (hb (by omega)).2.2.2.2
      · subst h; exact (hc9 (by omega)).1
      · subst h; exact (hc9 (by omega)).2
end Rd
