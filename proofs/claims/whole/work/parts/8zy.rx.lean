/-! ===== Pairs: a text read, both sides ===== -/
section Rx
variable {w : Bool} {nx ns : Nat} {I X Y Z : Nat → Nat → Int32} {J J' : Nat → Nat → Int64} {B B2 lv P H F U nxt T n hb sd : Nat} {L : Nat → Option (List PI × PC)} {tf tm tt te fl nl : Nat → Nat}
theorem TS0_lo : TLo TS0 := fun k x h => by simp [TS0] at h
theorem TS0_ro : TRo TS0 := ⟨by decide, fun _ => ⟨fun i hi => by simp [TS0] at hi, fun i hi => by simp [TS0] at hi, fun i hi => ⟨Or.inl rfl, Or.inl rfl⟩⟩⟩
theorem pTx_keep {b : Nat → Nat} (h : (pTx b n).1 = 0) : TLo (pTx b n).2.2 ∧ TRo (pTx b n).2.2 := by
  unfold pTx at h ⊢
  exact pAll_keep (fun j hj => tkL_ok hj) (fun j hj => tkV_lt hj) (fun j => tkK_lt) 401 TS0 0 TS0_ok TS0_lo TS0_ro h
theorem txF_0 {r : Nat × Nat × TS} (h : txF r = 0) : r.1 = 0 ∧ r.2.2.1 5 = 0 := by
  unfold txF at h
  by_cases c : r.1 = 0
  · rw [if_pos c] at h; exact ⟨c, h⟩
  · rw [if_neg c] at h; exact absurd h c
theorem pp_read (h : IVb B w I J lv P H F L tf tm tt te fl nl U nxt T n hb) : PP B 40 3 74 [] (nx, ns, SH w, I, J) := by
  obtain ⟨hq, -, hs, -, ⟨t1, t2, t3, t4⟩, -, hk, -⟩ := id h
  have h18 := hq.1.1.1.1
  have hlv := hq.1.1.1.2.1
  have zv := hq.1.1.2.2.1
  have zn := hq.1.1.2.2.2.2.2.1
  have zr := hq.1.1.2.2.2.2.2.2
  have z49 := hq.1.2.2.2
  have hp2 := pw_or (!w)
  unfold PP
  refine k_xread (n := n) t1 t3 hk.1 (by omega) ?_ ?_
  · intro hf Y J1 f1 f2 y1 y3
    have k : ∀ q, 323 ≤ q → Y q = I q := fun q hq => f1 q (by omega) (by omega) (by omega)
    have e : btf (Y 324) = btf (I 2) := by rw [k _ (by decide), t4]
    refine ⟨_, rfl, ?_⟩
    refine k_mread (lv := lv) (n := n) hlv (by rw [k 323 (by decide)]; exact t2) t3 (by rw [f2 _ (by decide) (by omega) (by omega)]; exact hk.2) (by rw [k 323 (by decide)]; exact h18) (fun z hz => by rw [k _ (by decide)]; exact zr z hz) (fun z hz => by rw [k _ (by decide)]; exact zn z hz) (by omega) ?_ ?_
    · rw [e]
      intro _ Z J2 g1 g2 g3 g4
      refine ⟨rfl, w, Z, J2, rfl, IV_of (IVb_fail (Z := Z) (J' := J2) h (fun q h1 h2 h3 h4 h5 => ?_) (fun j hj => ?_) (fun q z hz => ?_) ?_ g3 ?_ ⟨?_, ?_⟩)⟩
      · rw [g1.1 q h4 h5]; exact f1 q h1 h2 h3
      · rw [g1.2.1 j (by omega) (by omega) (by omega) (by omega) (by omega) (by omega) (by omega) (by omega), k 323 (by decide)]
      · rw [g1.2.2 q z hz, k q (by unfold LH at hz; omega)]
      · rw [g1.1 1 (by decide) (by decide)]; exact y1
      · rw [g1.1 3 (by decide) (by decide), g4]; exact y3
      · rw [g2 8 (by decide) (by decide), f2 8 (by decide) (by omega) (by omega)]; exact hk.1
      · rw [g2 _ (by decide) (by decide), f2 _ (by decide) (by omega) (by omega)]; exact hk.2
    · rw [e]
      intro hz
      exact absurd hz hf
  · intro hf Y J1 f1 f2 a1 a2 y1 y3 y0 y57 y572 y299 s0 s1 s2 s3 s4 s5 s6
    have k : ∀ q, 323 ≤ q → Y q = I q := fun q hq => f1 q (by omega) (by omega) (by omega) (by omega) (by omega) (by omega) (by omega)
    have e : btf (Y 324) = btf (I 2) := by rw [k _ (by decide), t4]
    refine ⟨_, rfl, ?_⟩
    refine k_mread (lv := lv) (n := n) hlv (by rw [k 323 (by decide)]; exact t2) t3 (by rw [f2 _ (by decide) (by omega) (by omega)]; exact hk.2) (by rw [k 323 (by decide)]; exact h18) (fun z hz => by rw [k _ (by decide)]; exact zr z hz) (fun z hz => by rw [k _ (by decide)]; exact zn z hz) (by omega) ?_ ?_
    · rw [e]
      intro hz
      exact absurd hf hz
    · rw [e]
      intro _ Z J2 g1 g2 g3 g18 gt gp gu gd mc mr ml mn mrow mh
      obtain ⟨w1, w2⟩ := txF_0 hf
      obtain ⟨hL, hR⟩ := pTx_keep w1
      obtain ⟨o1, o2, o3, o4, o5, -⟩ := a1
      obtain ⟨d1, d2, d3, d4⟩ := a2
      have lo : ∀ q, q < 323 → Z q = Y q := fun q hq => g1 q (by omega) (by omega) (by omega) (by omega) (by omega)
      refine ⟨rfl, !w, Z, J2, rfl, ?_⟩
      have hfr : ∀ z, 69 ≤ z → Y 359 z = nI 0 := fun z hz => by rw [k _ (by decide)]; exact zr z hz
      have x1 : RXc Z (pw (!w)) (pTx (btf (I 2)) n).2.2.1 := by unfold RXc; rw [lo _ (by omega)]; exact d1
      have x2 : RXr Z (pw (!w)) (pTx (btf (I 2)) n).2.2.1 (pTx (btf (I 2)) n).2.2.2.2.2.1 := RXr_f (d3 w2) (fun q h1 h2 => lo q (by omega)) rfl rfl
      have x3 : RXl Z (pw (!w)) (pTx (btf (I 2)) n).2.2.2.2.2.2 400 := RXl_f d4 (fun q h1 h2 => lo q (by omega)) o1
      refine IV_of (IVb_new (S := (pTx (btf (I 2)) n).2.2) (sd := 1 - lv) (nxt := nxt) (f := Y 359) (by omega) o3 o4 o5 w2 hR hL x1 x2 x3 g18 mc mr (RMz_of o1 ml) ?_ ?_ ?_ hfr mn ?_ ?_ ?_ ?_ ?_ ?_ ?_ ?_ hs.2.1 ?_ ?_ gu ?_ gd ?_ gt ?_ ?_ ⟨?_, ?_⟩ ?_ mh)
      · intro z hz; rw [lo 49 (by decide), f1 49 (by decide) (by decide) (by decide) (by omega) (by decide) (by decide) (by decide)]; exact z49 z hz
      · intro z hz; rw [g1 _ (by decide) (by decide) (by decide) (by decide) (by decide), k _ (by decide)]; exact zv z hz
      · intro z hz; rw [mrow, mn, bg_9 o4 o5 hz]; exact hfr z hz
      · rw [lo 35 (by decide)]; exact s0
      · rw [lo 35 (by decide)]; exact s1
      · rw [lo 35 (by decide)]; exact s2
      · rw [lo 35 (by decide)]; exact s3
      · intro i hi; rw [lo 36 (by decide), lo 37 (by decide), lo (pw (!w) + 3) (by omega)]; exact s4 i hi
      · intro i hi; rw [lo 39 (by decide), lo 40 (by decide), lo (pw (!w) + 7) (by omega)]; exact s5 i hi
      · intro i hi; rw [lo 38 (by decide), lo (pw (!w) + 6) (by omega), s6 i (by omega), if_pos hi]
      · intro i hi1 hi2 _; rw [lo 38 (by decide), s6 i hi2, if_neg (by omega)]
      · rw [lo 57 (by decide), y57]; exact hs.2.2.1
      · rw [lo 57 (by decide)]; exact y572
      · rw [lo 299 (by decide)]; exact y299
      · rw [lo 1 (by decide)]; exact y1
      · rw [lo 2 (by decide), g1 _ (by decide) (by decide) (by decide) (by decide) (by decide), k 324 (by decide), f1 2 (by decide) (by decide) (by decide) (by omega) (by decide) (by decide) (by decide)]; exact t4
      · rw [lo 3 (by decide), gp]; exact y3
      · rw [g2 8 (by decide) (by decide), f2 8 (by decide) (by omega) (by omega)]; exact hk.1
      · rw [g2 _ (by decide) (by decide), f2 _ (by decide) (by omega) (by omega)]; exact hk.2
      · rw [lo 0 (by decide)]; exact y0
end Rx
