/-! ===== The class's constructor ===== -/
section Se
variable {I : Nat → Nat → Int32} {J : Nat → Nat → Int64} {Q : Option Value → mm_M → Prop}
def zI : Nat → Nat → Int32 := fun _ _ => 0
def zJ : Nat → Nat → Int64 := fun _ _ => 0
def xks : List (Option (Option Nat)) := [some (some 1), some (some 3), some (some 9), some (some 22), some (some 35), some (some 41), some (some 47), some (some 51), some (some 53), some (some 57), some (some 299), some (some 304), none]
theorem SH_St {b n : Nat} (h : (b = 35 ∧ n = 2) ∨ (b = 59 ∧ n = 40) ∨ (b = 305 ∧ n = 3)) {i : Nat} (hi : i < n) : StS (SH false) (b + 6 * i) := by
  have key : ∀ z, z < 6 → SH false (b + 6 * i + z) = stR b (b + 6 * i + z) := fun z hz => by
    unfold SH
    rcases h with ⟨rfl, rfl⟩ | ⟨rfl, rfl⟩ | ⟨rfl, rfl⟩
    · rw [if_pos (by omega)]
    · rw [if_neg (by omega), if_pos (by omega)]
    · rw [if_neg (by omega), if_neg (by omega), if_pos (by omega)]
  have k2 : ∀ z, z < 6 → stR b (b + 6 * i + z) = if z = 0 then stO (b + 6 * i + z) else stA z := fun z hz => by
    unfold stR
    have e : (b + 6 * i + z - b) % 6 = z := by omega
    rw [e]
  refine ⟨?_, ?_, ?_, ?_, ?_, ?_⟩
  · exact (key 0 (by omega)).trans (k2 0 (by omega))
  · exact (key 1 (by omega)).trans (k2 1 (by omega))
  · exact (key 2 (by omega)).trans (k2 2 (by omega))
  · exact (key 3 (by omega)).trans (k2 3 (by omega))
  · exact (key 4 (by omega)).trans (k2 4 (by omega))
  · exact (key 5 (by omega)).trans (k2 5 (by omega))
theorem StS_up {G : Nat → mm_Sh} {k q : Nat} {o : mm_Sh} (h : StS G k) (hq : q < k) : StS (mm_up G q o) k := by
  obtain ⟨a0, a1, a2, a3, a4, a5⟩ := h
  exact ⟨by rw [up_ne (by omega)]; exact a0, by rw [up_ne (by omega)]; exact a1, by rw [up_ne (by omega)]; exact a2, by rw [up_ne (by omega)]; exact a3, by rw [up_ne (by omega)]; exact a4, by rw [up_ne (by omega)]; exact a5⟩
theorem IsPs_up {G : Nat → mm_Sh} {k q : Nat} {o : mm_Sh} (h : IsPs G k) (hq : q < k) : IsPs (mm_up G q o) k := by
  obtain ⟨g0, g1, g2, g3, g4, g5, g6, g7, g8, g9, g10, g11, g12⟩ := h
  exact ⟨by rw [up_ne (by omega)]; exact g0, by rw [up_ne (by omega)]; exact g1, by rw [up_ne (by omega)]; exact g2, by rw [up_ne (by omega)]; exact g3, by rw [up_ne (by omega)]; exact g4, by rw [up_ne (by omega)]; exact g5, by rw [up_ne (by omega)]; exact g6, by rw [up_ne (by omega)]; exact g7, by rw [up_ne (by omega)]; exact g8, by rw [up_ne (by omega)]; exact g9, by rw [up_ne (by omega)]; exact g10, by rw [up_ne (by omega)]; exact g11, by rw [up_ne (by omega)]; exact g12⟩
theorem Zr_0 {k : Nat} : Zr zI zJ k := fun _ _ => ⟨rfl, rfl⟩
/-- X(): what is told after it -/
theorem k_iX {dd : Nat} (hd : 6 ≤ dd) (hK : ∀ ns Y, ns ≤ 30000 → (∀ q, ¬ (q = 3) → ¬ (9 ≤ q ∧ q ≤ 34) → Y q = fun _ => 0) → Y 3 = mm_up (fun _ => 0) 2 nM1 → RXd Y (mm_up zJ 8 (jw 21)) 9 TS0 0 → RXd Y (mm_up zJ 8 (jw 21)) 22 TS0 0 → Q none (323, ns, cS (SH false) 323, Y, mm_up zJ 8 (jw 21))) : EV dd 0 [.ref 0] (1, 13, cS (mm_up (SH false) 0 (.inl (11, [some none, some none, some none, some none, some none, some none, some none, some none, some none, some none, some none, some none, none]))) 1, zI, zJ) Q := by
  refine EV_up hd ?_
  refine EV_of (show 1 ≤ 2 from by decide) ?_; show WP 5 0 (mm_Cd 0 0) [some (.ref 0), none] [] _ _
  rw [cd_0_0, kb_0_0]
  refine wp_oi ?_
  refine wp_sub (ks2 := [some none, none]) rfl nf_260 (by omega) Zr_0 ?_
  refine k_iTape (by omega) (by omega) rfl rfl Zr_0 ?_
  refine wp_putr (by omega) rfl ?_
  refine wp_sub (ks2 := [some none, none, none, none, none, none]) rfl nf_207 (by omega) Zr_0 ?_
  refine k_iReader (by omega) (by omega) rfl rfl rfl rfl rfl rfl Zr_0 ?_
  refine wp_putr (by omega) rfl ?_
  have z1 : Zr (mm_up zI 3 (mm_up (zI 3) 2 nM1)) (mm_up zJ 8 (jw 21)) 9 := fun a ha => ⟨up_ne (by omega), up_ne (by omega)⟩
  generalize hI1 : mm_up zI 3 (mm_up (zI 3) 2 nM1) = I1 at z1
  generalize hJ1 : mm_up zJ 8 (jw 21) = J1 at z1 hK
  have f1 : ∀ q, ¬ q = 3 → I1 q = fun _ => 0 := fun q hq => by rw [← hI1, up_ne hq]; rfl
  have f13 : I1 3 = mm_up (fun _ => 0) 2 nM1 := by rw [← hI1, up_at rfl]; rfl
  show WP 5 0 _ _ [] (9, _, cS (mm_up (SH false) 0 _) 9, I1, J1) Q
  refine wp_sub (ks2 := [some none, some none, some none, some none, some none, some none, some none, some none, none, none, none, none, none]) rfl nf_199 (by omega) z1 ?_
  refine k_iParish (by omega) (Or.inl rfl) (IsPs_up IsPa_9 (by omega)) z1 (fun Y1 y1 r1 => ?_)
  refine wp_putr (by omega) rfl ?_
  have z2 : Zr Y1 J1 22 := fun a ha => by rw [y1 a (by omega)]; exact z1 a (by omega)
  show WP 5 0 _ _ [] (22, _, cS (mm_up (SH false) 0 _) 22, Y1, J1) Q
  refine wp_sub (ks2 := [some none, some none, some none, some none, some none, some none, some none, some none, none, none, none, none, none]) rfl nf_199 (by omega) z2 ?_
  refine k_iParish (by omega) (Or.inr rfl) (IsPs_up IsPa_22 (by omega)) z2 (fun Y2 y2 r2 => ?_)
  refine wp_putr (by omega) rfl ?_
  have z3 : Zr Y2 J1 35 := fun a ha => by rw [y2 a (by omega)]; exact z2 a (by omega)
  have r12 : RXd Y2 J1 9 TS0 0 := by
    obtain ⟨d1, d2, d3, d4⟩ := r1
    refine ⟨?_, d2, fun h0 => RXr_f (d3 h0) (fun q h1 h2 => y2 q (by omega)) rfl rfl, RXl_f d4 (fun q h1 h2 => y2 q (by omega)) (Nat.le_refl _)⟩
    unfold RXc
    rw [y2 9 (by omega)]
    exact d1
  have fY : ∀ q, ¬ (q = 3) → ¬ (9 ≤ q ∧ q ≤ 34) → Y2 q = fun _ => 0 := fun q h1 h2 => by rw [y2 q (by omega), y1 q (by omega)]; exact f1 q h1
  have fY3 : Y2 3 = mm_up (fun _ => 0) 2 nM1 := by rw [y2 3 (by omega), y1 3 (by omega)]; exact f13
  clear z1 z2 f1 f13 y1 y2 r1
  show WP 5 0 _ _ [] (35, _, cS (mm_up (SH false) 0 _) 35, Y2, J1) Q
  refine wp_sub (ks2 := [none, none, none, none, some none, some none, some none, some none, some none]) rfl nf_251 (by omega) z3 ?_
  refine k_iState (by omega) (by omega) rfl rfl rfl rfl rfl rfl (Zr_le z3 (by omega)) ?_
  refine wp_putr (by omega) rfl ?_
  show WP 5 0 _ _ [] (41, _, cS (mm_up (SH false) 0 _) 41, Y2, J1) Q
  refine wp_sub (ks2 := [none, none, none, none, some none, some none, some none, some none, some none]) rfl nf_251 (by omega) (Zr_le z3 (by omega)) ?_
  refine k_iState (by omega) (by omega) rfl rfl rfl rfl rfl rfl (Zr_le z3 (by omega)) ?_
  refine wp_putr (by omega) rfl ?_
  show WP 5 0 _ _ [] (47, _, cS (mm_up (SH false) 0 _) 47, Y2, J1) Q
  refine wp_sub (ks2 := [some none, some none, some none]) rfl nf_236 (by omega) (Zr_le z3 (by omega)) ?_
  refine k_iSeasons (by omega) (by omega) rfl rfl rfl rfl (Zr_le z3 (by omega)) ?_
  refine wp_putr (by omega) rfl ?_
  show WP 5 0 _ _ [] (51, _, cS (mm_up (SH false) 0 _) 51, Y2, J1) Q
  refine wp_sub (ks2 := [some none]) rfl nf_230 (by omega) (Zr_le z3 (by omega)) ?_
  refine k_iRoads (by omega) (by omega) rfl rfl (Zr_le z3 (by omega)) ?_
  refine wp_putr (by omega) rfl ?_
  show WP 5 0 _ _ [] (53, _, cS (mm_up (SH false) 0 _) 53, Y2, J1) Q
  refine wp_sub (ks2 := [some none, none, some none, some none, none, none]) rfl nf_194 (by omega) (Zr_le z3 (by omega)) ?_
  refine k_iMatches (by omega) (by omega) rfl rfl rfl rfl (Zr_le z3 (by omega)) ?_
  refine wp_putr (by omega) rfl ?_
  show WP 5 0 _ _ [] (57, _, cS (mm_up (SH false) 0 _) 57, Y2, J1) Q
  refine wp_sub (ks2 := [some none, none, none]) rfl nf_181 (by omega) (Zr_le z3 (by omega)) ?_
  refine k_iHistory (by omega) rfl rfl (fun i hi => StS_up (SH_St (Or.inr (Or.inl ⟨rfl, rfl⟩)) hi) (by omega)) (Zr_le z3 (by omega)) ?_
  refine wp_putr (by omega) rfl ?_
  show WP 5 0 _ _ [] (299, _, cS (mm_up (SH false) 0 _) 299, Y2, J1) Q
  refine wp_sub (ks2 := [some none, some none, some none, some none, none]) rfl nf_274 (by omega) (Zr_le z3 (by omega)) ?_
  refine k_iTold (by omega) (by omega) rfl rfl rfl rfl rfl (Zr_le z3 (by omega)) ?_
  refine wp_putr (by omega) rfl ?_
  show WP 5 0 _ _ [] (304, _, cS (mm_up (SH false) 0 _) 304, Y2, J1) Q
  rw [wp_aload]
  show WP 5 0 _ _ [.ref 0] _ _
  rw [wp_iconst]
  show WP 5 0 _ _ [.int (nI 3), .ref 0] _ _
  refine wp_nr (n := 3) (by omega) (by omega) ?_
  rw [← mm_up_sw (f := SH false) (a := 304) (b := 0) (by decide)]
  refine wp_putr (by omega) rfl ?_
  refine wp_seal rfl ?_
  rw [wp_iconst, wp_istore]
  refine ⟨by show 1 < 2; omega, ?_⟩
  rw [wp_jmp]
  show WP 5 0 (mm_Cd 0 1) [some (.ref 0), some (.int (nI 0))] [] (305 + 6 * 0, 7910 + 61 * 0, cS (mm_up (SH false) 304 (mm_rows 3 (fun _ => none))) (305 + 6 * 0), Y2, J1) Q
  rw [← rfH_0 (b := 305)]
  refine k_rows (G := SH false) (I := Y2) (J := J1) (Q := Q) (ns := 7910) (d := 5) (y := 0) (q := 0) (r := 304) (N := 3) (b0 := 305) (c := 11) (j := 11) (ks := xks) (cd_0_1.trans rfl) rfl (cd_0_2.trans rfl) (by omega) (by omega) (by omega) (by omega) (by omega) rfl rfl (by omega) (fun i hi => SH_St (Or.inr (Or.inr ⟨rfl, rfl⟩)) hi) (Zr_le z3 (by omega)) ?_ 0 (by omega)
  rw [cd_0_3, kb_0_3, mm_up_of (show SH false 304 = mm_rows 3 (rfH 305 3) from rfl)]
  refine wp_puti (ks := xks) rfl rfl ?_
  rw [wp_vret]
  have e0 : mm_up Y2 0 (mm_up (Y2 0) 12 (Int32.ofInt 0)) = Y2 := by
    have e1 : Y2 0 = fun _ => 0 := fY 0 (by omega) (by omega)
    refine mm_up_of ?_
    refine (mm_up_of ?_).symm
    rw [e1]; rfl
  rw [e0]
  exact hK _ Y2 (by decide) fY fY3 r12 r2
end Se
