/-! ===== The class's constructor ===== -/
section Se
variable {I : Nat → Nat → Int32} {J : Nat → Nat → Int64} {Q : Option Value → mm_M → Prop}
def zI : Nat → Nat → Int32 := fun _ _ => 0
def zJ : Nat → Nat → Int64 := fun _ _ => 0
def xks : List (Option (Option Nat)) := [some (some 1), some (some 3), some (some 9), some (some 22), some (some 35), some (some 41), some (some 47), some (some 51), some (some 53), some (some 57), some (some 299), some (some 304), none]
theorem SH_St {b n : Nat} (h : (b = 35 ∧ n = 2) ∨ (b = 59 ∧ n = 40) ∨ (b = 305 ∧ n = 3)) {i : Nat} (hi : i < n) : StS (SH false) (b + 6 * i) := by
  have key : ∀ z, z < 6 → SH false (b + 6 * i + z) = stR b (b + 6 * i + z) := fun z hz => by
    unfold SH
    rcases h with ⟨rfl, rfl⟩ | ⟨rfl, rfl⟩ | ⟨rfl, rfl⟩
    · rw [if_pos (by omega)]
    · rw [if_neg (by omega), if_pos (by omega)]
    · rw [if_neg (by omega), if_neg (by omega), if_pos (by omega)]
  have k2 : ∀ z, z < 6 → stR b (b + 6 * i + z) = if z = 0 then stO (b + 6 * i + z) else stA z := fun z hz => by
    unfold stR
    have e : (b + 6 * i + z - b) % 6 = z := by omega
    rw [e]
  refine ⟨?_, ?_, ?_, ?_, ?_, ?_⟩
  · exact (key 0 (by omega)).trans (k2 0 (by omega))
  · exact (key 1 (by omega)).trans (k2 1 (by omega))
  · exact (key 2 (by omega)).trans (k2 2 (by omega))
  · exact (key 3 (by omega)).trans (k2 3 (by omega))
  · exact (key 4 (by omega)).trans (k2 4 (by omega))
  · exact (key 5 (by omega)).trans (k2 5 (by omega))
theorem StS_up {G : Nat → mm_Sh} {k q : Nat} {o : mm_Sh} (h : StS G k) (hq : q < k) : StS (mm_up G q o) k := by
  obtain ⟨a0, a1, a2, a3, a4, a5⟩ := h
  exact ⟨by rw [up_ne (by omega)]; exact a0, by rw [up_ne (by omega)]; exact a1, by rw [up_ne (by omega)]; exact a2, by rw [up_ne (by omega)]; exact a3, by rw [up_ne (by omega)]; exact a4, by rw [up_ne (by omega)]; exact a5⟩
theorem IsPs_up {G : Nat → mm_Sh} {k q : Nat} {o : mm_Sh} (h : IsPs G k) (hq : q < k) : IsPs (mm_up G q o) k := by
  obtain ⟨g0, g1, g2, g3, g4, g5, g6, g7, g8, g9, g10, g11, g12⟩ := h
  exact ⟨by rw [up_ne (by omega)]; exact g0, by rw [up_ne (by omega)]; exact g1, by rw [up_ne (by omega)]; exact g2, by rw [up_ne (by omega)]; exact g3, by rw [up_ne (by omega)]; exact g4, by rw [up_ne (by omega)]; exact g5, by rw [up_ne (by omega)]; exact g6, by rw [up_ne (by omega)]; exact g7, by rw [up_ne (by omega)]; exact g8, by rw [up_ne (by omega)]; exact g9, by rw [up_ne (by omega)]; exact g10, by rw [up_ne (by omega)]; exact g11, by rw [up_ne (by omega)]; exact g12⟩
theorem Zr_0 {k : Nat} : Zr zI zJ k := fun _ _ => ⟨rfl, rfl⟩
/-- X(): what is told after it -/
theorem k_iX {dd : Nat} (hd : 6 ≤ dd) (hK : ∀ ns Y, ns ≤ 30000 → (∀ q, ¬ (q = 3) → ¬ (9 ≤ q ∧ q ≤ 34) → Y q = fun _ => 0) → Y 3 = mm_up (fun _ => 0) 2 nM1 → RXd Y (mm_up zJ 8 (jw 21)) 9 TS0 0 → RXd Y (mm_up zJ 8 (jw 21)) 22 TS0 0 → Q none (323, ns, cS (SH false) 323, Y, mm_up zJ 8 (jw 21))) : EV dd 0 [.ref 0] (1, 13, cS (mm_up (SH false) 0 (.inl (11, [some none, some none, some none, some none, some none, some none, some none, some none, some none, some none, some none, some none, none]))) 1, zI, zJ) Q := by
  refine EV_up hd ?_
  refine EV_of (show 1 ≤ 2 from by decide) ?_; show WP 5 0 (mm_Cd 0 0) [some (.ref 0), none] [] _ _
  rw [cd_0_0, kb_0_0]
  refine wp_oi ?_
  refine wp_sub (ks2 := [some none, none]) rfl nf_260 (by omega) Zr_0 ?_
  refine k_iTape (by omega) (by omega) rfl rfl Zr_0 ?_
  refine wp_putr (by omega) rfl ?_
  refine wp_sub (ks2 := [some none, none, none, none, none, none]) rfl nf_207 (by omega) Zr_0 ?_
  refine k_iReader (by omega) (by omega) rfl rfl rfl rfl rfl rfl Zr_0 ?_
  refine wp_putr (by omega) rfl ?_
  have z1 : Zr (mm_up zI 3 (mm_up (zI 3) 2 nM1)) (mm_up zJ 8 (jw 21)) 9 := fun a ha => ⟨up_ne (by omega), up_ne (by omega)⟩
  generalize hI1 : mm_up zI 3 (mm_up (zI 3) 2 nM1) = I1 at z1
  generalize hJ1 : mm_up zJ 8 (jw 21) = J1 at z1 hK
  exact (0 : Nat)
end Se
