/-! ===== The plain constructors of the class (by program, gen/mkcon.py) ===== -/
section Sa
variable {G : Nat → mm_Sh} {I : Nat → Nat → Int32} {J : Nat → Nat → Int64} {k k2 ns c d y : Nat} {ks : List (Option (Option Nat))} {L : mm_L} {Q : Option Value → mm_M → Prop}
theorem wp_end {a1 a2 : Nat} {a3 : Int} (hG : G k = .inl (c, ks)) (hK : Q none (k2, ns, cS G k2, I, J)) : WP d y [(74, a1, a2, a3)] L [] (k2, ns, cS (mm_up G k (.inl (c, ks))) k2, I, J) Q := by
  rw [wp_vret, mm_up_of hG]
  exact hK
theorem k_iTape {dd : Nat} (hd : 1 ≤ dd) (hk : k < 900000) (hG : G k = mm_obj 8 [some (some (k + 1)), none]) (hA0 : G (k + 1) = mm_arr 1 2000) (hz : Zr I J k) (hK : Q none (k + 1 + 1, ns + 2000, cS G (k + 1 + 1), I, J)) : EV dd 260 [.ref k] (k + 1, ns, cS (mm_up G k (.inl (8, [some none, none]))) (k + 1), I, J) Q := by
  refine EV_up hd ?_
  refine EV_of (show 1 ≤ 1 from by decide) ?_; show WP 0 260 (mm_Cd 260 0) [some (.ref k)] [] _ _
  rw [cd_260_0, kb_260_0]
  refine wp_oi ?_
  refine wp_fld (n := 2000) rfl (by omega) (by omega) (by decide) (by decide) rfl hA0 (Zr_le hz (by omega)) ?_
  exact wp_end hG hK
theorem k_iLaws {dd : Nat} (hd : 1 ≤ dd) (hk : k < 900000) (hG : G k = mm_obj 1 [some (some (k + 1)), some (some (k + 1 + 1)), some (some (k + 1 + 1 + 1)), some (some (k + 1 + 1 + 1 + 1)), none]) (hA0 : G (k + 1) = mm_arr 0 404) (hA1 : G (k + 1 + 1) = mm_arr 0 404) (hA2 : G (k + 1 + 1 + 1) = mm_arr 0 4) (hA3 : G (k + 1 + 1 + 1 + 1) = mm_arr 0 4) (hz : Zr I J k) (hK : Q none (k + 1 + 1 + 1 + 1 + 1, ns + 404 + 404 + 4 + 4, cS G (k + 1 + 1 + 1 + 1 + 1), I, J)) : EV dd 185 [.ref k] (k + 1, ns, cS (mm_up G k (.inl (1, [some none, some none, some none, some none, none]))) (k + 1), I, J) Q := by
  refine EV_up hd ?_
  refine EV_of (show 1 ≤ 1 from by decide) ?_; show WP 0 185 (mm_Cd 185 0) [some (.ref k)] [] _ _
  rw [cd_185_0, kb_185_0]
  refine wp_oi ?_
  refine wp_fld (n := 404) rfl (by omega) (by omega) (by decide) (by decide) rfl hA0 (Zr_le hz (by omega)) ?_
  refine wp_fld (n := 404) rfl (by omega) (by omega) (by decide) (by decide) rfl hA1 (Zr_le hz (by omega)) ?_
  refine wp_fld (n := 4) rfl (by omega) (by omega) (by decide) (by decide) rfl hA2 (Zr_le hz (by omega)) ?_
  refine wp_fld (n := 4) rfl (by omega) (by omega) (by decide) (by decide) rfl hA3 (Zr_le hz (by omega)) ?_
  exact wp_end hG hK
theorem k_iSeasons {dd : Nat} (hd : 1 ≤ dd) (hk : k < 900000) (hG : G k = mm_obj 6 [some (some (k + 1)), some (some (k + 1 + 1)), some (some (k + 1 + 1 + 1))]) (hA0 : G (k + 1) = mm_arr 0 64) (hA1 : G (k + 1 + 1) = mm_arr 0 9) (hA2 : G (k + 1 + 1 + 1) = mm_arr 0 10) (hz : Zr I J k) (hK : Q none (k + 1 + 1 + 1 + 1, ns + 64 + 9 + 10, cS G (k + 1 + 1 + 1 + 1), I, J)) : EV dd 236 [.ref k] (k + 1, ns, cS (mm_up G k (.inl (6, [some none, some none, some none]))) (k + 1), I, J) Q := by
  refine EV_up hd ?_
  refine EV_of (show 1 ≤ 1 from by decide) ?_; show WP 0 236 (mm_Cd 236 0) [some (.ref k)] [] _ _
  rw [cd_236_0, kb_236_0]
  refine wp_oi ?_
  refine wp_fld (n := 64) rfl (by omega) (by omega) (by decide) (by decide) rfl hA0 (Zr_le hz (by omega)) ?_
  refine wp_fld (n := 9) rfl (by omega) (by omega) (by decide) (by decide) rfl hA1 (Zr_le hz (by omega)) ?_
  refine wp_fld (n := 10) rfl (by omega) (by omega) (by decide) (by decide) rfl hA2 (Zr_le hz (by omega)) ?_
  exact wp_end hG hK
theorem k_iRoads {dd : Nat} (hd : 1 ≤ dd) (hk : k < 900000) (hG : G k = mm_obj 5 [some (some (k + 1))]) (hA0 : G (k + 1) = mm_arr 0 10) (hz : Zr I J k) (hK : Q none (k + 1 + 1, ns + 10, cS G (k + 1 + 1), I, J)) : EV dd 230 [.ref k] (k + 1, ns, cS (mm_up G k (.inl (5, [some none]))) (k + 1), I, J) Q := by
  refine EV_up hd ?_
  refine EV_of (show 1 ≤ 1 from by decide) ?_; show WP 0 230 (mm_Cd 230 0) [some (.ref k)] [] _ _
  rw [cd_230_0, kb_230_0]
  refine wp_oi ?_
  refine wp_fld (n := 10) rfl (by omega) (by omega) (by decide) (by decide) rfl hA0 (Zr_le hz (by omega)) ?_
  exact wp_end hG hK
theorem k_iMatches {dd : Nat} (hd : 1 ≤ dd) (hk : k < 900000) (hG : G k = mm_obj 2 [some (some (k + 1)), none, some (some (k + 1 + 1)), some (some (k + 1 + 1 + 1)), none, none]) (hA0 : G (k + 1) = mm_arr 0 6) (hA1 : G (k + 1 + 1) = mm_arr 0 6) (hA2 : G (k + 1 + 1 + 1) = mm_arr 0 36) (hz : Zr I J k) (hK : Q none (k + 1 + 1 + 1 + 1, ns + 6 + 6 + 36, cS G (k + 1 + 1 + 1 + 1), I, J)) : EV dd 194 [.ref k] (k + 1, ns, cS (mm_up G k (.inl (2, [some none, none, some none, some none, none, none]))) (k + 1), I, J) Q := by
  refine EV_up hd ?_
  refine EV_of (show 1 ≤ 1 from by decide) ?_; show WP 0 194 (mm_Cd 194 0) [some (.ref k)] [] _ _
  rw [cd_194_0, kb_194_0]
  refine wp_oi ?_
  refine wp_fld (n := 6) rfl (by omega) (by omega) (by decide) (by decide) rfl hA0 (Zr_le hz (by omega)) ?_
  refine wp_fld (n := 6) rfl (by omega) (by omega) (by decide) (by decide) rfl hA1 (Zr_le hz (by omega)) ?_
  refine wp_fld (n := 36) rfl (by omega) (by omega) (by decide) (by decide) rfl hA2 (Zr_le hz (by omega)) ?_
  exact wp_end hG hK
theorem k_iState {dd : Nat} (hd : 1 ≤ dd) (hk : k < 900000) (hG : G k = mm_obj 7 [none, none, none, none, some (some (k + 1)), some (some (k + 1 + 1)), some (some (k + 1 + 1 + 1)), some (some (k + 1 + 1 + 1 + 1)), some (some (k + 1 + 1 + 1 + 1 + 1))]) (hA0 : G (k + 1) = mm_arr 0 6) (hA1 : G (k + 1 + 1) = mm_arr 0 6) (hA2 : G (k + 1 + 1 + 1) = mm_arr 0 20) (hA3 : G (k + 1 + 1 + 1 + 1) = mm_arr 0 10) (hA4 : G (k + 1 + 1 + 1 + 1 + 1) = mm_arr 0 10) (hz : Zr I J k) (hK : Q none (k + 1 + 1 + 1 + 1 + 1 + 1, ns + 6 + 6 + 20 + 10 + 10, cS G (k + 1 + 1 + 1 + 1 + 1 + 1), I, J)) : EV dd 251 [.ref k] (k + 1, ns, cS (mm_up G k (.inl (7, [none, none, none, none, some none, some none, some none, some none, some none]))) (k + 1), I, J) Q := by
  refine EV_up hd ?_
  refine EV_of (show 1 ≤ 1 from by decide) ?_; show WP 0 251 (mm_Cd 251 0) [some (.ref k)] [] _ _
  rw [cd_251_0, kb_251_0]
  refine wp_oi ?_
  refine wp_fld (n := 6) rfl (by omega) (by omega) (by decide) (by decide) rfl hA0 (Zr_le hz (by omega)) ?_
  refine wp_fld (n := 6) rfl (by omega) (by omega) (by decide) (by decide) rfl hA1 (Zr_le hz (by omega)) ?_
  refine wp_fld (n := 20) rfl (by omega) (by omega) (by decide) (by decide) rfl hA2 (Zr_le hz (by omega)) ?_
  refine wp_fld (n := 10) rfl (by omega) (by omega) (by decide) (by decide) rfl hA3 (Zr_le hz (by omega)) ?_
  refine wp_fld (n := 10) rfl (by omega) (by omega) (by decide) (by decide) rfl hA4 (Zr_le hz (by omega)) ?_
  exact wp_end hG hK
theorem k_iTold {dd : Nat} (hd : 1 ≤ dd) (hk : k < 900000) (hG : G k = mm_obj 10 [some (some (k + 1)), some (some (k + 1 + 1)), some (some (k + 1 + 1 + 1)), some (some (k + 1 + 1 + 1 + 1)), none]) (hA0 : G (k + 1) = mm_arr 0 20) (hA1 : G (k + 1 + 1) = mm_arr 0 20) (hA2 : G (k + 1 + 1 + 1) = mm_arr 2 20) (hA3 : G (k + 1 + 1 + 1 + 1) = mm_arr 0 7) (hz : Zr I J k) (hK : Q none (k + 1 + 1 + 1 + 1 + 1, ns + 20 + 20 + 20 + 7, cS G (k + 1 + 1 + 1 + 1 + 1), I, J)) : EV dd 274 [.ref k] (k + 1, ns, cS (mm_up G k (.inl (10, [some none, some none, some none, some none, none]))) (k + 1), I, J) Q := by
  refine EV_up hd ?_
  refine EV_of (show 1 ≤ 1 from by decide) ?_; show WP 0 274 (mm_Cd 274 0) [some (.ref k)] [] _ _
  rw [cd_274_0, kb_274_0]
  refine wp_oi ?_
  refine wp_fld (n := 20) rfl (by omega) (by omega) (by decide) (by decide) rfl hA0 (Zr_le hz (by omega)) ?_
  refine wp_fld (n := 20) rfl (by omega) (by omega) (by decide) (by decide) rfl hA1 (Zr_le hz (by omega)) ?_
  refine wp_fld (n := 20) rfl (by omega) (by omega) (by decide) (by decide) rfl hA2 (Zr_le hz (by omega)) ?_
  refine wp_fld (n := 7) rfl (by omega) (by omega) (by decide) (by decide) rfl hA3 (Zr_le hz (by omega)) ?_
  exact wp_end hG hK
end Sa
