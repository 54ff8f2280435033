/-! ===== The class's constructors with parts ===== -/
section Sc
variable {G G0 : Nat → mm_Sh} {S : Nat → mm_Sh} {I : Nat → Nat → Int32} {J : Nat → Nat → Int64} {k k2 ns q r i N c j d y : Nat} {ks : List (Option (Option Nat))} {f : Nat → Option Nat} {L : mm_L} {is : List mm_I} {st : List Value} {Q : Option Value → mm_M → Prop} {x x2 : Int}
theorem wp_seal (hG : G k = .inl (c, ks)) (h : WP d y is L st (k2, ns, cS G k2, I, J) Q) : WP d y is L st (k2, ns, cS (mm_up G k (.inl (c, ks))) k2, I, J) Q := by
  rw [mm_up_of hG]
  exact h
theorem wp_puti (hS : S q = .inl (c, ks)) (hj : ks[j]? = some none) (h : WP d y is (some (.ref q) :: L) [] (k, ns, S, mm_up I q (mm_up (I q) j (Int32.ofInt x2)), J) Q) : WP d y ((2, 0, 0, 0) :: (7, 0, 0, x2) :: (24, c, j, x) :: is) (some (.ref q) :: L) [] (k, ns, S, I, J) Q := by
  rw [wp_aload]
  show WP d y _ _ [.ref q] _ _
  rw [wp_iconst, wp_24]
  have e : ms_24 c j x (some (.ref q) :: L) [.int (Int32.ofInt x2), .ref q] (k, ns, S, I, J) = some (some (.ref q) :: L, [], k, ns, S, mm_up I q (mm_up (I q) j (Int32.ofInt x2)), J) := by
    unfold ms_24
    simp only [hS]
    rw [if_pos ⟨trivial, hj⟩, mm_up2_eq]
  rw [e]
  exact h
theorem k_iTokens {dd : Nat} (hd : 2 ≤ dd) (hk : k < 900000) (hG : G k = mm_obj 9 [some (some (k + 1)), some (some (k + 1 + 1)), some (some (k + 1 + 1 + 1)), some (some (k + 1 + 1 + 1 + 1))]) (hA0 : G (k + 1) = mm_arr 0 401) (hA1 : G (k + 1 + 1) = mm_arr 0 401) (hA2 : G (k + 1 + 1 + 1) = mm_arr 3 401) (hA3 : G (k + 1 + 1 + 1 + 1) = mm_arr 3 21) (hz : Zr I J k) (hK : Q none (k + 1 + 1 + 1 + 1 + 1, ns + 401 + 401 + 401 + 21, cS G (k + 1 + 1 + 1 + 1 + 1), I, mm_up J (k + 1 + 1 + 1 + 1) (jw 21))) : EV dd 263 [.ref k] (k + 1, ns, cS (mm_up G k (.inl (9, [some none, some none, some none, some none]))) (k + 1), I, J) Q := by
  refine EV_up hd ?_
  refine EV_of (show 1 ≤ 4 from by decide) ?_; show WP 1 263 (mm_Cd 263 0) [some (.ref k), none, none, none] [] _ _
  rw [cd_263_0, kb_263_0]
  refine wp_oi ?_
  refine wp_fld (n := 401) rfl (by omega) (by omega) (by decide) (by decide) rfl hA0 (Zr_le hz (by omega)) ?_
  refine wp_fld (n := 401) rfl (by omega) (by omega) (by decide) (by decide) rfl hA1 (Zr_le hz (by omega)) ?_
  refine wp_fld (n := 401) rfl (by omega) (by omega) (by decide) (by decide) rfl hA2 (Zr_le hz (by omega)) ?_
  refine wp_fld (n := 21) rfl (by omega) (by omega) (by decide) (by decide) rfl hA3 (Zr_le hz (by omega)) ?_
  refine wp_seal hG ?_
  rw [wp_iconst, wp_istore]
  refine ⟨by show 1 < 4; omega, ?_⟩
  rw [wp_jmp]
  have t := k_wloop (S := cS G (k + 1 + 1 + 1 + 1 + 1)) (nx := k + 1 + 1 + 1 + 1 + 1) (ns := ns + 401 + 401 + 401 + 21) (I := I) (J := J) (Q := Q) (q := k) (A := k + 1 + 1 + 1 + 1) ((cS_lt (by omega)).trans hG) ((cS_lt (by omega)).trans hA3) hK 0 (Nat.zero_le _) none none
  rw [jw_0, mm_up_of (hz (k + 1 + 1 + 1 + 1) (by omega)).2] at t
  exact t
theorem k_iReader {dd : Nat} (hd : 3 ≤ dd) (hk : k < 800000) (hG : G k = mm_obj 4 [some (some (k + 1)), none, none, none, none, none]) (hT : G (k + 1) = mm_obj 9 [some (some (k + 1 + 1)), some (some (k + 1 + 1 + 1)), some (some (k + 1 + 1 + 1 + 1)), some (some (k + 1 + 1 + 1 + 1 + 1))]) (hA0 : G (k + 1 + 1) = mm_arr 0 401) (hA1 : G (k + 1 + 1 + 1) = mm_arr 0 401) (hA2 : G (k + 1 + 1 + 1 + 1) = mm_arr 3 401) (hA3 : G (k + 1 + 1 + 1 + 1 + 1) = mm_arr 3 21) (hz : Zr I J k) (hK : Q none (k + 1 + 1 + 1 + 1 + 1 + 1, ns + 4 + 401 + 401 + 401 + 21, cS G (k + 1 + 1 + 1 + 1 + 1 + 1), mm_up I k (mm_up (I k) 2 nM1), mm_up J (k + 1 + 1 + 1 + 1 + 1) (jw 21))) : EV dd 207 [.ref k] (k + 1, ns, cS (mm_up G k (.inl (4, [some none, none, none, none, none, none]))) (k + 1), I, J) Q := by
  refine EV_up hd ?_
  refine EV_of (show 1 ≤ 1 from by decide) ?_; show WP 2 207 (mm_Cd 207 0) [some (.ref k)] [] _ _
  rw [cd_207_0, kb_207_0]
  refine wp_oi ?_
  refine wp_sub (ks2 := [some none, some none, some none, some none]) rfl nf_263 (by omega) (Zr_le hz (by omega)) ?_
  refine k_iTokens (by omega) (by omega) (by rw [up_ne (by omega)]; exact hT) (by rw [up_ne (by omega)]; exact hA0) (by rw [up_ne (by omega)]; exact hA1) (by rw [up_ne (by omega)]; exact hA2) (by rw [up_ne (by omega)]; exact hA3) (Zr_le hz (by omega)) ?_
  refine wp_putr (by omega) rfl ?_
  refine wp_seal hG ?_
  refine wp_puti ((cS_lt (by omega)).trans hG) rfl ?_
  rw [wp_vret]
  exact hK
theorem k_iParish {dd : Nat} (hd : 5 ≤ dd) (hp : k = 9 ∨ k = 22) (hG : IsPs G k) (hz : Zr I J k) (hK : ∀ Y', (∀ q, ¬ (k ≤ q ∧ q ≤ k + 12) → Y' q = I q) → RXd Y' J k TS0 0 → Q none (k + 13, ns + 7 + 6 + 6 + 12 + 20 + 20 + 10 + 5 + 404 + 404 + 4 + 4, cS G (k + 13), Y', J)) : EV dd 199 [.ref k] (k + 1, ns, cS (mm_up G k (.inl (3, [some none, some none, some none, some none, some none, some none, some none, some none, none, none, none, none, none]))) (k + 1), I, J) Q := by
  refine EV_up hd ?_
  obtain ⟨g0, g1, g2, g3, g4, g5, g6, g7, g8, g9, g10, g11, g12⟩ := id hG
  refine EV_of (show 1 ≤ 1 from by decide) ?_; show WP 4 199 (mm_Cd 199 0) [some (.ref k)] [] _ _
  rw [cd_199_0, kb_199_0]
  refine wp_oi ?_
  refine wp_fld (n := 7) rfl (by omega) (by omega) (by decide) (by decide) rfl g1 (Zr_le hz (by omega)) ?_
  refine wp_fld (n := 6) rfl (by omega) (by omega) (by decide) (by decide) rfl g2 (Zr_le hz (by omega)) ?_
  refine wp_fld (n := 6) rfl (by omega) (by omega) (by decide) (by decide) rfl g3 (Zr_le hz (by omega)) ?_
  refine wp_fld (n := 12) rfl (by omega) (by omega) (by decide) (by decide) rfl g4 (Zr_le hz (by omega)) ?_
  refine wp_fld (n := 20) rfl (by omega) (by omega) (by decide) (by decide) rfl g5 (Zr_le hz (by omega)) ?_
  refine wp_fld (n := 20) rfl (by omega) (by omega) (by decide) (by decide) rfl g6 (Zr_le hz (by omega)) ?_
  refine wp_fld (n := 10) rfl (by omega) (by omega) (by decide) (by decide) rfl g7 (Zr_le hz (by omega)) ?_
  refine wp_sub (ks2 := [some none, some none, some none, some none, none]) rfl nf_185 (by omega) (Zr_le hz (by omega)) ?_
  refine k_iLaws (by omega) (by omega) (by rw [up_ne (by omega)]; exact g8) (by rw [up_ne (by omega)]; exact g9) (by rw [up_ne (by omega)]; exact g10) (by rw [up_ne (by omega)]; exact g11) (by rw [up_ne (by omega)]; exact g12) (Zr_le hz (by omega)) ?_
  refine wp_putr (by omega) rfl ?_
  refine wp_seal g0 ?_
  have hS : IsPs (cS G (k + 13)) k := ⟨(cS_lt (by omega)).trans g0, (cS_lt (by omega)).trans g1, (cS_lt (by omega)).trans g2, (cS_lt (by omega)).trans g3, (cS_lt (by omega)).trans g4, (cS_lt (by omega)).trans g5, (cS_lt (by omega)).trans g6, (cS_lt (by omega)).trans g7, (cS_lt (by omega)).trans g8, (cS_lt (by omega)).trans g9, (cS_lt (by omega)).trans g10, (cS_lt (by omega)).trans g11, (cS_lt (by omega)).trans g12⟩
  rw [wp_aload]
  show WP 4 199 _ _ [.ref k] (k + 13, ns + 7 + 6 + 6 + 12 + 20 + 20 + 10 + 5 + 404 + 404 + 4 + 4, cS G (k + 13), I, J) _
  rw [wp_call, nf_200]
  refine ⟨by show 1 ≤ 1; omega, ?_, by show 0 ≤ 8; omega, ?_⟩
  · show (match cS G (k + 13) k with | .inl (ci, _) => decide (ci = 3) | _ => false) = true
    rw [hS.1]
    rfl
  · refine k_gpclear hp hS (by omega) (fun Y' y1 y2 => ?_)
    show WP 4 199 _ _ [] _ _
    rw [wp_vret]
    exact hK Y' y1 y2
theorem wp_rowst {a1 a2 a3 a4 : Nat} {b1 b2 b3 b4 : Int} (hd : 1 ≤ d) (hk : k < 900000) (hq : q < k) (hr : r < k) (hqr : ¬ q = r) (hG : G q = .inl (c, ks)) (hj : ks[j]? = some (some (some r))) (hi : i < N) (hN : N < 1000) (h0 : G k = mm_obj 7 [none, none, none, none, some (some (k + 1)), some (some (k + 1 + 1)), some (some (k + 1 + 1 + 1)), some (some (k + 1 + 1 + 1 + 1)), some (some (k + 1 + 1 + 1 + 1 + 1))]) (h1 : G (k + 1) = mm_arr 0 6) (h2 : G (k + 1 + 1) = mm_arr 0 6) (h3 : G (k + 1 + 1 + 1) = mm_arr 0 20) (h4 : G (k + 1 + 1 + 1 + 1) = mm_arr 0 10) (h5 : G (k + 1 + 1 + 1 + 1 + 1) = mm_arr 0 10) (hz : Zr I J k) (h : WP d y is [some (.ref q), some (.int (nI i))] [] (k + 6, ns + 61, cS (mm_up G r (mm_rows N (va_up f i (some k)))) (k + 6), I, J) Q) : WP d y ((2, 0, 0, 0) :: (23, c, j, x) :: (0, 1, 0, 0) :: (36, 7, a1, b1) :: (11, 0, 0, 0) :: (70, 251, a2, b2) :: (34, a3, a4, b3) :: is) [some (.ref q), some (.int (nI i))] [] (k, ns, cS (mm_up G r (mm_rows N f)) k, I, J) Q := by
  rw [wp_aload]
  show WP d y _ _ [.ref q] _ _
  rw [wp_23]
  have e : ms_23 c j x [some (.ref q), some (.int (nI i))] [.ref q] (k, ns, cS (mm_up G r (mm_rows N f)) k, I, J) = some ([some (.ref q), some (.int (nI i))], [.ref r], k, ns, cS (mm_up G r (mm_rows N f)) k, I, J) := by
    unfold ms_23
    simp only [cS_lt hq, up_ne hqr, hG, hj, if_true]
  rw [e]
  show WP d y _ _ [.ref r] _ _
  rw [wp_iload]
  show WP d y _ _ [.int (nI i), .ref r] _ _
  refine wp_no (ks2 := [none, none, none, none, some none, some none, some none, some none, some none]) rfl (by omega) hz ?_
  rw [wp_dup_ref, wp_call, nf_251]
  refine ⟨by show 1 ≤ 4; omega, rfl, by show 3 ≤ 8; omega, ?_⟩
  refine k_iState hd hk (by rw [up_ne (by omega)]; exact h0) (by rw [up_ne (by omega)]; exact h1) (by rw [up_ne (by omega)]; exact h2) (by rw [up_ne (by omega)]; exact h3) (by rw [up_ne (by omega)]; exact h4) (by rw [up_ne (by omega)]; exact h5) hz ?_
  show WP d y _ _ [.ref k, .int (nI i), .ref r] (k + 6, ns + 61, cS (mm_up G r (mm_rows N f)) (k + 6), I, J) _
  rw [wp_34]
  have e2 : ms_34 a3 a4 b3 [some (.ref q), some (.int (nI i))] [.ref k, .int (nI i), .ref r] (k + 6, ns + 61, cS (mm_up G r (mm_rows N f)) (k + 6), I, J) = some ([some (.ref q), some (.int (nI i))], [], k + 6, ns + 61, cS (mm_up G r (mm_rows N (va_up f i (some k)))) (k + 6), I, J) := by
    have u1 : cS (mm_up G r (mm_rows N f)) (k + 6) r = mm_rows N f := by rw [cS_lt (by omega), up_at rfl]
    have u2 : cS (mm_up G r (mm_rows N f)) (k + 6) k = G k := by rw [cS_lt (by omega), up_ne (by omega)]
    have u3 : mm_in (nI i) N = true := by
      rw [mm_in_iff, mm_vpd, nI_clamp (by omega)]
      exact fun hc => hc.elim (nI_nn (by omega)) (fun hc => by omega)
    unfold ms_34
    simp only [u1, u2, h0, u3, nI_clamp (show i < 2 ^ 31 by omega), and_self, if_true]
    rw [cS_put (by omega), mm_up_up]
  rw [e2]
  exact h
end Sc
