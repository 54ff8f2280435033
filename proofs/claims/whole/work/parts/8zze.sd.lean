/-! ===== The class's constructor: rows of States ===== -/
def rfH (b i : Nat) : Nat → Option Nat := fun j => if j < i then some (b + 6 * j) else none
def StS (G : Nat → mm_Sh) (k : Nat) : Prop := G k = mm_obj 7 [none, none, none, none, some (some (k + 1)), some (some (k + 1 + 1)), some (some (k + 1 + 1 + 1)), some (some (k + 1 + 1 + 1 + 1)), some (some (k + 1 + 1 + 1 + 1 + 1))] ∧ G (k + 1) = mm_arr 0 6 ∧ G (k + 1 + 1) = mm_arr 0 6 ∧ G (k + 1 + 1 + 1) = mm_arr 0 20 ∧ G (k + 1 + 1 + 1 + 1) = mm_arr 0 10 ∧ G (k + 1 + 1 + 1 + 1 + 1) = mm_arr 0 10
theorem rfH_s {b i : Nat} : va_up (rfH b i) i (some (b + 6 * i)) = rfH b (i + 1) := by
  funext j
  simp only [va_up, rfH]
  by_cases e : j = i
  · subst e; rw [if_pos rfl, if_pos (by omega)]
  · rw [if_neg e]
    by_cases l : j < i
    · rw [if_pos l, if_pos (by omega)]
    · rw [if_neg l, if_neg (by omega)]
theorem rfH_0 {b : Nat} : rfH b 0 = fun _ => none := by
  funext j
  exact if_neg (by omega)
section Sd
variable {G G0 : Nat → mm_Sh} {S : Nat → mm_Sh} {I : Nat → Nat → Int32} {J : Nat → Nat → Int64} {k k2 ns q r i N c j d y n b0 : Nat} {ks : List (Option (Option Nat))} {f : Nat → Option Nat} {L : mm_L} {is : List mm_I} {st : List Value} {Q : Option Value → mm_M → Prop} {x x2 : Int}
theorem wp_nr {a1 a2 : Nat} {a3 : Int} (hk : k < 999999) (hn : n < 100000) (h : WP d y is L (.ref k :: st) (k + 1, ns + n, cS (mm_up G k (mm_rows n (fun _ => none))) (k + 1), I, J) Q) : WP d y ((38, a1, a2, a3) :: is) L (.int (nI n) :: st) (k, ns, cS G k, I, J) Q := by
  rw [wp_38]
  have e : (nI n).toNatClampNeg = n := nI_clamp (by omega)
  have e2 : ms_38 a1 a2 a3 L (.int (nI n) :: st) (k, ns, cS G k, I, J) = some (L, .ref k :: st, k + 1, ns + n, cS (mm_up G k (mm_rows n (fun _ => none))) (k + 1), I, J) := by
    unfold ms_38
    simp only [e]
    rw [if_pos ⟨by omega, nI_nn (by omega), hn⟩, cS_new]
  rw [e2]
  exact h
theorem k_rows {a1 a2 : Nat} {b1 b2 : Int} (B1 : mm_Cd y 1 = [(0, 1, 0, 0), (7, 0, 0, x2), (63, 3, 2, 0)]) (hx : Int32.ofInt x2 = nI N) (B2 : mm_Cd y 2 = (2, 0, 0, 0) :: (23, c, j, x) :: (0, 1, 0, 0) :: (36, 7, a1, b1) :: (11, 0, 0, 0) :: (70, 251, a2, b2) :: (34, 0, 0, 0) :: [(6, 1, 0, 1), (50, 1, 0, 0)]) (hd : 1 ≤ d) (hb : b0 + 6 * N < 900000) (hq : q < b0) (hr : r < b0) (hqr : ¬ q = r) (hG : G q = .inl (c, ks)) (hj : ks[j]? = some (some (some r))) (hN : N < 1000) (hSt : ∀ i, i < N → StS G (b0 + 6 * i)) (hz : Zr I J b0) (hK : WP d y (mm_Cd y 3) [some (.ref q), some (.int (nI N))] [] (b0 + 6 * N, ns + 61 * N, cS (mm_up G r (mm_rows N (rfH b0 N))) (b0 + 6 * N), I, J) Q) : ∀ i, i ≤ N → WP d y (mm_Cd y 1) [some (.ref q), some (.int (nI i))] [] (b0 + 6 * i, ns + 61 * i, cS (mm_up G r (mm_rows N (rfH b0 i))) (b0 + 6 * i), I, J) Q := by
  refine down_ind (W := fun i => WP d y (mm_Cd y 1) [some (.ref q), some (.int (nI i))] [] (b0 + 6 * i, ns + 61 * i, cS (mm_up G r (mm_rows N (rfH b0 i))) (b0 + 6 * i), I, J) Q) N ?_ ?_
  · rw [B1, wp_iload]
    show WP d y _ _ [.int (nI N)] _ _
    rw [wp_iconst, hx, wp_icmp3, if_pos (Int32.le_refl _)]
    exact hK
  · intro i hi ih
    rw [B1, wp_iload]
    show WP d y _ _ [.int (nI i)] _ _
    rw [wp_iconst, hx, wp_icmp3, if_neg (by rw [nI_leI (by omega) (by omega)]; omega), B2]
    obtain ⟨s0, s1, s2, s3, s4, s5⟩ := hSt i hi
    refine wp_rowst (b4 := 0) hd (by omega) (by omega) (by omega) hqr hG hj hi hN s0 s1 s2 s3 s4 s5 (Zr_le hz (by omega)) ?_
    rw [wp_iinc]
    show WP d y _ [some (.ref q), some (.int (nI i + nI 1))] _ _ _
    rw [wp_goto, rfH_s, nI_add, show b0 + 6 * i + 6 = b0 + 6 * (i + 1) by omega, show ns + 61 * i + 61 = ns + 61 * (i + 1) by omega]
    exact ih
theorem k_iHistory {dd : Nat} (hd : 2 ≤ dd) (hG : G 57 = mm_obj 0 [some (some 58), none, none]) (hR : G 58 = mm_rows 40 (rfH 59 40)) (hSt : ∀ i, i < 40 → StS G (59 + 6 * i)) (hz : Zr I J 57) (hK : Q none (299, ns + 40 + 2440, cS G 299, I, J)) : EV dd 181 [.ref 57] (57 + 1, ns, cS (mm_up G 57 (.inl (0, [some none, none, none]))) (57 + 1), I, J) Q := by
  refine EV_up hd ?_
  refine EV_of (show 1 ≤ 2 from by decide) ?_; show WP 1 181 (mm_Cd 181 0) [some (.ref 57), none] [] _ _
  rw [cd_181_0, kb_181_0]
  refine wp_oi ?_
  rw [wp_aload]
  show WP 1 181 _ _ [.ref 57] _ _
  rw [wp_iconst]
  show WP 1 181 _ _ [.int (nI 40), .ref 57] _ _
  refine wp_nr (n := 40) (by omega) (by omega) ?_
  rw [← mm_up_sw (f := G) (a := 57 + 1) (b := 57) (by decide)]
  refine wp_putr (by omega) rfl ?_
  refine wp_seal (by rw [up_ne (by decide)]; exact hG) ?_
  rw [wp_iconst, wp_istore]
  refine ⟨by show 1 < 2; omega, ?_⟩
  rw [wp_jmp]
  have t := k_rows (G := G) (I := I) (J := J) (Q := Q) (ns := ns + 40) (d := 1) (y := 181) (q := 57) (r := 58) (N := 40) (b0 := 59) (cd_181_1.trans rfl) rfl (cd_181_2.trans rfl) (by omega) (by omega) (by omega) (by omega) (by omega) hG rfl (by omega) hSt (Zr_le hz (by omega)) (by
    rw [cd_181_3, kb_181_3, wp_vret, mm_up_of hR]
    exact hK) 0 (by omega)
  rw [rfH_0] at t
  exact t
end Sd
