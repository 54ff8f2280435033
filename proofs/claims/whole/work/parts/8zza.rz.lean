/-! ===== Objects made: rules ===== -/
/-- cells below k are there -/
def cS (G : Nat → mm_Sh) (k : Nat) : Nat → mm_Sh := fun a => if a < k then G a else mm_arr 9 0
/-- nothing is written from k on -/
def Zr (I : Nat → Nat → Int32) (J : Nat → Nat → Int64) (k : Nat) : Prop := ∀ a, k ≤ a → I a = (fun _ => 0) ∧ J a = fun _ => 0
section Rz
variable {G G0 : Nat → mm_Sh} {I : Nat → Nat → Int32} {J : Nat → Nat → Int64} {k ns q a d y c j t n : Nat} {o : mm_Sh} {x x2 : Int} {ks ks2 : List (Option (Option Nat))} {L : mm_L} {is : List mm_I} {Q : Option Value → mm_M → Prop} {u : mm_M}
theorem cS_lt (h : a < k) : cS G k a = G a := if_pos h
theorem cS_new : mm_up (cS G k) k o = cS (mm_up G k o) (k + 1) := by
  funext a
  simp only [cS, mm_up_app]
  by_cases e : a = k
  · subst e; rw [if_pos rfl, if_pos rfl, if_pos (by omega)]
  · rw [if_neg e, if_neg e]
    by_cases l : a < k
    · rw [if_pos l, if_pos (by omega)]
    · rw [if_neg l, if_neg (by omega)]
theorem cS_arr (h : G k = o) : mm_up (cS G k) k o = cS G (k + 1) := by rw [cS_new, mm_up_of h]
theorem cS_put (h : q < k) : mm_up (cS G k) q o = cS (mm_up G q o) k := by
  funext a
  simp only [cS, mm_up_app]
  by_cases e : a = q
  · subst e; rw [if_pos rfl, if_pos rfl, if_pos h]
  · rw [if_neg e, if_neg e]
theorem Zr_up (h : Zr I J k) : mm_up I k (fun _ => 0) = I ∧ mm_up J k (fun _ => 0) = J := ⟨mm_up_of (h k (Nat.le_refl _)).1, mm_up_of (h k (Nat.le_refl _)).2⟩
theorem Zr_le {k2 : Nat} (h : Zr I J k) (hk : k ≤ k2) : Zr I J k2 := fun a ha => h a (by omega)
theorem nI_nn (h : n < 2 ^ 31) : ¬ nI n < 0 := by
  have e : (0 : Int32) = nI 0 := rfl
  rw [e, nI_ltI (by omega) (by omega)]
  omega
theorem wp_oi {a1 a2 : Nat} {a3 : Int} (h : WP d y is (some (.ref q) :: L) [] u Q) : WP d y ((2, 0, 0, 0) :: (39, a1, a2, a3) :: is) (some (.ref q) :: L) [] u Q := by
  rw [wp_aload]
  show WP d y _ _ [.ref q] _ _
  rw [wp_39]
  exact h
theorem wp_na (hk : k < 999999) (hn : n < 100000) (ht : t < 4) (hA : G k = mm_arr t n) (hz : Zr I J k) {st : List Value} (h : WP d y is L (.ref k :: st) (k + 1, ns + n, cS G (k + 1), I, J) Q) : WP d y ((37, t, 0, 0) :: is) L (.int (nI n) :: st) (k, ns, cS G k, I, J) Q := by
  rw [wp_37]
  have e : (nI n).toNatClampNeg = n := nI_clamp (by omega)
  have e2 : ms_37 t 0 0 L (.int (nI n) :: st) (k, ns, cS G k, I, J) = some (L, .ref k :: st, k + 1, ns + n, cS G (k + 1), I, J) := by
    unfold ms_37
    simp only [e]
    rw [if_pos ⟨by omega, nI_nn (by omega), hn, ht⟩, cS_arr hA, (Zr_up hz).1, (Zr_up hz).2]
  rw [e2]
  exact h
theorem wp_putr {r : Nat} {st : List Value} (hq : q < k) (hj : (ks[j]?.getD none).isSome = true) (h : WP d y is L st (k, ns, cS (mm_up G0 q (.inl (c, ks.set j (some (some r))))) k, I, J) Q) : WP d y ((26, c, j, x) :: is) L (.ref r :: .ref q :: st) (k, ns, cS (mm_up G0 q (.inl (c, ks))) k, I, J) Q := by
  rw [wp_26]
  have e : ms_26 c j x L (.ref r :: .ref q :: st) (k, ns, cS (mm_up G0 q (.inl (c, ks))) k, I, J) = some (L, st, k, ns, cS (mm_up G0 q (.inl (c, ks.set j (some (some r))))) k, I, J) := by
    unfold ms_26
    simp only [cS_lt hq, up_at]
    rw [if_pos ⟨trivial, hj⟩, cS_put hq, mm_up_up]
  rw [e]
  exact h
theorem wp_fld (hx : Int32.ofInt x2 = nI n) (hq : q < k) (hk : k < 999999) (hn : n < 100000) (ht : t < 4) (hj : (ks[j]?.getD none).isSome = true) (hA : G0 k = mm_arr t n) (hz : Zr I J k) (h : WP d y is (some (.ref q) :: L) [] (k + 1, ns + n, cS (mm_up G0 q (.inl (c, ks.set j (some (some k))))) (k + 1), I, J) Q) : WP d y ((2, 0, 0, 0) :: (7, 0, 0, x2) :: (37, t, 0, 0) :: (26, c, j, x) :: is) (some (.ref q) :: L) [] (k, ns, cS (mm_up G0 q (.inl (c, ks))) k, I, J) Q := by
  rw [wp_aload]
  show WP d y _ _ [.ref q] _ _
  rw [wp_iconst, hx]
  refine wp_na hk hn ht (by rw [up_ne (by omega)]; exact hA) hz ?_
  exact wp_putr (by omega) hj h
theorem wp_no {a2 : Nat} {a3 : Int} {st : List Value} (hks : mm_new t = some ks2) (hk : k < 999999) (hz : Zr I J k) (h : WP d y is L (.ref k :: st) (k + 1, ns + ks2.length, cS (mm_up G k (.inl (t, ks2))) (k + 1), I, J) Q) : WP d y ((36, t, a2, a3) :: is) L st (k, ns, cS G k, I, J) Q := by
  rw [wp_36]
  have e : ms_36 t a2 a3 L st (k, ns, cS G k, I, J) = some (L, .ref k :: st, k + 1, ns + ks2.length, cS (mm_up G k (.inl (t, ks2))) (k + 1), I, J) := by
    unfold ms_36
    simp only [hks]
    rw [if_pos (by omega), cS_new, (Zr_up hz).1]
  rw [e]
  exact h
theorem wp_sub {y2 a2 a4 rc : Nat} {a3 a5 : Int} (hks : mm_new t = some ks2) (hnf : mm_nf y2 = (1, 2, rc)) (hk : k < 999999) (hz : Zr I J k) (h : EV d y2 [.ref k] (k + 1, ns + ks2.length, cS (mm_up G k (.inl (t, ks2))) (k + 1), I, J) (fun v w => WP d y is (some (.ref q) :: L) (v.toList ++ [.ref k, .ref q]) w Q)) : WP d y ((2, 0, 0, 0) :: (36, t, a2, a3) :: (11, 0, 0, 0) :: (70, y2, a4, a5) :: is) (some (.ref q) :: L) [] (k, ns, cS G k, I, J) Q := by
  rw [wp_aload]
  show WP d y _ _ [.ref q] _ _
  refine wp_no hks hk hz ?_
  rw [wp_dup_ref, wp_call, hnf]
  exact ⟨by show 1 ≤ 3; omega, rfl, by show 2 ≤ 8; omega, h⟩
end Rz
