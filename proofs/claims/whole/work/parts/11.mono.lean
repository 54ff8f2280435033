/-! ===== The room only grows ===== -/
set_option maxHeartbeats 1000000 in
theorem ms_mono {i : mm_I} {L L' : mm_L} {st st' : List Value} {u u' : mm_M} (hs : mm_stp i L st u = some (L', st', u')) : u.1 ≤ u'.1 ∧ u.2.1 ≤ u'.2.1 := by
  obtain ⟨op, x1, x2, x3⟩ := i
  unfold mm_stp at hs
  dsimp only at hs
  split at hs
  all_goals first | unfold ms_0 at hs | unfold ms_1 at hs | unfold ms_2 at hs | unfold ms_3 at hs | unfold ms_4 at hs | unfold ms_5 at hs | unfold ms_6 at hs | unfold ms_7 at hs | unfold ms_8 at hs | unfold ms_9 at hs | unfold ms_10 at hs | unfold ms_11 at hs | unfold ms_12 at hs | unfold ms_13 at hs | unfold ms_14 at hs | unfold ms_15 at hs | unfold ms_16 at hs | unfold ms_17 at hs | unfold ms_18 at hs | unfold ms_19 at hs | unfold ms_20 at hs | unfold ms_21 at hs | unfold ms_22 at hs | unfold ms_23 at hs | unfold ms_24 at hs | unfold ms_25 at hs | unfold ms_26 at hs | unfold ms_27 at hs | unfold ms_28 at hs | unfold ms_29 at hs | unfold ms_30 at hs | unfold ms_31 at hs | unfold ms_32 at hs | unfold ms_33 at hs | unfold ms_34 at hs | unfold ms_35 at hs | unfold ms_36 at hs | unfold ms_37 at hs | unfold ms_38 at hs | unfold ms_39 at hs | unfold ms_40 at hs | unfold ms_41 at hs | unfold ms_42 at hs | unfold ms_43 at hs | unfold ms_44 at hs | skip
  all_goals repeat' split at hs
  all_goals first | (cases hs; done) | (cases hs; exact ⟨Nat.le_refl _, Nat.le_refl _⟩) | (cases hs; exact ⟨Nat.le_succ _, Nat.le_add_right _ _⟩)
def mm_Mono (C : mm_Cs) : Prop := ∀ y as u v w, C y as u v w → u.1 ≤ w.1 ∧ u.2.1 ≤ w.2.1
theorem mm_run_mono {C : mm_Cs} {Nf : mm_Nf} {B : Nat → List mm_I} (hC : mm_Mono C) : ∀ (n : Nat) (is : List mm_I) (L : mm_L) (st : List Value) (u : mm_M) (v : Option Value) (w : mm_M), mm_run C Nf B n is L st u v w → u.1 ≤ w.1 ∧ u.2.1 ≤ w.2.1 := by
  intro n
  induction n with
  | zero => intro is L st u v w h; cases is <;> exact h.elim
  | succ n ih =>
    intro is L st u v w h
    cases is with
    | nil => exact h.elim
    | cons i is =>
      unfold mm_run at h
      split at h
      · split at h
        · rename_i r hr
          obtain ⟨L2, st2, u2⟩ := r
          have a := ms_mono hr
          have b := ih _ _ _ _ _ _ h
          exact ⟨Nat.le_trans a.1 b.1, Nat.le_trans a.2 b.2⟩
        · exact h.elim
      · split at h
        · split at h
          · exact ih _ _ _ _ _ _ h
          · exact h.elim
        · split at h
          · obtain ⟨-, -, -, v1, u1, h1, h2⟩ := h
            have a := hC _ _ _ _ _ h1
            have b := ih _ _ _ _ _ _ h2
            exact ⟨Nat.le_trans a.1 b.1, Nat.le_trans a.2 b.2⟩
          · split at h
            · split at h
              · obtain ⟨-, rfl⟩ := h; exact ⟨Nat.le_refl _, Nat.le_refl _⟩
              · exact h.elim
            · split at h
              · split at h
                · obtain ⟨-, -, rfl⟩ := h; exact ⟨Nat.le_refl _, Nat.le_refl _⟩
                · exact h.elim
              · split at h
                · split at h
                  · obtain ⟨-, rfl⟩ := h; exact ⟨Nat.le_refl _, Nat.le_refl _⟩
                  · exact h.elim
                · obtain ⟨-, -, -, rfl⟩ := h; exact ⟨Nat.le_refl _, Nat.le_refl _⟩
theorem mm_ev_mono (Nf : mm_Nf) (Cd : Nat → Nat → List mm_I) (Ml : Nat → Nat) : ∀ d, mm_Mono (mm_ev Nf Cd Ml d) := by
  intro d
  induction d with
  | zero => intro y as u v w h; exact h.elim
  | succ d ih =>
    intro y as u v w h
    obtain ⟨-, n, h⟩ := h
    exact mm_run_mono ih n _ _ _ _ _ _ h
/-- the first frame -/
theorem mm_fr_args {ad : Nat → Nat} : ∀ (as : List Value) (k : Nat) (pre : mm_L), pre.length = k → ∀ (j : Nat) (v : Value), (pre ++ mm_slots as)[j]? = some (some v) → k ≤ j → (j, mm_tr ad v) ∈ lv_args k (as.map (mm_tr ad)) := by
  intro as
  induction as with
  | nil =>
    intro k pre hk j v h hj
    rw [show mm_slots [] = [] from rfl, List.append_nil] at h
    have := (List.getElem?_eq_some_iff.mp h).1
    omega
  | cons a as ih =>
    intro k pre hk j v h hj
    have e : mm_slots (a :: as) = (if a.category = 2 then [some a, none] else [some a]) ++ mm_slots as := rfl
    rw [e] at h
    show _ ∈ (k, mm_tr ad a) :: lv_args _ _
    by_cases hjk : j = k
    · subst hjk
      have e2 : (pre ++ ((if a.category = 2 then [some a, none] else [some a]) ++ mm_slots as))[j]? = some (some a) := by
        rw [List.getElem?_append_right (by omega)]
        rw [show j - pre.length = 0 by omega]
        split <;> rfl
      rw [e2] at h
      cases h
      exact List.mem_cons_self
    · refine List.mem_cons_of_mem _ ?_
      rw [mm_tr_cat]
      rw [← List.append_assoc] at h
      by_cases hc : a.category = 2
      · rw [if_pos hc] at h ⊢
        by_cases hj1 : j = k + 1
        · subst hj1
          rw [List.getElem?_append_left (by simp; omega), List.getElem?_append_right (by omega)] at h
          rw [show k + 1 - pre.length = 1 by omega] at h
          cases h
        · exact ih (k + 2) (pre ++ [some a, none]) (by simp; omega) j v h (by omega)
      · rw [if_neg hc] at h ⊢
        exact ih (k + 1) (pre ++ [some a]) (by simp; omega) j v h (by omega)
theorem mm_slots_len (ad : Nat → Nat) (as : List Value) : (lg_sl (as.map (mm_tr ad))).length = (mm_slots as).length := by
  induction as with
  | nil => rfl
  | cons a as ih =>
    have e : mm_slots (a :: as) = (if a.category = 2 then [some a, none] else [some a]) ++ mm_slots as := rfl
    have e2 : lg_sl ((a :: as).map (mm_tr ad)) = (if (mm_tr ad a).category = 2 then [Slot.val (mm_tr ad a), Slot.second] else [Slot.val (mm_tr ad a)]) ++ lg_sl (as.map (mm_tr ad)) := rfl
    rw [e, e2, mm_tr_cat, List.length_append, List.length_append, ih]
    split <;> rfl
theorem mm_entry {ad : Nat → Nat} {as : List Value} {n : Nat} (h : (mm_slots as).length ≤ n) : mm_lv ad ((lg_sl (as.map (mm_tr ad)) ++ List.replicate (n - (lg_sl (as.map (mm_tr ad))).length) Slot.unset).toArray) n (mm_fr n as) := by
  have h0 := lv_entry (as.map (mm_tr ad)) (n := n) (by rw [mm_slots_len]; exact h)
  refine ⟨by unfold mm_fr; simp; omega, h0.1, h0.2.1, fun q hq => h0.2.2 q ?_⟩
  obtain ⟨v, h1, h2⟩ := mm_lvl_mem.mp hq
  obtain ⟨j, z⟩ := q
  dsimp only at h1 h2
  subst h2
  unfold mm_fr at h1
  by_cases hl : j < (mm_slots as).length
  · rw [List.getElem?_append_left hl] at h1
    exact mm_fr_args as 0 [] rfl j v (by simpa using h1) (Nat.zero_le _)
  · rw [List.getElem?_append_right (by omega)] at h1
    have := List.mem_of_getElem? h1
    rw [List.mem_replicate] at this
    cases this.2
