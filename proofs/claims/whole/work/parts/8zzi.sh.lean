/-! ===== A cell keeps its class ===== -/
def mm_cl (u : mm_M) (q c : Nat) : Prop := q < u.1 ∧ ∃ ks, u.2.2.1 q = .inl (c, ks)
theorem cl_up {sh : Nat → mm_Sh} {a q ci c : Nat} {ks ks0 ks2 : List (Option (Option Nat))} (ha : sh a = .inl (ci, ks)) (h : sh q = .inl (c, ks0)) : ∃ k3, mm_up sh a (.inl (ci, ks2)) q = .inl (c, k3) := by
  by_cases e : q = a
  · subst e
    rw [ha] at h
    cases h
    exact ⟨ks2, up_at rfl⟩
  · exact ⟨ks0, by rw [up_ne e]; exact h⟩
theorem cl_rw {sh : Nat → mm_Sh} {a q c : Nat} {ks0 : List (Option (Option Nat))} {r : (Nat × Nat) ⊕ (Nat × (Nat → Option Nat))} {o : mm_Sh} (ha : sh a = .inr r) (h : sh q = .inl (c, ks0)) : ∃ k3, mm_up sh a o q = .inl (c, k3) := by
  have e : ¬ q = a := fun e => by subst e; rw [ha] at h; cases h
  exact ⟨ks0, by rw [up_ne e]; exact h⟩
theorem cl_fr {sh : Nat → mm_Sh} {a q c : Nat} {ks0 : List (Option (Option Nat))} {o : mm_Sh} (ha : q < a) (h : sh q = .inl (c, ks0)) : ∃ k3, mm_up sh a o q = .inl (c, k3) := ⟨ks0, by rw [up_ne (by omega)]; exact h⟩
set_option maxHeartbeats 1000000 in
theorem ms_cls {q cc : Nat} {i : mm_I} {L L' : mm_L} {st st' : List Value} {u u' : mm_M} (hs : mm_stp i L st u = some (L', st', u')) (h : mm_cl u q cc) : mm_cl u' q cc := by
  obtain ⟨op, x1, x2, x3⟩ := i
  obtain ⟨h1, ks0, h2⟩ := h
  unfold mm_stp at hs
  dsimp only at hs
  split at hs
  all_goals first | unfold ms_0 at hs | unfold ms_1 at hs | unfold ms_2 at hs | unfold ms_3 at hs | unfold ms_4 at hs | unfold ms_5 at hs | unfold ms_6 at hs | unfold ms_7 at hs | unfold ms_8 at hs | unfold ms_9 at hs | unfold ms_10 at hs | unfold ms_11 at hs | unfold ms_12 at hs | unfold ms_13 at hs | unfold ms_14 at hs | unfold ms_15 at hs | unfold ms_16 at hs | unfold ms_17 at hs | unfold ms_18 at hs | unfold ms_19 at hs | unfold ms_20 at hs | unfold ms_21 at hs | unfold ms_22 at hs | unfold ms_23 at hs | unfold ms_24 at hs | unfold ms_25 at hs | unfold ms_26 at hs | unfold ms_27 at hs | unfold ms_28 at hs | unfold ms_29 at hs | unfold ms_30 at hs | unfold ms_31 at hs | unfold ms_32 at hs | unfold ms_33 at hs | unfold ms_34 at hs | unfold ms_35 at hs | unfold ms_36 at hs | unfold ms_37 at hs | unfold ms_38 at hs | unfold ms_39 at hs | unfold ms_40 at hs | unfold ms_41 at hs | unfold ms_42 at hs | unfold ms_43 at hs | unfold ms_44 at hs | skip
  all_goals repeat' split at hs
  all_goals first | (cases hs; done) | (cases hs; exact ⟨h1, ks0, h2⟩) | (cases hs; exact ⟨h1, cl_up (by assumption) h2⟩) | (cases hs; exact ⟨h1, cl_rw (by assumption) h2⟩) | (cases hs; exact ⟨Nat.lt_succ_of_lt h1, cl_fr h1 h2⟩)
def mm_Cls (C : mm_Cs) : Prop := ∀ y as u v w q c, C y as u v w → mm_cl u q c → mm_cl w q c
theorem mm_run_cls {C : mm_Cs} {Nf : mm_Nf} {B : Nat → List mm_I} (hC : mm_Cls C) {q c : Nat} : ∀ (n : Nat) (is : List mm_I) (L : mm_L) (st : List Value) (u : mm_M) (v : Option Value) (w : mm_M), mm_run C Nf B n is L st u v w → mm_cl u q c → mm_cl w q c := by
  intro n
  induction n with
  | zero => intro is L st u v w h; cases is <;> exact h.elim
  | succ n ih =>
    intro is L st u v w h hc
    cases is with
    | nil => exact h.elim
    | cons i is =>
      unfold mm_run at h
      split at h
      · split at h
        · rename_i r hr
          obtain ⟨L2, st2, u2⟩ := r
          exact ih _ _ _ _ _ _ h (ms_cls hr hc)
        · exact h.elim
      · split at h
        · split at h
          · exact ih _ _ _ _ _ _ h hc
          · exact h.elim
        · split at h
          · obtain ⟨-, -, -, v1, u1, h1, h2⟩ := h
            exact ih _ _ _ _ _ _ h2 (hC _ _ _ _ _ _ _ h1 hc)
          · split at h
            · split at h
              · obtain ⟨-, rfl⟩ := h; exact hc
              · exact h.elim
            · split at h
              · split at h
                · obtain ⟨-, -, rfl⟩ := h; exact hc
                · exact h.elim
              · split at h
                · split at h
                  · obtain ⟨-, rfl⟩ := h; exact hc
                  · exact h.elim
                · obtain ⟨-, -, -, rfl⟩ := h; exact hc
theorem mm_ev_cls (Nf : mm_Nf) (Cd : Nat → Nat → List mm_I) (Ml : Nat → Nat) : ∀ d, mm_Cls (mm_ev Nf Cd Ml d) := by
  intro d
  induction d with
  | zero => intro y as u v w q c h; exact h.elim
  | succ d ih =>
    intro y as u v w q c h hc
    obtain ⟨-, n, h⟩ := h
    exact mm_run_cls ih n _ _ _ _ _ _ h hc
