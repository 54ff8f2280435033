/-! ===== A run has one end ===== -/
theorem mm_run_det {C : mm_Cs} (hC : ∀ y as u v w v' w', C y as u v w → C y as u v' w' → v = v' ∧ w = w') {Nf : mm_Nf} {B : Nat → List mm_I} : ∀ (n n' : Nat) (is : List mm_I) (L : mm_L) (st : List Value) (u : mm_M) (v v' : Option Value) (w w' : mm_M), mm_run C Nf B n is L st u v w → mm_run C Nf B n' is L st u v' w' → v = v' ∧ w = w' := by
  intro n
  induction n with
  | zero => intro n' is L st u v v' w w' h; cases is <;> exact h.elim
  | succ n ih =>
    intro n' is L st u v v' w w' h h'
    cases n' with
    | zero => cases is <;> exact h'.elim
    | succ n' =>
      cases is with
      | nil => exact h.elim
      | cons i is =>
        unfold mm_run at h h'
        split at h
        · rename_i hi
          rw [if_pos hi] at h'
          cases hr : mm_stp i L st u with
          | none => rw [hr] at h; exact h.elim
          | some r =>
            rw [hr] at h h'
            exact ih _ _ _ _ _ _ _ _ _ h h'
        · rename_i hi
          rw [if_neg hi] at h'
          split at h
          · rename_i hi2
            rw [if_pos hi2] at h'
            cases hr : mm_jmp i st with
            | none => rw [hr] at h; exact h.elim
            | some r =>
              rw [hr] at h h'
              exact ih _ _ _ _ _ _ _ _ _ h h'
          · rename_i hi2
            rw [if_neg hi2] at h'
            split at h
            · rename_i hi3
              rw [if_pos hi3] at h'
              obtain ⟨-, -, -, v1, u1, g4, g5⟩ := h
              obtain ⟨-, -, -, v2, u2, f4, f5⟩ := h'
              obtain ⟨rfl, rfl⟩ := hC _ _ _ _ _ _ _ g4 f4
              exact ih _ _ _ _ _ _ _ _ _ g5 f5
            · rename_i hi3
              rw [if_neg hi3] at h'
              split at h
              · rename_i hi4
                rw [if_pos hi4] at h'
                split at h
                · obtain ⟨rfl, rfl⟩ := h
                  obtain ⟨rfl, rfl⟩ := h'
                  exact ⟨rfl, rfl⟩
                · exact h.elim
              · rename_i hi4
                rw [if_neg hi4] at h'
                split at h
                · rename_i hi5
                  rw [if_pos hi5] at h'
                  split at h
                  · obtain ⟨-, rfl, rfl⟩ := h
                    obtain ⟨-, rfl, rfl⟩ := h'
                    exact ⟨rfl, rfl⟩
                  · exact h.elim
                · rename_i hi5
                  rw [if_neg hi5] at h'
                  split at h
                  · rename_i hi6
                    rw [if_pos hi6] at h'
                    split at h
                    · obtain ⟨rfl, rfl⟩ := h
                      obtain ⟨rfl, rfl⟩ := h'
                      exact ⟨rfl, rfl⟩
                    · exact h.elim
                  · rename_i hi6
                    rw [if_neg hi6] at h'
                    obtain ⟨-, -, rfl, rfl⟩ := h
                    obtain ⟨-, -, rfl, rfl⟩ := h'
                    exact ⟨rfl, rfl⟩
theorem mm_E_det : ∀ (d y : Nat) (as : List Value) (u : mm_M) (v : Option Value) (w : mm_M) (v' : Option Value) (w' : mm_M), mm_E d y as u v w → mm_E d y as u v' w' → v = v' ∧ w = w' := by
  intro d
  induction d with
  | zero => intro y as u v w v' w' h; exact h.elim
  | succ d ih =>
    intro y as u v w v' w' h h'
    obtain ⟨-, n, h⟩ := h
    obtain ⟨-, n', h'⟩ := h'
    exact mm_run_det ih n n' _ _ _ _ _ _ _ _ h h'
/-- a method's contract: its answer, the memory then -/
def RT (d y : Nat) (as : List Value) (u : mm_M) (v : Option Value) (w : mm_M) : Prop := EV d y as u (fun a b => a = v ∧ b = w)
theorem RT.ev {d d' y : Nat} {as : List Value} {u w : mm_M} {v : Option Value} (h : RT d y as u v w) (hd : d ≤ d') {Q : Option Value → mm_M → Prop} : EV d' y as u Q ↔ Q v w := by
  have h1 := EV_up hd h
  obtain ⟨a, b, g1, rfl, rfl⟩ := h1
  constructor
  · rintro ⟨a', b', g2, g3⟩
    obtain ⟨rfl, rfl⟩ := mm_E_det _ _ _ _ _ _ _ _ g1 g2
    exact g3
  · intro hq
    exact ⟨_, _, g1, hq⟩
theorem one_two : ((1 : Nat) = 2) = False := by simp
