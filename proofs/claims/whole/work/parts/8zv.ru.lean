/-! ===== Pairs: what is done by hand, years ===== -/
section Ru
variable {w : Bool} {nx ns : Nat} {I X Y G : Nat → Nat → Int32} {J J' : Nat → Nat → Int64} {B B2 lv P H F U nxt T n hb : Nat} {L : Nat → Option (List PI × PC)} {tf tm tt te fl nl : Nat → Nat} {r : Nat → Int32}
theorem y4_68 {ho hi dn : Nat → Int32} (hH : H ≤ 10) : ∀ a, a ≤ 6 → m_y4 ho hi dn H r a 68 = r 68 := by
  intro a
  induction a with
  | zero => intro _; rfl
  | succ a ih =>
    intro ha
    simp only [m_y4]
    have h1 : m_y4a ho hi dn H (m_y4 ho hi dn H r a) a 68 = r 68 := by
      unfold m_y4a
      split
      · exact ih (by omega)
      · unfold m_leave
        rw [if_neg (show ¬ (18 ≤ 68 ∧ 68 < 18 + H) by omega), if_neg (show ¬ (28 ≤ 68 ∧ 68 < 28 + H) by omega), ite_self]
        exact ih (by omega)
    unfold m_y4b
    split
    · exact h1
    · rw [up_ne (by omega)]; exact h1
theorem y5_68 {gn fn : Nat → Int32} : ∀ e, e ≤ 10 → m_y5 gn fn r e 68 = r 68 := by
  intro e
  induction e with
  | zero => intro _; rfl
  | succ e ih =>
    intro he
    simp only [m_y5]
    unfold m_y5b m_y5a
    split
    · exact ih (by omega)
    · split
      · rw [up_ne (by omega), up_ne (by omega)]; exact ih (by omega)
      · rw [up_ne (by omega)]; exact ih (by omega)
theorem yr_68 (hP : P ≤ 6) (hH : H ≤ 10) : m_yr I tf tm tt te fl nl lv P H r 68 = r 68 + nI 1 := by
  unfold m_yr
  rw [up_at rfl, y5_68 H hH, y4_68 hH P hP]
  unfold m_y3
  rw [if_neg (by omega)]
theorem go_68 (hP : P ≤ 6) (hH : H ≤ 10) : ∀ n, m_go I tf tm tt te fl nl lv P H r n 68 = r 68 + nI n := by
  intro n
  induction n with
  | zero => show r 68 = r 68 + nI 0; simp [nI]
  | succ n ih =>
    show m_yr I tf tm tt te fl nl lv P H (m_go I tf tm tt te fl nl lv P H r n) 68 = _
    rw [yr_68 hP hH, ih, ← nI_add, Int32.add_assoc]
theorem m_th_ne {a e : Int32} (hH : H ≤ 10) (h : ¬ m_th r P H a e = nI 0) : ∃ i, i < H ∧ e = nI i := by
  unfold m_th at h
  have c1 : ¬ m_liv r P a = nI 0 := fun c => h (if_pos c)
  rw [if_neg c1] at h
  have c2 : ¬ m_ok e H = nI 0 := fun c => h (if_pos c)
  exact m_ok_ne (by omega) c2
theorem m_liv_ne {a : Int32} (hP : P ≤ 6) (h : ¬ m_liv r P a = nI 0) : ∃ i, i < P ∧ a = nI i ∧ r i = nI 1 := by
  unfold m_liv at h
  have c1 : ¬ m_ok a P = nI 0 := fun c => h (if_pos c)
  rw [if_neg c1] at h
  obtain ⟨i, hi, rfl⟩ := m_ok_ne (by omega) c1
  rw [nI_clamp (by omega)] at h
  exact ⟨i, hi, rfl, Classical.byContradiction fun c => h (if_neg c)⟩
theorem RI_58 {e : Nat} {x : Int32} (hP : P ≤ 6) (hH : H ≤ 10) (hR : RI P H r) (he : e < H) (hx : ∃ y, y < 2 ^ 31 ∧ x = nI y) : RI P H (mm_up r (58 + e) x) :=
  RI_up hP hH hR (by omega) (fun h => by omega) (fun z h1 h2 => by omega) (fun z h1 h2 => by omega) (fun z h1 h2 => by omega) (fun z h1 h2 => ⟨Or.inr hx, fun h => by omega⟩) (fun p h1 h2 => by omega)
theorem RI_12 {p q : Nat} (hP : P ≤ 6) (hH : H ≤ 10) (hR : RI P H r) (hq : q < P) : RI P H (mm_up r (12 + p) (nI q)) := by
  by_cases hp : 12 + p < 18
  · exact RI_up hP hH hR (by omega) (fun h => Or.inr ⟨q, by omega, rfl⟩) (fun z h1 h2 => by omega) (fun z h1 h2 => by omega) (fun z h1 h2 => by omega) (fun z h1 h2 => by omega) (fun p h1 h2 => Or.inr ⟨q, hq, rfl⟩)
  · sorry
end Ru
