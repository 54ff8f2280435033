/-! ===== A year's rows, put shortly ===== -/
theorem m_wi_nI {x : Int32} {m : Nat} (hm : m < 2 ^ 31) : ∃ h, h ≤ m ∧ m_wi x (nI 0) (nI m) = nI h := by
  unfold m_wi
  split
  · rename_i h
    split
    · rename_i h2
      obtain ⟨j, hj, rfl⟩ := nI_of (Int32.not_lt.mpr h)
      exact ⟨j, (nI_leI hj hm).mp h2, rfl⟩
    · exact ⟨m, Nat.le_refl _, rfl⟩
  · exact ⟨0, Nat.zero_le _, rfl⟩
theorem min_wi {a m : Nat} (ha : a < 2 ^ 31) (hm : m < 2 ^ 31) : (if nI a < nI m then nI a else nI m) = m_wi (nI a) (nI 0) (nI m) := by
  unfold m_wi
  rw [if_pos ((nI_leI (by omega) ha).mpr (Nat.zero_le _))]
  by_cases h : a < m
  · rw [if_pos ((nI_ltI ha hm).mpr h), if_pos ((nI_leI ha hm).mpr (by omega))]
  · rw [if_neg (fun q => h ((nI_ltI ha hm).mp q))]
    by_cases h2 : a ≤ m
    · rw [if_pos ((nI_leI ha hm).mpr h2), show a = m by omega]
    · rw [if_neg (fun q => h2 ((nI_leI ha hm).mp q))]
/-- whose a face is, once those who die have left -/
def fl4 (hr dn r3 : Nat → Int32) (n : Nat) (x : Int32) : Int32 := if x < nI 0 then x else if x.toNatClampNeg < n ∧ ¬ dn x.toNatClampNeg = nI 0 then m_lt r3 x (hr x.toNatClampNeg) else x
theorem fl4_0 {hr dn r3 : Nat → Int32} {x : Int32} : fl4 hr dn r3 0 x = x := by
  unfold fl4
  split
  · rfl
  · rw [if_neg (by omega)]
/-- phase 4, put shortly -/
def r4f (ho hi dn r3 : Nat → Int32) (H n : Nat) : Nat → Int32 := fun k => if 18 ≤ k ∧ k < 18 + H then fl4 ho dn r3 n (r3 k) else if 28 ≤ k ∧ k < 28 + H then fl4 hi dn r3 n (r3 k) else if (6 ≤ k ∧ k < 6 + n) ∧ ¬ m_al r3 (nI (k - 6)) = nI 0 then m_wi (r3 k + nI 1) (nI 0) (nI 199) else r3 k
theorem m_al_lo {r q : Nat → Int32} {x : Int32} (h : ∀ k, k < 6 → q k = r k) (hx : PV x) : m_al q x = m_al r x := by
  unfold m_al
  rcases hx with rfl | ⟨a, ha, rfl⟩
  · rw [if_pos (nM2_lt (by omega)), if_pos (nM2_lt (by omega))]
  · rw [nI_clamp (by omega), h a ha]
theorem m_lt_lo {r q : Nat → Int32} {x : Int32} {a : Nat} (h : ∀ k, k < 6 → q k = r k) (hx : PV x) (ha : a < 6) (hs : q (12 + a) = r (12 + a)) (hp : PV (r (12 + a))) : m_lt q (nI a) x = m_lt r (nI a) x := by
  unfold m_lt m_sp
  rw [m_al_lo h hx, nI_add, nI_clamp (by omega), hs, m_al_lo h hp]
theorem m_al_dead {r : Nat → Int32} {a : Nat} (ha : a < 6) (h : r a = nI 0) : m_al r (nI a) = nI 0 := by
  unfold m_al
  rw [if_neg (by rw [nI_ltI (by omega) (by omega)]; omega), nI_clamp (by omega), h, if_neg (by rw [bt_zero1]; exact id)]
/-- who comes next is alive, or nobody -/
theorem m_lt_al {r : Nat → Int32} {x : Int32} {a P : Nat} (hA : ∀ p, p < 6 → r p = nI 0 ∨ r p = nI 1) (hZ : ∀ p, P ≤ p → p < 6 → r p = nI 0) (hx : PV x) (ha : a < 6) (hp : PV (r (12 + a))) : m_lt r (nI a) x = nM2 ∨ ∃ b, b < P ∧ m_lt r (nI a) x = nI b ∧ r b = nI 1 := by
  have hal : ∀ y, PV y → ¬ m_al r y = nI 0 → ∃ b, b < P ∧ y = nI b ∧ r b = nI 1 := by
    intro y hy hn
    rcases hy with rfl | ⟨b, hb, rfl⟩
    · exact absurd (by unfold m_al; rw [if_pos (nM2_lt (by omega))]) hn
    · rcases hA b hb with h0 | h1
      · exact absurd (m_al_dead hb h0) hn
      · by_cases hbP : b < P
        · exact ⟨b, hbP, rfl, h1⟩
        · have := hZ b (by omega) hb
          rw [h1] at this
          exact absurd this (by rw [bt_one0]; exact id)
  unfold m_lt m_sp
  rw [nI_add, nI_clamp (by omega)]
  by_cases c1 : m_al r x = nI 0
  · rw [if_pos c1]
    by_cases c2 : m_al r (r (12 + a)) = nI 0
    · rw [if_pos c2]; exact Or.inl rfl
    · rw [if_neg c2]; exact Or.inr (hal _ hp c2)
  · rw [if_neg c1]; exact Or.inr (hal _ hx c1)
theorem fl4_s {hr dn r3 : Nat → Int32} {n : Nat} {x : Int32} (hx : PV x) (hA : ∀ p, p < 6 → r3 p = nI 0 ∨ r3 p = nI 1) (hh : ∀ p, p < 6 → PV (hr p)) (hp : ∀ p, p < 6 → PV (r3 (12 + p))) (hd : ¬ dn n = nI 0 → r3 n = nI 0) (hn : n < 6) : fl4 hr dn r3 (n + 1) x = if dn n = nI 0 then fl4 hr dn r3 n x else if fl4 hr dn r3 n x = nI n then m_lt r3 (nI n) (hr n) else fl4 hr dn r3 n x := by
  rcases hx with rfl | ⟨a, ha, rfl⟩
  · unfold fl4
    rw [if_pos (nM2_lt (by omega)), if_pos (nM2_lt (by omega)), if_neg (show ¬ nM2 = nI n by rw [nM2_nI (by omega)]; exact id)]
    split <;> rfl
  · have e0 : ¬ nI a < nI 0 := by rw [nI_ltI (by omega) (by omega)]; omega
    unfold fl4
    rw [if_neg e0, if_neg e0, nI_clamp (by omega)]
    by_cases c1 : dn n = nI 0
    · rw [if_pos c1]
      by_cases c2 : a < n
      · by_cases c3 : dn a = nI 0
        · rw [if_neg (fun h => h.2 c3), if_neg (fun h => h.2 c3)]
        · rw [if_pos ⟨by omega, c3⟩, if_pos ⟨c2, c3⟩]
      · rw [if_neg (show ¬ (a < n ∧ ¬ dn a = nI 0) from fun h => c2 h.1)]
        by_cases c4 : a = n
        · subst c4; rw [if_neg (fun h => h.2 c1)]
        · rw [if_neg (by omega)]
    · rw [if_neg c1]
      have dead := hd c1
      by_cases c2 : a < n ∧ ¬ dn a = nI 0
      · rw [if_pos ⟨by omega, c2.2⟩, if_pos c2]
        rcases m_lt_al (P := 6) hA (fun p h1 h2 => by omega) (hh a ha) ha (hp a ha) with h | ⟨b, hb, h, hb1⟩
        · rw [h, if_neg (by rw [nM2_nI (by omega)]; exact id)]
        · rw [h, if_neg]
          intro he
          have : b = n := (nI_eq (by omega) (by omega)).mp he
          subst this
          rw [dead] at hb1
          exact absurd hb1 (by rw [bt_zero1]; exact id)
      · rw [if_neg c2]
        by_cases c4 : a = n
        · subst c4; rw [if_pos ⟨by omega, c1⟩, if_pos rfl]
        · rw [if_neg (fun h => by rcases h with ⟨h1, h2⟩; exact c2 ⟨by omega, h2⟩), if_neg (by rw [nI_eq (by omega) (by omega)]; exact c4)]
theorem m_y4_f {ho hi dn r3 : Nat → Int32} {H : Nat} (hH : H ≤ 10) (hB : PB r3) (hA : ∀ p, p < 6 → r3 p = nI 0 ∨ r3 p = nI 1) (hh : ∀ p, p < 6 → PV (ho p) ∧ PV (hi p)) : ∀ n, n ≤ 6 → (∀ p, p < n → ¬ dn p = nI 0 → r3 p = nI 0) → m_y4 ho hi dn H r3 n = r4f ho hi dn r3 H n := by
  intro n
  induction n with
  | zero =>
    intro _ _
    funext k
    unfold r4f
    rw [fl4_0, fl4_0]
    show r3 k = _
    split
    · rfl
    · split
      · rfl
      · rw [if_neg (by omega)]
  | succ n ih =>
    intro hn hd
    have e := ih (by omega) (fun p hp => hd p (by omega))
    have lo : ∀ k, k < 6 → r4f ho hi dn r3 H n k = r3 k := fun k hk => by unfold r4f; rw [if_neg (by omega), if_neg (by omega), if_neg (by omega)]
    have sp : r4f ho hi dn r3 H n (12 + n) = r3 (12 + n) := by unfold r4f; rw [if_neg (by omega), if_neg (by omega), if_neg (by omega)]
    have hsp : ∀ p, p < 6 → PV (r3 (12 + p)) := fun p hp => hB _ (by omega) (by omega)
    show m_y4b (m_y4a ho hi dn H (m_y4 ho hi dn H r3 n) n) n = _
    rw [e]
    have ea : m_y4a ho hi dn H (r4f ho hi dn r3 H n) n = fun k => if 18 ≤ k ∧ k < 18 + H then fl4 ho dn r3 (n + 1) (r3 k) else if 28 ≤ k ∧ k < 28 + H then fl4 hi dn r3 (n + 1) (r3 k) else r4f ho hi dn r3 H n k := by
      funext k
      unfold m_y4a
      have l1 := m_lt_lo (x := ho n) lo (hh n (by omega)).1 (show n < 6 by omega) sp (hsp n (by omega))
      have l2 := m_lt_lo (x := hi n) lo (hh n (by omega)).2 (show n < 6 by omega) sp (hsp n (by omega))
      have s1 : ∀ k, 18 ≤ k ∧ k < 18 + H → fl4 ho dn r3 (n + 1) (r3 k) = _ := fun k hk => fl4_s (hr := ho) (dn := dn) (n := n) (hB k (by omega) (by omega)) hA (fun p hp => (hh p hp).1) hsp (hd n (by omega)) (by omega)
      have s2 : ∀ k, 28 ≤ k ∧ k < 28 + H → fl4 hi dn r3 (n + 1) (r3 k) = _ := fun k hk => fl4_s (hr := hi) (dn := dn) (n := n) (hB k (by omega) (by omega)) hA (fun p hp => (hh p hp).2) hsp (hd n (by omega)) (by omega)
      by_cases c1 : 18 ≤ k ∧ k < 18 + H
      · have e4 : r4f ho hi dn r3 H n k = fl4 ho dn r3 n (r3 k) := by unfold r4f; rw [if_pos c1]
        rw [if_pos c1, s1 k c1]
        by_cases c2 : dn n = nI 0
        · rw [if_pos c2, if_pos c2, e4]
        · rw [if_neg c2, if_neg c2]
          unfold m_leave
          rw [e4, l1]
          by_cases c3 : fl4 ho dn r3 n (r3 k) = nI n
          · rw [if_pos c3, if_pos c3, if_pos c1]
          · rw [if_neg c3, if_neg c3]
      · rw [if_neg c1]
        by_cases c1b : 28 ≤ k ∧ k < 28 + H
        · have e4 : r4f ho hi dn r3 H n k = fl4 hi dn r3 n (r3 k) := by unfold r4f; rw [if_neg c1, if_pos c1b]
          rw [if_pos c1b, s2 k c1b]
          by_cases c2 : dn n = nI 0
          · rw [if_pos c2, if_pos c2, e4]
          · rw [if_neg c2, if_neg c2]
            unfold m_leave
            rw [e4, l2]
            by_cases c3 : fl4 hi dn r3 n (r3 k) = nI n
            · rw [if_pos c3, if_pos c3, if_neg c1, if_pos c1b]
            · rw [if_neg c3, if_neg c3]
        · rw [if_neg c1b]
          by_cases c2 : dn n = nI 0
          · rw [if_pos c2]
          · rw [if_neg c2]
            unfold m_leave
            rw [if_neg c1, if_neg c1b]
            split <;> rfl
    generalize m_y4a ho hi dn H (r4f ho hi dn r3 H n) n = G at ea ⊢
    have g1 : ∀ k, 18 ≤ k ∧ k < 18 + H → G k = fl4 ho dn r3 (n + 1) (r3 k) := fun k hk => by rw [ea]; exact if_pos hk
    have g2 : ∀ k, ¬ (18 ≤ k ∧ k < 18 + H) → 28 ≤ k ∧ k < 28 + H → G k = fl4 hi dn r3 (n + 1) (r3 k) := fun k hk hk2 => by rw [ea]; exact (if_neg hk).trans (if_pos hk2)
    have g3 : ∀ k, ¬ (18 ≤ k ∧ k < 18 + H) → ¬ (28 ≤ k ∧ k < 28 + H) → G k = r4f ho hi dn r3 H n k := fun k hk hk2 => by rw [ea]; exact (if_neg hk).trans (if_neg hk2)
    have al : m_al G (nI n) = m_al r3 (nI n) := m_al_lo (fun k hk => by rw [g3 k (by omega) (by omega)]; exact lo k hk) (Or.inr ⟨n, by omega, rfl⟩)
    unfold m_y4b
    rw [al]
    have e6 : r4f ho hi dn r3 H n (6 + n) = r3 (6 + n) := by unfold r4f; rw [if_neg (by omega), if_neg (by omega), if_neg (by omega)]
    funext k
    by_cases c1 : m_al r3 (nI n) = nI 0
    · rw [if_pos c1]
      by_cases h1 : 18 ≤ k ∧ k < 18 + H
      · rw [g1 k h1]; unfold r4f; rw [if_pos h1]
      · by_cases h2 : 28 ≤ k ∧ k < 28 + H
        · rw [g2 k h1 h2]; unfold r4f; rw [if_neg h1, if_pos h2]
        · rw [g3 k h1 h2]; unfold r4f; rw [if_neg h1, if_neg h1, if_neg h2, if_neg h2]
          by_cases h3 : k = 6 + n
          · subst h3
            rw [if_neg (by omega), if_neg]
            rw [show 6 + n - 6 = n by omega]
            exact fun h => h.2 c1
          · by_cases h4 : (6 ≤ k ∧ k < 6 + n) ∧ ¬ m_al r3 (nI (k - 6)) = nI 0
            · rw [if_pos h4, if_pos ⟨by omega, h4.2⟩]
            · rw [if_neg h4, if_neg (fun h => h4 ⟨by omega, h.2⟩)]
    · rw [if_neg c1, g3 (6 + n) (by omega) (by omega), e6]
      by_cases h3 : k = 6 + n
      · subst h3
        rw [up_at rfl]
        unfold r4f
        rw [if_neg (by omega), if_neg (by omega), if_pos]
        rw [show 6 + n - 6 = n by omega]
        exact ⟨by omega, c1⟩
      · rw [up_ne h3]
        by_cases h1 : 18 ≤ k ∧ k < 18 + H
        · rw [g1 k h1]; unfold r4f; rw [if_pos h1]
        · by_cases h2 : 28 ≤ k ∧ k < 28 + H
          · rw [g2 k h1 h2]; unfold r4f; rw [if_neg h1, if_pos h2]
          · rw [g3 k h1 h2]; unfold r4f; rw [if_neg h1, if_neg h1, if_neg h2, if_neg h2]
            by_cases h4 : (6 ≤ k ∧ k < 6 + n) ∧ ¬ m_al r3 (nI (k - 6)) = nI 0
            · rw [if_pos h4, if_pos ⟨by omega, h4.2⟩]
            · rw [if_neg h4, if_neg (fun h => h4 ⟨by omega, h.2⟩)]
/-- rows stay as they may be: those who die leave, the others are older -/
theorem RI_y4 {ho hi dn r : Nat → Int32} {P H : Nat} (hH : H ≤ 10) (hP : P ≤ 6) (hR : RI P H r) (hh : ∀ p, p < 6 → PV (ho p) ∧ PV (hi p)) : RI P H (m_y4 ho hi dn H (m_y3 dn r P) P) := by
  obtain ⟨a1, a2, a3, a4, a5, a6, a7, a8, a9, a10, a11⟩ := hR
  have b5 := m_y3_PB (dn := dn) a5 hP
  have d1 : ∀ p, p < 6 → m_y3 dn r P p = nI 0 ∨ m_y3 dn r P p = nI 1 := fun p hp => by
    unfold m_y3
    split
    · exact Or.inl rfl
    · exact a1 p hp
  have d2 : ∀ p, P ≤ p → p < 6 → m_y3 dn r P p = nI 0 := fun p h1 h2 => by
    unfold m_y3
    rw [if_neg (by omega)]
    exact a2 p h1 h2
  have hi3 : ∀ k, 6 ≤ k → m_y3 dn r P k = r k := fun k hk => by unfold m_y3; rw [if_neg (by omega)]
  have e := m_y4_f (dn := dn) hH b5 d1 hh P hP (fun p hp hd => by unfold m_y3; rw [if_pos ⟨hp, hd⟩])
  have lo : ∀ k, k < 6 → r4f ho hi dn (m_y3 dn r P) H P k = m_y3 dn r P k := fun k hk => by unfold r4f; rw [if_neg (by omega), if_neg (by omega), if_neg (by omega)]
  have hi4 : ∀ k, 38 ≤ k → r4f ho hi dn (m_y3 dn r P) H P k = r k := fun k hk => by unfold r4f; rw [if_neg (by omega), if_neg (by omega), if_neg (by omega), hi3 k (by omega)]
  have sp : ∀ p, p < P → r4f ho hi dn (m_y3 dn r P) H P (12 + p) = r (12 + p) := fun p hp => by unfold r4f; rw [if_neg (by omega), if_neg (by omega), if_neg (by omega), hi3 _ (by omega)]
  have ow : ∀ (hr : Nat → Int32) (x : Int32), (∀ p, p < 6 → PV (hr p)) → (x = nM2 ∨ ∃ q, q < P ∧ x = nI q ∧ r q = nI 1) → fl4 hr dn (m_y3 dn r P) P x = nM2 ∨ ∃ q, q < P ∧ fl4 hr dn (m_y3 dn r P) P x = nI q ∧ m_y3 dn r P q = nI 1 := by
    intro hr x hhr hx
    rcases hx with rfl | ⟨q, hq, rfl, hq1⟩
    · unfold fl4
      rw [if_pos (nM2_lt (by omega))]
      exact Or.inl rfl
    · unfold fl4
      rw [if_neg (by rw [nI_ltI (by omega) (by omega)]; omega), nI_clamp (by omega)]
      by_cases c : dn q = nI 0
      · rw [if_neg (fun h => h.2 c)]
        refine Or.inr ⟨q, hq, rfl, ?_⟩
        unfold m_y3
        rw [if_neg (fun h => h.2 c)]
        exact hq1
      · rw [if_pos ⟨hq, c⟩]
        exact m_lt_al d1 d2 (hhr q (by omega)) (by omega) (b5 _ (by omega) (by omega))
  have pb := m_y4_PB (H := H) (dn := dn) b5 hh P hP
  rw [e] at pb ⊢
  refine ⟨fun p hp => by rw [lo p hp]; exact d1 p hp, fun p h1 h2 => by rw [lo p h2]; exact d2 p h1 h2, fun z hz => by rw [hi4 _ (by omega)]; exact a3 z hz, fun z h1 h2 => by rw [hi4 _ (by omega)]; exact a4 z h1 h2, pb, fun z hz => ⟨?_, ?_⟩, fun p hp => ?_, fun z hz => by rw [hi4 _ (by omega)]; exact a8 z hz, fun z hz => by rw [hi4 _ (by omega)]; exact a9 z hz, fun z h1 h2 => by rw [hi4 _ (by omega)]; exact a10 z h1 h2, fun p hp => by rw [sp p hp]; exact a11 p hp⟩
  · have e1 : r4f ho hi dn (m_y3 dn r P) H P (18 + z) = fl4 ho dn (m_y3 dn r P) P (r (18 + z)) := by unfold r4f; rw [if_pos (by omega), hi3 _ (by omega)]
    rw [e1]
    rcases ow ho _ (fun p hp => (hh p hp).1) (a6 z hz).1 with h | ⟨q, h1, h2, h3⟩
    · exact Or.inl h
    · exact Or.inr ⟨q, h1, h2, by rw [lo q (by omega)]; exact h3⟩
  · have e1 : r4f ho hi dn (m_y3 dn r P) H P (28 + z) = fl4 hi dn (m_y3 dn r P) P (r (28 + z)) := by unfold r4f; rw [if_neg (by omega), if_pos (by omega), hi3 _ (by omega)]
    rw [e1]
    rcases ow hi _ (fun p hp => (hh p hp).2) (a6 z hz).2 with h | ⟨q, h1, h2, h3⟩
    · exact Or.inl h
    · exact Or.inr ⟨q, h1, h2, by rw [lo q (by omega)]; exact h3⟩
  · unfold r4f
    rw [if_neg (by omega), if_neg (by omega)]
    split
    · obtain ⟨h, h1, h2⟩ := m_wi_nI (x := m_y3 dn r P (6 + p) + nI 1) (m := 199) (by omega)
      exact ⟨h, h1, h2⟩
    · rw [hi3 _ (by omega)]; exact a7 p hp
theorem RI_up38 {P H e h : Nat} {r : Nat → Int32} (hP : P ≤ 6) (hH : H ≤ 10) (hR : RI P H r) (hh : h ≤ 99) (he : e < 10) : RI P H (mm_up r (38 + e) (nI h)) := by
  obtain ⟨a1, a2, a3, a4, a5, a6, a7, a8, a9, a10, a11⟩ := hR
  have nn : ∀ k, ¬ k = 38 + e → mm_up r (38 + e) (nI h) k = r k := fun k hk => up_ne hk
  refine ⟨fun p hp => by rw [nn _ (by omega)]; exact a1 p hp, fun p h1 h2 => by rw [nn _ (by omega)]; exact a2 p h1 h2, fun z hz => by rw [nn _ (by omega)]; exact a3 z hz, fun z h1 h2 => by rw [nn _ (by omega)]; exact a4 z h1 h2, PB_up a5 (by omega), fun z hz => ?_, fun p hp => ?_, fun z hz => ?_, fun z hz => by rw [nn _ (by omega)]; exact a9 z hz, fun z h1 h2 => by rw [nn _ (by omega)]; exact a10 z h1 h2, fun p hp => ?_⟩
  · have h10 : ∀ k, (18 ≤ k ∧ k < 38) → mm_up r (38 + e) (nI h) k = r k := fun k hk => nn _ (by omega)
    by_cases hz10 : z < 10
    · rw [h10 (18 + z) (by omega), h10 (28 + z) (by omega)]
      refine ⟨?_, ?_⟩
      · rcases (a6 z hz).1 with h | ⟨q, h1, h2, h3⟩
        · exact Or.inl h
        · by_cases hq : q = 38 + e
          · rw [hq] at h2
            rcases a5 (18 + z) (by omega) (by omega) with h9 | ⟨q9, h9, h9b⟩
            · rw [h9, nM2_nI (by omega)] at h2; exact h2.elim
            · rw [h9b, nI_eq (by omega) (by omega)] at h2; omega
          · exact Or.inr ⟨q, h1, h2, by rw [nn _ hq]; exact h3⟩
      · rcases (a6 z hz).2 with h | ⟨q, h1, h2, h3⟩
        · exact Or.inl h
        · by_cases hq : q = 38 + e
          · rw [hq] at h2
            rcases a5 (28 + z) (by omega) (by omega) with h9 | ⟨q9, h9, h9b⟩
            · rw [h9, nM2_nI (by omega)] at h2; exact h2.elim
            · rw [h9b, nI_eq (by omega) (by omega)] at h2; omega
          · exact Or.inr ⟨q, h1, h2, by rw [nn _ hq]; exact h3⟩
    · exact absurd hz (by omega)
  · rw [nn _ (by omega)]; exact a7 p hp
  · by_cases hz2 : z = e
    · subst hz2; rw [up_at rfl]; exact ⟨h, hh, rfl⟩
    · rw [nn _ (by omega)]; exact a8 z hz
  · rw [nn _ (by omega)]; exact a11 p hp
