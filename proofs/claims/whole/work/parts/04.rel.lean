/-! ===== The small machine's states in the machine's heap ===== -/
def mm_tr (ad : Nat → Nat) (v : Value) : Value := match v with
  | .ref a => .ref (ad a)
  | v => v
def mm_fv (ad : Nat → Nat) (f : Nat → Int32) (ks : List (Option (Option Nat))) (k : Nat) : Value := match ks[k]? with
  | some (some r) => va_rf (r.map ad)
  | _ => .int (f k)
def mm_at (D : va_G) (cs : Nat → ClassId) (ad : Nat → Nat) (u : mm_M) (q : Nat) (H : Heap) : Prop := match u.2.2.1 q with
  | .inl o => q < u.1 ∧ ∃ r : vw_C, vwCl[o.1]? = some r ∧ o.2.length = r.2.2 ∧ t_OB (ad q) (D.1 o.1) r.2.2 (D.2 o.1) H (mm_fv ad (u.2.2.2.1 q) o.2)
  | .inr (.inl o) => o.1 < 4 → q < u.1 ∧ H[ad q]? = some (if o.1 = 3 then arrV (cs 3) o.2 (fun j => .long (u.2.2.2.2 q j)) else arrV (cs o.1) o.2 (fun j => .int (u.2.2.2.1 q j)))
  | .inr (.inr o) => q < u.1 ∧ H[ad q]? = some (arrV (cs 4) o.1 (fun j => va_rf ((o.2 j).map ad)))
def mm_tys (cs : Nat → ClassId) : List (ClassId × FieldType) := [(cs 0, .int), (cs 1, .byte), (cs 2, .boolean), (cs 3, .long), (cs 4, .object "FenceSides$State")]
def mm_R (D : va_G) (cs : Nat → ClassId) (b : Nat) (ad : Nat → Nat) (u : mm_M) (H : Heap) : Prop := H.size = b + u.1 ∧ u.1 ≤ 1000000 ∧ ∀ q, mm_at D cs ad u q H
def mm_lvl (ad : Nat → Nat) (L : mm_L) : List (Nat × Value) := (List.range L.length).filterMap (fun i => match L[i]? with
  | some (some v) => some (i, mm_tr ad v)
  | _ => none)
def mm_lv (ad : Nat → Nat) (ls : Array Slot) (nL : Nat) (L : mm_L) : Prop := L.length = nL ∧ lv_has ls nL (mm_lvl ad L)
theorem mm_lvl_mem {ad : Nat → Nat} {L : mm_L} {q : Nat × Value} : q ∈ mm_lvl ad L ↔ ∃ v, L[q.1]? = some (some v) ∧ q.2 = mm_tr ad v := by
  unfold mm_lvl
  rw [List.mem_filterMap]
  constructor
  · rintro ⟨i, -, h⟩
    split at h
    · rename_i v hv
      cases h
      exact ⟨v, hv, rfl⟩
    · cases h
  · rintro ⟨v, h1, h2⟩
    refine ⟨q.1, List.mem_range.mpr (List.getElem?_eq_some_iff.mp h1).1, ?_⟩
    rw [h1]
    obtain ⟨a, b⟩ := q
    cases h2
    rfl
theorem mm_lv_at {ad : Nat → Nat} {ls : Array Slot} {nL : Nat} {L : mm_L} (h : mm_lv ad ls nL L) {i : Nat} {v : Value} (hi : L[i]? = some (some v)) : ls[i]? = some (.val (mm_tr ad v)) :=
  h.2.2.2 (i, mm_tr ad v) (mm_lvl_mem.mpr ⟨v, hi, rfl⟩)
theorem mm_tr_cat (ad : Nat → Nat) (v : Value) : (mm_tr ad v).category = v.category := by cases v <;> rfl
theorem mm_kill_len (L : mm_L) (i : Nat) : (mm_kill L i).length = L.length := by
  unfold mm_kill
  split
  · rfl
  · split
    · split <;> simp
    · rfl
theorem mm_kill_get {L : mm_L} {i j : Nat} {v : Value} (h : (mm_kill L i)[j]? = some (some v)) : L[j]? = some (some v) ∧ ¬ (j + 1 = i ∧ v.category = 2) := by
  unfold mm_kill at h
  split at h
  · exact ⟨h, fun q => by omega⟩
  · rename_i k
    split at h
    · rename_i w hw
      split at h
      · by_cases hj : k = j
        · subst hj
          rw [List.getElem?_set_self (List.getElem?_eq_some_iff.mp hw).1] at h
          cases h
        · rw [List.getElem?_set_ne hj] at h
          exact ⟨h, fun q => by omega⟩
      · rename_i hc
        refine ⟨h, fun q => ?_⟩
        have e : j = k := by omega
        subst e
        rw [hw] at h
        cases h
        exact hc q.2
    · rename_i hn
      refine ⟨h, fun q => ?_⟩
      have e : j = k := by omega
      subst e
      exact hn v h
theorem mm_sto1_lv {ad : Nat → Nat} {ls ls' : Array Slot} {nL i : Nat} {L : mm_L} {v : Value} (h : mm_lv ad ls nL L) (h' : lv_has ls' nL ((i, mm_tr ad v) :: (mm_lvl ad L).filter (fun q => !(q.1 == i) && !(q.1 + 1 == i && q.2.category == 2)))) : mm_lv ad ls' nL (mm_sto1 L i v) := by
  refine ⟨by simp [mm_sto1, mm_kill_len, h.1], h'.1, h'.2.1, fun q hq => h'.2.2 q ?_⟩
  obtain ⟨w, h1, h2⟩ := mm_lvl_mem.mp hq
  unfold mm_sto1 at h1
  by_cases hj : i = q.1
  · rw [← hj, List.getElem?_set_self (by
      have := (List.getElem?_eq_some_iff.mp h1).1
      rw [List.length_set] at this
      omega)] at h1
    cases h1
    obtain ⟨a, b⟩ := q
    dsimp only at hj h2
    subst hj; subst h2
    exact List.mem_cons_self
  · rw [List.getElem?_set_ne hj] at h1
    obtain ⟨g1, g2⟩ := mm_kill_get h1
    refine List.mem_cons_of_mem _ (List.mem_filter.mpr ⟨mm_lvl_mem.mpr ⟨w, g1, h2⟩, ?_⟩)
    have c2 : q.2.category = w.category := by rw [h2, mm_tr_cat]
    have n1 : ¬ q.1 = i := fun e => hj e.symm
    simp only [Bool.and_eq_true, Bool.not_eq_true', beq_eq_false_iff_ne, ne_eq, Bool.and_eq_false_iff, c2]
    refine ⟨n1, ?_⟩
    by_cases e : q.1 + 1 = i
    · exact Or.inr (fun z => g2 ⟨e, z⟩)
    · exact Or.inl e
theorem mm_sto2_lv {ad : Nat → Nat} {ls ls' : Array Slot} {nL i : Nat} {L : mm_L} {v : Value} (h : mm_lv ad ls nL L) (h' : lv_has ls' nL ((i, mm_tr ad v) :: (mm_lvl ad L).filter (fun q => !(q.1 == i) && (!(q.1 == i + 1) && !(q.1 + 1 == i && q.2.category == 2))))) : mm_lv ad ls' nL (mm_sto2 L i v) := by
  refine ⟨by simp [mm_sto2, mm_kill_len, h.1], h'.1, h'.2.1, fun q hq => h'.2.2 q ?_⟩
  obtain ⟨w, h1, h2⟩ := mm_lvl_mem.mp hq
  unfold mm_sto2 at h1
  by_cases hj : i = q.1
  · rw [← hj, List.getElem?_set_self (by
      have := (List.getElem?_eq_some_iff.mp h1).1
      rw [List.length_set] at this
      omega)] at h1
    cases h1
    obtain ⟨a, b⟩ := q
    dsimp only at hj h2
    subst hj; subst h2
    exact List.mem_cons_self
  · rw [List.getElem?_set_ne hj] at h1
    by_cases hj2 : i + 1 = q.1
    · rw [hj2, List.getElem?_set_self (by
        have := (List.getElem?_eq_some_iff.mp h1).1
        rw [List.length_set] at this
        omega)] at h1
      cases h1
    · rw [List.getElem?_set_ne hj2] at h1
      obtain ⟨g1, g2⟩ := mm_kill_get h1
      refine List.mem_cons_of_mem _ (List.mem_filter.mpr ⟨mm_lvl_mem.mpr ⟨w, g1, h2⟩, ?_⟩)
      have c2 : q.2.category = w.category := by rw [h2, mm_tr_cat]
      have n1 : ¬ q.1 = i := fun e => hj e.symm
      have n2 : ¬ q.1 = i + 1 := fun e => hj2 e.symm
      simp only [Bool.and_eq_true, Bool.not_eq_true', beq_eq_false_iff_ne, ne_eq, Bool.and_eq_false_iff, c2]
      refine ⟨n1, n2, ?_⟩
      by_cases e : q.1 + 1 = i
      · exact Or.inr (fun z => g2 ⟨e, z⟩)
      · exact Or.inl e
/-- one cell changed, the others as they were -/
theorem mm_R_set {D : va_G} {cs : Nat → ClassId} {b : Nat} {ad : Nat → Nat} {u u' : mm_M} {H H1 : Heap} {a : Nat} (had : ∀ q, q < 1000000 → ad q = b + q) (hR : mm_R D cs b ad u H) (ha : a < u.1) (h1 : u'.1 = u.1) (hsh : ∀ q, q ≠ a → u'.2.2.1 q = u.2.2.1 q ∧ u'.2.2.2.1 q = u.2.2.2.1 q ∧ u'.2.2.2.2 q = u.2.2.2.2 q)
    (hz : H1.size = H.size) (oq : ∀ q, q ≠ ad a → H1[q]? = H[q]?) (hat : mm_at D cs ad u' a H1) : mm_R D cs b ad u' H1 := by
  obtain ⟨r1, r2, r3⟩ := hR
  refine ⟨by rw [hz, r1, h1], by rw [h1]; exact r2, fun q => ?_⟩
  by_cases hq : q = a
  · rw [hq]; exact hat
  · obtain ⟨e1, e2, e3⟩ := hsh q hq
    have hk : q < u.1 → H1[ad q]? = H[ad q]? := fun hl => oq _ (by rw [had q (by omega), had a (by omega)]; omega)
    have h0 := r3 q
    unfold mm_at at h0 ⊢
    rw [e1, e2, e3, h1]
    split at h0
    · obtain ⟨g1, r, g2, g3, g4⟩ := h0
      exact ⟨g1, r, g2, g3, g4.kept (hk g1)⟩
    · intro h4
      obtain ⟨g1, g2⟩ := h0 h4
      exact ⟨g1, by rw [hk g1]; exact g2⟩
    · obtain ⟨g1, g2⟩ := h0
      exact ⟨g1, by rw [hk g1]; exact g2⟩
/-- one cell more -/
theorem mm_R_new {D : va_G} {cs : Nat → ClassId} {b : Nat} {ad : Nat → Nat} {u u' : mm_M} {H H1 : Heap} (had : ∀ q, q < 1000000 → ad q = b + q) (hR : mm_R D cs b ad u H) (hlt : u.1 < 1000000) (h1 : u'.1 = u.1 + 1) (hsh : ∀ q, q ≠ u.1 → u'.2.2.1 q = u.2.2.1 q ∧ u'.2.2.2.1 q = u.2.2.2.1 q ∧ u'.2.2.2.2 q = u.2.2.2.2 q)
    (hz : H1.size = H.size + 1) (oq : ∀ q, q < H.size → H1[q]? = H[q]?) (hat : mm_at D cs ad u' u.1 H1) : mm_R D cs b ad u' H1 := by
  obtain ⟨r1, r2, r3⟩ := hR
  refine ⟨by rw [hz, r1, h1]; omega, by rw [h1]; omega, fun q => ?_⟩
  by_cases hq : q = u.1
  · rw [hq]; exact hat
  · obtain ⟨e1, e2, e3⟩ := hsh q hq
    have hk : q < u.1 → H1[ad q]? = H[ad q]? := fun hl => oq _ (by rw [had q (by omega), r1]; omega)
    have h0 := r3 q
    unfold mm_at at h0 ⊢
    rw [e1, e2, e3, h1]
    split at h0
    · obtain ⟨g1, r, g2, g3, g4⟩ := h0
      exact ⟨by omega, r, g2, g3, g4.kept (hk g1)⟩
    · intro h4
      obtain ⟨g1, g2⟩ := h0 h4
      exact ⟨by omega, by rw [hk g1]; exact g2⟩
    · obtain ⟨g1, g2⟩ := h0
      exact ⟨by omega, by rw [hk g1]; exact g2⟩
theorem mm_R_at {D : va_G} {cs : Nat → ClassId} {b : Nat} {ad : Nat → Nat} {u : mm_M} {H : Heap} (hR : mm_R D cs b ad u H) (a : Nat) : mm_at D cs ad u a H := hR.2.2 a
theorem mm_R_obj {D : va_G} {cs : Nat → ClassId} {b : Nat} {ad : Nat → Nat} {u : mm_M} {H : Heap} (hR : mm_R D cs b ad u H) {a ci : Nat} {ks : List (Option (Option Nat))} (h : u.2.2.1 a = .inl (ci, ks)) : a < u.1 ∧ ∃ r : vw_C, vwCl[ci]? = some r ∧ ks.length = r.2.2 ∧ t_OB (ad a) (D.1 ci) r.2.2 (D.2 ci) H (mm_fv ad (u.2.2.2.1 a) ks) := by
  have h0 := hR.2.2 a
  unfold mm_at at h0
  rw [h] at h0
  exact h0
theorem mm_R_arr {D : va_G} {cs : Nat → ClassId} {b : Nat} {ad : Nat → Nat} {u : mm_M} {H : Heap} (hR : mm_R D cs b ad u H) {a t n : Nat} (h : u.2.2.1 a = .inr (.inl (t, n))) (ht : t < 3) : a < u.1 ∧ H[ad a]? = some (arrV (cs t) n (fun j => .int (u.2.2.2.1 a j))) := by
  have h0 := hR.2.2 a
  unfold mm_at at h0
  rw [h] at h0
  obtain ⟨g1, g2⟩ := h0 (by show t < 4; omega)
  refine ⟨g1, ?_⟩
  rw [if_neg (show ¬ t = 3 by omega)] at g2
  exact g2
theorem mm_R_arrL {D : va_G} {cs : Nat → ClassId} {b : Nat} {ad : Nat → Nat} {u : mm_M} {H : Heap} (hR : mm_R D cs b ad u H) {a n : Nat} (h : u.2.2.1 a = .inr (.inl (3, n))) : a < u.1 ∧ H[ad a]? = some (arrV (cs 3) n (fun j => .long (u.2.2.2.2 a j))) := by
  have h0 := hR.2.2 a
  unfold mm_at at h0
  rw [h] at h0
  exact h0 (by show 3 < 4; omega)
theorem mm_R_rows {D : va_G} {cs : Nat → ClassId} {b : Nat} {ad : Nat → Nat} {u : mm_M} {H : Heap} (hR : mm_R D cs b ad u H) {a n : Nat} {f : Nat → Option Nat} (h : u.2.2.1 a = .inr (.inr (n, f))) : a < u.1 ∧ H[ad a]? = some (arrV (cs 4) n (fun j => va_rf ((f j).map ad))) := by
  have h0 := hR.2.2 a
  unfold mm_at at h0
  rw [h] at h0
  exact h0
