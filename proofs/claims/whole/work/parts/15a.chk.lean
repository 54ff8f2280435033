/-! ===== checks of long stretches, piece by piece ===== -/
def mm_seg (tb : Nat → Option mm_T) (own mn : String) (cc : ByteArray) : Nat → List mm_I → Option Nat
  | pc, [] => some pc
  | pc, i :: is =>
    if i.1 < 50 then (match mm_one own mn i (decode cc pc) with
      | some k => mm_seg tb own mn cc (pc + k) is
      | none => none)
    else if i.1 = 70 then (match tb i.2.1 with
      | some t => if mm_cck own t i.2.2.1 (decode cc pc) = true then mm_seg tb own mn cc (pc + 3) is else none
      | none => none)
    else none
theorem mm_seg_app {tb : Nat → Option mm_T} {own mn : String} {rt : Option FieldType} {cc : ByteArray} {lab : Nat → Nat} : ∀ (is1 : List mm_I) (pc pc2 : Nat) (is2 : List mm_I), mm_seg tb own mn cc pc is1 = some pc2 → mm_chk tb own mn rt cc lab pc2 is2 = true → mm_chk tb own mn rt cc lab pc (is1 ++ is2) = true := by
  intro is1
  induction is1 with
  | nil => intro pc pc2 is2 h1 h2; cases h1; exact h2
  | cons i is ih =>
    intro pc pc2 is2 h1 h2
    unfold mm_seg at h1
    show mm_chk tb own mn rt cc lab pc (i :: (is ++ is2)) = true
    unfold mm_chk
    split at h1
    · rename_i hi
      rw [if_pos hi]
      split at h1
      · rename_i k hk
        rw [hk]
        exact ih _ _ _ h1 h2
      · cases h1
    · rename_i hi
      rw [if_neg hi]
      split at h1
      · rename_i hi2
        rw [if_neg (show ¬ i.1 < 70 by omega), if_pos hi2]
        split at h1
        · rename_i t ht
          rw [ht]
          split at h1
          · rename_i hc
            simp only [hc, Bool.true_and]
            exact ih _ _ _ h1 h2
          · cases h1
        · cases h1
      · cases h1
theorem mm_qok_of {q : mm_T × List (List mm_I) × List Nat} (h1 : mm_tck q.1 = true) (h2 : q.1.2.2.1 ≤ 20) (h3 : (q.2.2[0]?).getD 0 = 0) (h4 : ∀ bl ∈ List.range q.2.1.length, mm_chk mm_tbl q.1.1.cls q.1.1.name q.1.2.2.2.1 q.1.2.1 (fun z => (q.2.2[z]?).getD 0) ((q.2.2[bl]?).getD 0) ((q.2.1[bl]?).getD []) = true) : mm_qok q = true := by
  unfold mm_qok
  simp only [Bool.and_eq_true, decide_eq_true_eq]
  exact ⟨⟨⟨h1, h2⟩, h3⟩, List.all_eq_true.mpr h4⟩
