/-! ===== The reference: a law's value ===== -/
section M7
variable {w : Bool} {nx ns : Nat} {I : Nat → Nat → Int32} {J : Nat → Nat → Int64} {lv P H F : Nat}
/-- the branches from b on: the pile then, the answer, whether it is broken -/
def m_ls (cd ci vr ht : Nat → Int32) (tf tm tt te : Nat → Nat) : Nat → Nat → (Nat → Int32) → (Nat → Int32) × Int32 × Bool
  | 0, _, pl => (pl, nI 0, false)
  | n + 1, b, pl =>
    if ht b = nI 0 then ((m_tm cd ci vr (te b - tt b) (tt b) 0 pl).1, if (m_tm cd ci vr (te b - tt b) (tt b) 0 pl).2.2 = true then nI 0 else (m_tm cd ci vr (te b - tt b) (tt b) 0 pl).2.1, (m_tm cd ci vr (te b - tt b) (tt b) 0 pl).2.2)
    else if (m_tm cd ci vr (tm b - tf b) (tf b) 0 pl).2.2 = true ∨ (m_tm cd ci vr (tt b - tm b) (tm b) 0 (m_tm cd ci vr (tm b - tf b) (tf b) 0 pl).1).2.2 = true then ((m_tm cd ci vr (tt b - tm b) (tm b) 0 (m_tm cd ci vr (tm b - tf b) (tf b) 0 pl).1).1, nI 0, true)
    else if (m_tm cd ci vr (tm b - tf b) (tf b) 0 pl).2.1 < (m_tm cd ci vr (tt b - tm b) (tm b) 0 (m_tm cd ci vr (tm b - tf b) (tf b) 0 pl).1).2.1 then
      ((m_tm cd ci vr (te b - tt b) (tt b) 0 (m_tm cd ci vr (tt b - tm b) (tm b) 0 (m_tm cd ci vr (tm b - tf b) (tf b) 0 pl).1).1).1, if (m_tm cd ci vr (te b - tt b) (tt b) 0 (m_tm cd ci vr (tt b - tm b) (tm b) 0 (m_tm cd ci vr (tm b - tf b) (tf b) 0 pl).1).1).2.2 = true then nI 0 else (m_tm cd ci vr (te b - tt b) (tt b) 0 (m_tm cd ci vr (tt b - tm b) (tm b) 0 (m_tm cd ci vr (tm b - tf b) (tf b) 0 pl).1).1).2.1, (m_tm cd ci vr (te b - tt b) (tt b) 0 (m_tm cd ci vr (tt b - tm b) (tm b) 0 (m_tm cd ci vr (tm b - tf b) (tf b) 0 pl).1).1).2.2)
    else m_ls cd ci vr ht tf tm tt te n (b + 1) (m_tm cd ci vr (tt b - tm b) (tm b) 0 (m_tm cd ci vr (tm b - tf b) (tf b) 0 pl).1).1
/-- a branch lies well -/
def m_bok (I : Nat → Nat → Int32) (tf tm tt te : Nat → Nat) (b : Nat) : Prop :=
  b < 260 ∧ I 351 b = nI (tt b) ∧ I 352 b = nI (te b) ∧ tt b ≤ te b ∧ te b ≤ 840 ∧ m_tok (I 353) (I 354) (te b - tt b) (tt b) 0 ∧
  (I 348 b = nI 0 ∨ (I 348 b = nI 1 ∧ I 349 b = nI (tf b) ∧ I 350 b = nI (tm b) ∧ tf b ≤ tm b ∧ tm b ≤ tt b ∧ m_tok (I 353) (I 354) (tm b - tf b) (tf b) 0 ∧ m_tok (I 353) (I 354) (tt b - tm b) (tm b) 0))
/-- the memory behind a law's value -/
def m_lm (I : Nat → Nat → Int32) (r : (Nat → Int32) × Int32 × Bool) : Nat → Nat → Int32 := mm_up (mm_up I 357 r.1) 323 (mm_up (I 323) 51 (if r.2.2 = true then nI 1 else nI 0))
/-- termOf, with the flag as it was -/
theorem e_term {f g : Nat} {fl : Int32} {pl : Nat → Int32} {dd : Nat} {QQ : Option Value → mm_M → Prop} (hfg : f ≤ g) (hg : g ≤ 840) (hok : m_tok (I 353) (I 354) (g - f) f 0) (hd : 1 ≤ dd) : EV dd 91 [.ref 323, .int (nI f), .int (nI g)] (nx, ns, SH w, mm_up (mm_up I 357 pl) 323 (mm_up (I 323) 51 fl), J) QQ ↔ QQ (some (.int (m_tm (I 353) (I 354) (I 356) (g - f) f 0 pl).2.1)) (nx, ns, SH w, mm_up (mm_up I 357 (m_tm (I 353) (I 354) (I 356) (g - f) f 0 pl).1) 323 (mm_up (I 323) 51 (if (m_tm (I 353) (I 354) (I 356) (g - f) f 0 pl).2.2 = true then nI 1 else fl)), J) := by
  have h := @e_termOf w nx ns (mm_up (mm_up I 357 pl) 323 (mm_up (I 323) 51 fl)) J f (g - f) (by omega) hok dd QQ hd
  rw [show f + (g - f) = g by omega] at h
  have e0 : mm_up (mm_up I 357 pl) 323 (mm_up (I 323) 51 fl) 357 = pl := rfl
  have e1 : mm_up (mm_up I 357 pl) 323 (mm_up (I 323) 51 fl) 353 = I 353 := rfl
  have e2 : mm_up (mm_up I 357 pl) 323 (mm_up (I 323) 51 fl) 354 = I 354 := rfl
  have e3 : mm_up (mm_up I 357 pl) 323 (mm_up (I 323) 51 fl) 356 = I 356 := rfl
  rw [e0, e1, e2, e3] at h
  rw [h]
  generalize m_tm (I 353) (I 354) (I 356) (g - f) f 0 pl = r
  have e4 : mm_up (mm_up (mm_up (mm_up I 357 pl) 323 (mm_up (I 323) 51 fl)) 357 r.1) 323 (m_brk (mm_up (mm_up I 357 pl) 323 (mm_up (I 323) 51 fl)) r.2.2) = mm_up (mm_up I 357 r.1) 323 (mm_up (I 323) 51 (if r.2.2 = true then nI 1 else fl)) := by
    have e5 : m_brk (mm_up (mm_up I 357 pl) 323 (mm_up (I 323) 51 fl)) r.2.2 = mm_up (I 323) 51 (if r.2.2 = true then nI 1 else fl) := by
      unfold m_brk
      have e6 : mm_up (mm_up I 357 pl) 323 (mm_up (I 323) 51 fl) 323 = mm_up (I 323) 51 fl := rfl
      rw [e6, mm_up_up]
      by_cases hb : r.2.2 = true
      · rw [if_pos hb, if_pos hb]
      · rw [if_neg hb, if_neg hb]
    rw [e5]
    funext x
    simp only [mm_up_app]
    by_cases h1 : x = 323
    · simp [h1]
    · by_cases h2 : x = 357
      · simp [h2]
      · simp [h1, h2]
  rw [e4]
end M7
