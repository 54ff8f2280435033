/-! ===== The class: a law told, all statements ===== -/
section Qu
variable {w : Bool} {nx ns : Nat} {Y Z : Nat → Nat → Int32} {J J' : Nat → Nat → Int64} {n a p v q : Nat} {b c : Nat → Nat} {S : TS} {Kc : Option Value → mm_M → Prop}
theorem XP_XS {a2 s : Nat} {st nm : Nat → Int32} (hp : p = 9 ∨ p = 22) : XP (XS b n Y a c) p a2 s st nm = XS b n (mm_up (mm_up (mm_up Y (p + 8) (mm_up (Y (p + 8)) 4 (nI s))) (p + 9) st) (p + 10) nm) a2 c := by
  unfold XP
  rw [XS_tk, XS_o (show ¬ p + 8 = 3 by omega), XS_up (by omega), XS_up (by omega), XS_up (by omega)]
theorem XP_self {s : Nat} (hp : p = 9 ∨ p = 22) (h : Y (p + 8) 4 = nI s) : XP (XS b n Y a c) p a s (Y (p + 9)) (Y (p + 10)) = XS b n Y a c := by
  rw [XP_XS hp, mm_up_of h, mm_up_id, mm_up_of rfl, mm_up_of rfl]
theorem lcd_up {L : Nat → Option (List PI × PC)} {k k2 f : Nat} {x : Option (List PI × PC)} (h : ¬ k2 = k) : lcd k2 f (mm_up L k x k2) = lcd k2 f (L k2) := by rw [up_ne h]
theorem kx_law {k : Nat} (hp : p = 9 ∨ p = 22) (hA : IsPa w p) (hT : TSo (tkK b n) S a) (hD : RXd Y J p S a) (hC : CUX Y J b n) (hk : k < 4) (hK : tkK b n a = 4 + k) {dd : Nat} (hd : 24 ≤ dd) (hS : sS w nx ns b n Y J p (pSt (tkK b n) (tkV b n) (tkL b n) S a) Kc) (hF : sF w nx ns b n Y J p (pSt (tkK b n) (tkV b n) (tkL b n) S a) Kc) : EV dd 214 [.ref 3, .ref p] (nx, ns, SH w, XS b n Y a S.1, J) Kc := by
  obtain ⟨ha, hpre, f7, p6, h10, e6, c5, o1, o2, o3⟩ := hT
  obtain ⟨hc, hN, hR, s, l1, l2, lx, l3⟩ := hD
  unfold pSt at hS hF
  rw [if_neg (by omega), if_neg (by omega), if_neg (by omega), if_neg (by omega), if_neg (by omega), if_pos (by omega), show tkK b n a - 4 = k by omega] at hS hF
  have hCX : CUX (XS b n Y a S.1) J b n := CUX_f hC (XS_o (by decide)) (XS_o (by decide)) rfl
  rw [← XP_self (b := b) (n := n) (a := a) (c := S.1) hp l1]
  refine k_readLaw hp hA hCX hk hK ha hpre l2 hd ?_ ?_
  · intro hr st' nm' happ hp2 hle hlen
    have e11 : XS b n Y a S.1 (p + 11) = Y (p + 11) := XS_o (by omega)
    rw [e11, XS_up (by omega), XS_o (show ¬ p + 12 = 3 by omega), XS_up (by omega), up_ne (show ¬ p + 12 = p + 11 by omega), XP_XS hp, up_ne (show ¬ p + 8 = p + 12 by omega), up_ne (show ¬ p + 8 = p + 11 by omega)]
    have hcs := pLaw_cs hr
    generalize hr0 : pLaw (tkK b n) (tkV b n) a = r at hr happ hp2 hle hlen hS hcs ⊢
    refine hS hr _ J ⟨?_, hN, fun h0 => ?_, s + (lwc s r.2.2.1 r.2.2.2).length, ?_, ?_, ?_, fun k2 hk2 => ?_⟩ (fun q h1 h2 => ?_) (fun q h1 h2 => rfl) ?_
    · unfold RXc
      simp (disch := omega) only [up_ne]
      exact hc
    · exact RXr_f (hR h0) (fun q h1 h2 => by simp (disch := omega) only [up_ne]) rfl rfl
    · simp (disch := omega) only [up_ne, up_at]
    · show _ ≤ r.2.1 + 4; omega
    · simp (disch := omega) only [up_ne, up_at]
      intro z hz
      by_cases hzs : z < s
      · obtain ⟨c1, c2⟩ := happ.1 z hzs
        rw [c1, c2]
        exact lx z hzs
      · obtain ⟨i, rfl⟩ : ∃ i, z = s + i := ⟨z - s, by omega⟩
        have hi : i < (lwc s r.2.2.1 r.2.2.2).length := by omega
        obtain ⟨c1, c2⟩ := happ.2.1 i _ (List.getElem?_eq_getElem hi)
        have hk := lwc_ok r.2.2.1 r.2.2.2 s hcs (by omega) _ (List.getElem_mem hi)
        generalize (lwc s r.2.2.1 r.2.2.2)[i] = x at c1 c2 hk
        rw [c1, c2]
        exact ⟨⟨x.1, hk.1, rfl⟩, fun h => hk.2.1 ((nI_eq (by have := hk.1; omega) (by omega)).mp h), fun h => hk.2.2 ((nI_eq (by have := hk.1; omega) (by omega)).mp h)⟩
    · by_cases e : k2 = k
      · subst e
        have el : lcd k2 s (mm_up S.2.2.2.2 k2 (some (r.2.2.1, r.2.2.2)) k2) = lwc s r.2.2.1 r.2.2.2 := by rw [up_at rfl]; rfl
        refine ⟨s, ?_, ?_, ?_, fun i x hx => ?_⟩
        · simp (disch := omega) only [up_ne, up_at]
        · show s + (lcd k2 s (mm_up S.2.2.2.2 k2 (some (r.2.2.1, r.2.2.2)) k2)).length ≤ _
          rw [el]; exact Nat.le_refl _
        · show _ = nI (s + (lcd k2 s (mm_up S.2.2.2.2 k2 (some (r.2.2.1, r.2.2.2)) k2)).length)
          rw [el]
          simp (disch := omega) only [up_ne, up_at]
        · have hx' : (lcd k2 s (mm_up S.2.2.2.2 k2 (some (r.2.2.1, r.2.2.2)) k2))[i]? = some x := hx
          rw [el] at hx'
          simp (disch := omega) only [up_ne, up_at]
          exact happ.2.1 i x hx'
      · obtain ⟨f, b1, b2, b3, b4⟩ := l3 k2 hk2
        refine ⟨f, ?_, ?_, ?_, fun i x hx => ?_⟩
        · simp (disch := omega) only [up_ne, up_at]
          exact b1
        · show f + (lcd k2 f (mm_up S.2.2.2.2 k (some (r.2.2.1, r.2.2.2)) k2)).length ≤ _
          rw [lcd_up e]; omega
        · show _ = nI (f + (lcd k2 f (mm_up S.2.2.2.2 k (some (r.2.2.1, r.2.2.2)) k2)).length)
          rw [lcd_up e]
          simp (disch := omega) only [up_ne, up_at]
          exact b3
        · have hx' : (lcd k2 f (mm_up S.2.2.2.2 k (some (r.2.2.1, r.2.2.2)) k2))[i]? = some x := hx
          rw [lcd_up e] at hx'
          have hi : i < (lcd k2 f (S.2.2.2.2 k2)).length := by
            rcases Nat.lt_or_ge i (lcd k2 f (S.2.2.2.2 k2)).length with h | h
            · exact h
            · rw [List.getElem?_eq_none h] at hx'; simp at hx'
          obtain ⟨c1, c2⟩ := happ.1 (f + i) (by omega)
          simp (disch := omega) only [up_ne, up_at]
          rw [c1, c2]
          exact b4 i x hx'
    · simp (disch := omega) only [up_ne]
    · simp (disch := omega) only [up_ne]
  · intro hr Z hZ z1 z2
    refine hF hr Z J (fun q h1 h2 => ?_) (fun _ _ _ => rfl) z1 z2
    rw [hZ.1 q h1 (by omega)]
    exact XS_o h1
/-- a word that begins nothing -/
theorem kx_bad (hT : TSo (tkK b n) S a) (hC : CUX Y J b n) (h0 : 9 ≤ tkK b n a) {dd : Nat} (hd : 2 ≤ dd) (hF : sF w nx ns b n Y J p (pSt (tkK b n) (tkV b n) (tkL b n) S a) Kc) : EV dd 214 [.ref 3, .ref p] (nx, ns, SH w, XS b n Y a S.1, J) Kc := by
  obtain ⟨ha, hpre, -⟩ := hT
  obtain ⟨g5, g6, -⟩ := hC a ha hpre
  have hK33 := @tkK_lt n b a
  unfold pSt at hF
  rw [if_neg (by omega), if_neg (by omega), if_neg (by omega), if_neg (by omega), if_neg (by omega), if_neg (by omega)] at hF
  rw [e_xbad h0 (by omega) XS_33 ha (by rw [XS_o (by decide)]; exact g5) hd]
  refine hF (by simp) _ J (fun q h1 h2 => ?_) (fun q _ _ => rfl) rfl g6
  rw [up_ne h1]; exact XS_o h1
/-- how it goes on behind all -/
def aS (w : Bool) (nx ns : Nat) (b : Nat → Nat) (n : Nat) (Y : Nat → Nat → Int32) (J : Nat → Nat → Int64) (p : Nat) (r : Nat × Nat × TS) (Kc : Option Value → mm_M → Prop) : Prop := r.1 = 0 → ∀ Y' J', TSo (tkK b n) r.2.2 r.2.1 → RXd Y' J' p r.2.2 r.2.1 → FS Y Y' p → JS J J' p → Y' 3 1 = nI (r.2.2.1 5) → Y' 3 2 = plc b n r.2.2.1 → Kc none (nx, ns, SH w, Y', J')
def aF (w : Bool) (nx ns : Nat) (b : Nat → Nat) (n : Nat) (Y : Nat → Nat → Int32) (J : Nat → Nat → Int64) (p : Nat) (r : Nat × Nat × TS) (Kc : Option Value → mm_M → Prop) : Prop := ¬ r.1 = 0 → ∀ Z J', FS Y Z p → JS J J' p → Z 3 1 = nI r.1 → Z 3 2 = nI (tkp b n r.2.1) → Kc none (nx, ns, SH w, Z, J')
theorem FS_tr {X : Nat → Nat → Int32} (h1 : FS X Y p) (h2 : FS Y Z p) : FS X Z p := fun q a b => (h2 q a b).trans (h1 q a b)
theorem JS_tr {J0 : Nat → Nat → Int64} (h1 : JS J0 J p) (h2 : JS J J' p) : JS J0 J' p := fun q a b => (h2 q a b).trans (h1 q a b)
end Qu
