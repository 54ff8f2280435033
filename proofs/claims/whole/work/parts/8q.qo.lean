/-! ===== The class: tokens of statements ===== -/
section Qo
variable {w : Bool} {nx ns : Nat} {Y Z : Nat → Nat → Int32} {J J' : Nat → Nat → Int64} {n a p v q : Nat} {b c : Nat → Nat} {S : TS} {Kc : Option Value → mm_M → Prop}
/-- names of the class, looked up -/
theorem ix_f (hN : RXn J p S) (hO : ∀ i, i < S.1 0 → ltok (S.2.1 i)) {x : List Nat} (hx : ltok x) : ixN (J (p + 1)) (lN (enc 32 x)) (S.1 0) 0 = ovk (lk S.2.1 x (S.1 0)) := ixN_lk hx _ 0 (fun j _ h2 => ⟨hN.1 j (by omega), hO j (by omega)⟩)
theorem ix_p (hN : RXn J p S) (hO : ∀ i, i < S.1 1 → ltok (S.2.2.1 i)) {x : List Nat} (hx : ltok x) : ixN (J (p + 2)) (lN (enc 32 x)) (S.1 1) 0 = ovk (lk S.2.2.1 x (S.1 1)) := ixN_lk hx _ 0 (fun j _ h2 => ⟨hN.2 j (by omega), hO j (by omega)⟩)
theorem ovk_fn {f : Nat → List Nat} {x : List Nat} {m : Nat} (hm : m ≤ 10) : ovk (lk f x m) < nI 0 ↔ lk f x m = none := ovk_neg (fun v h => by have := (lk_lt h).1; omega)
theorem cux_v (hC : CUX Y J b n) (ha : a ≤ 400) (hpre : ∀ j, j < a → tkK b n j < 32) (h : tkK b n a = 21) : J 7 a = lN (enc 32 (tkL b n a)) := (hC a ha hpre).2.2.1 (by have : tkk b n (tkp b n a) = 21 := h; omega)
theorem cux_i (hC : CUX Y J b n) (ha : a ≤ 400) (hpre : ∀ j, j < a → tkK b n j < 32) (h : tkK b n a = 22) : J 7 a = lN (tkV b n a) := (hC a ha hpre).2.2.2 h
theorem ntX_cg {P Q : Prop} [Decidable P] [Decidable Q] (h : P ↔ Q) : ntX Y a v P = ntX Y a v Q := by
  by_cases c : P
  · rw [ntX_t c, ntX_t (h.mp c)]
  · rw [ntX_f c, ntX_f (fun e => c (h.mpr e))]
theorem kx_fld (hp : p = 9 ∨ p = 22) (hA : IsPa w p) (h8 : Y p 8 = nI (S.1 0)) (hF7 : S.1 0 ≤ 7) (hN : RXn J p S) (hO : ∀ i, i < S.1 0 → ltok (S.2.1 i)) (hc : c 5 < 100) (hC : CUX Y J b n) (ha : a ≤ 400) (hpre : ∀ j, j < a → tkK b n j < 32) {dd : Nat} (hd : 2 ≤ dd) (hS : tS w nx ns b n Y J 21 a (nt c 4 a (lk S.2.1 (tkL b n a) (S.1 0) = none)) Kc) (hF : tF w nx ns b n Y J 21 a Kc) : EV dd 220 [.ref 3, .ref p] (nx, ns, SH w, XS b n Y a c, J) Kc := by
  obtain ⟨g5, g6, -⟩ := hC a ha hpre
  have hK33 := @tkK_lt n b a
  rw [e_xtakeField hA (m := S.1 0) (by rw [XS_o (by omega)]; exact h8) hF7 hp (z := tkK b n a) (by omega) XS_33 ha (by rw [XS_o (by decide)]; exact g5) hd]
  by_cases h : tkK b n a = 21
  · have e := ix_f hN hO (tkL_ok (b := b) (n := n) (a := a) (by omega))
    rw [← cux_v hC ha hpre h] at e
    rw [ntX_cg (Q := lk S.2.1 (tkL b n a) (S.1 0) = none) (by rw [e, ovk_fn (by omega)]; exact ⟨fun q => q.2, fun q => ⟨h, q⟩⟩), XS_nt (by decide) hc g6]
    exact kx_fin g6 hS hF
  · rw [ntX_f (fun e => h e.1)]
    exact kx_fin g6 (fun e => absurd (pTk_0.mp e).1 h) hF
theorem kx_per (hp : p = 9 ∨ p = 22) (hA : IsPa w p) (h9 : Y p 9 = nI (S.1 1)) (hP6 : S.1 1 ≤ 6) (hN : RXn J p S) (hO : ∀ i, i < S.1 1 → ltok (S.2.2.1 i)) (hc : c 5 < 100) (hC : CUX Y J b n) (ha : a ≤ 400) (hpre : ∀ j, j < a → tkK b n j < 32) {dd : Nat} (hd : 2 ≤ dd) (hS : tS w nx ns b n Y J 21 a (nt c 4 a (lk S.2.2.1 (tkL b n a) (S.1 1) = none)) Kc) (hF : tF w nx ns b n Y J 21 a Kc) : EV dd 221 [.ref 3, .ref p] (nx, ns, SH w, XS b n Y a c, J) Kc := by
  obtain ⟨g5, g6, -⟩ := hC a ha hpre
  have hK33 := @tkK_lt n b a
  rw [e_xtakePerson hA (m := S.1 1) (by rw [XS_o (by omega)]; exact h9) hP6 hp (z := tkK b n a) (by omega) XS_33 ha (by rw [XS_o (by decide)]; exact g5) hd]
  by_cases h : tkK b n a = 21
  · have e := ix_p hN hO (tkL_ok (b := b) (n := n) (a := a) (by omega))
    rw [← cux_v hC ha hpre h] at e
    rw [ntX_cg (Q := lk S.2.2.1 (tkL b n a) (S.1 1) = none) (by rw [e, ovk_fn (by omega)]; exact ⟨fun q => q.2, fun q => ⟨h, q⟩⟩), XS_nt (by decide) hc g6]
    exact kx_fin g6 hS hF
  · rw [ntX_f (fun e => h e.1)]
    exact kx_fin g6 (fun e => absurd (pTk_0.mp e).1 h) hF
theorem som_n {r : Option Nat} : r.isSome = true ↔ ¬ r = none := by cases r <;> simp
theorem kx_new (hp : p = 9 ∨ p = 22) (hA : IsPa w p) (h8 : Y p 8 = nI (S.1 0)) (h9 : Y p 9 = nI (S.1 1)) (hF7 : S.1 0 ≤ 7) (hP6 : S.1 1 ≤ 6) (hN : RXn J p S) (hO : ∀ i, i < S.1 0 → ltok (S.2.1 i)) (hO2 : ∀ i, i < S.1 1 → ltok (S.2.2.1 i)) (hc : c 5 < 100) (hC : CUX Y J b n) (ha : a ≤ 400) (hpre : ∀ j, j < a → tkK b n j < 32) {dd : Nat} (hd : 3 ≤ dd) (hS : tS w nx ns b n Y J 21 a (nt c 3 a ((lk S.2.1 (tkL b n a) (S.1 0)).isSome = true ∨ (lk S.2.2.1 (tkL b n a) (S.1 1)).isSome = true)) Kc) (hF : tF w nx ns b n Y J 21 a Kc) : EV dd 219 [.ref 3, .ref p] (nx, ns, SH w, XS b n Y a c, J) Kc := by
  obtain ⟨g5, g6, -⟩ := hC a ha hpre
  have hK33 := @tkK_lt n b a
  rw [e_xtakeNew hA (m := S.1 0) (m2 := S.1 1) (by rw [XS_o (by omega)]; exact h8) hF7 (by rw [XS_o (by omega)]; exact h9) hP6 (z := tkK b n a) (by omega) XS_33 ha (by rw [XS_o (by decide)]; exact g5) hd]
  by_cases h : tkK b n a = 21
  · have hx := tkL_ok (b := b) (n := n) (a := a) (by omega)
    have e := ix_f hN hO hx
    have e2 := ix_p hN hO2 hx
    rw [← cux_v hC ha hpre h] at e e2
    rw [ntX_cg (Q := (lk S.2.1 (tkL b n a) (S.1 0)).isSome = true ∨ (lk S.2.2.1 (tkL b n a) (S.1 1)).isSome = true) (by
      rw [e, e2, ovk_fn (by omega), ovk_fn (by omega), som_n, som_n, Classical.not_and_iff_not_or_not]
      exact ⟨fun q => q.2, fun q => ⟨h, q⟩⟩), XS_nt (by decide) hc g6]
    exact kx_fin g6 hS hF
  · rw [ntX_f (fun e => h e.1)]
    exact kx_fin g6 (fun e => absurd (pTk_0.mp e).1 h) hF
theorem kx_small (hc : c 5 < 100) (hC : CUX Y J b n) (ha : a ≤ 400) (hpre : ∀ j, j < a → tkK b n j < 32) {dd : Nat} (hd : 2 ≤ dd) (hS : tS w nx ns b n Y J 22 a (nt c 5 a (99 < tkV b n a)) Kc) (hF : tF w nx ns b n Y J 22 a Kc) : EV dd 222 [.ref 3] (nx, ns, SH w, XS b n Y a c, J) Kc := by
  obtain ⟨g5, g6, -⟩ := hC a ha hpre
  have hK33 := @tkK_lt n b a
  by_cases h : tkK b n a = 22
  · have hv := tkV_lt h
    rw [e_xtakeSmall (v := tkV b n a) (z := tkK b n a) (by omega) XS_33 ha (by rw [XS_o (by decide)]; exact g5) (fun _ => cux_i hC ha hpre h) (by omega) hd]
    rw [ntX_cg (Q := 99 < tkV b n a) ⟨fun q => q.2, fun q => ⟨h, q⟩⟩, XS_nt (by decide) hc g6]
    exact kx_fin g6 hS hF
  · rw [e_xtakeSmall (v := 0) (z := tkK b n a) (by omega) XS_33 ha (by rw [XS_o (by decide)]; exact g5) (fun e => absurd e h) (by omega) hd]
    rw [ntX_f (fun e => h e.1)]
    exact kx_fin g6 (fun e => absurd (pTk_0.mp e).1 h) hF
theorem e_xagn (hc : c 5 < 100) (hC : CUX Y J b n) (ha : a ≤ 400) (hpre : ∀ j, j < a → tkK b n j < 32) {x : List Nat} (hx : ltok x) {dd : Nat} (hd : 2 ≤ dd) (hK : tkK b n a = 21 → Kc none (nx, ns, SH w, XS b n Y a (nt c 3 a (tkL b n a = x)), J)) (hK2 : ¬ tkK b n a = 21 → Kc none (nx, ns, SH w, XS b n Y a c, J)) : EV dd 223 [.ref 3, .long (lN (enc 32 x))] (nx, ns, SH w, XS b n Y a c, J) Kc := by
  obtain ⟨g5, g6, -⟩ := hC a ha hpre
  have hK33 := @tkK_lt n b a
  rw [e_xagain XS_33 ha (z := tkK b n a) (by omega) (by rw [XS_o (by decide)]; exact g5) hd]
  by_cases h : tkK b n a = 21
  · rw [ntX_cg (Q := tkL b n a = x) (by
      rw [cux_v hC ha hpre h, enc_eq (by omega) (by omega) (tkL_ok (by omega)) hx]
      exact ⟨fun q => q.2, fun q => ⟨h, q⟩⟩), XS_nt (by decide) hc g6]
    exact hK h
  · rw [ntX_f (fun e => h e.1)]
    exact hK2 h
end Qo
