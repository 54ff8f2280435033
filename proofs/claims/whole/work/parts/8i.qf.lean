/-! ===== The reference: a name that is new ===== -/
section Qf
variable {w : Bool} {nx ns : Nat} {I X Y : Nat → Nat → Int32} {J : Nat → Nat → Int64} {n k t p z m fv kk : Nat} {b : Nat → Nat} {x : Int64}
theorem c_mwrongA {v : Nat} (hv : ¬ nI v = nI 0) (h13 : Y 323 13 = nI 0) (hO : ¬ Y 323 15 = nI 0 → Y 323 16 < Y 327 t) (ht : t ≤ 400) : RT 1 70 [.ref 323, .int (nI v), .int (nI t)] (nx, ns, SH w, wrM Y t v True, J) none (nx, ns, SH w, wrM Y t v True, J) := by
  by_cases h4 : Y 323 15 = nI 0
  · have e : wrM Y t v True = mm_up Y 323 (mm_up (mm_up (Y 323) 15 (nI v)) 16 (Y 327 t)) := if_pos ⟨trivial, h4⟩
    rw [e]
    exact c_mwrong2 h13 hv rfl Int32.lt_irrefl ht
  · have e : wrM Y t v True = Y := if_neg (fun h => h4 h.2)
    rw [e]
    exact c_mwrong1 h13 h4 (hO h4) ht
theorem e_mwrongA {v : Nat} (hv : ¬ nI v = nI 0) (h13 : Y 323 13 = nI 0) (hO : ¬ Y 323 15 = nI 0 → Y 323 16 < Y 327 t) (ht : t ≤ 400) {dd : Nat} {QQ : Option Value → mm_M → Prop} (hdd : 1 ≤ dd) : EV dd 70 [.ref 323, .int (nI v), .int (nI t)] (nx, ns, SH w, wrM Y t v True, J) QQ ↔ QQ none (nx, ns, SH w, wrM Y t v True, J) := (c_mwrongA hv h13 hO ht).ev hdd
theorem c_mwrongB {v : Nat} {c : Prop} [Decidable c] (hv : ¬ nI v = nI 0) (h13 : Y 323 13 = nI 0) (hO : ¬ Y 323 15 = nI 0 → Y 323 16 < Y 327 t) (ht : t ≤ 400) : RT 1 70 [.ref 323, .int (nI v), .int (nI t)] (nx, ns, SH w, wrM Y t v c, J) none (nx, ns, SH w, wrM Y t v True, J) := by
  by_cases h : c
  · rw [wrM_t h]; exact c_mwrongA hv h13 hO ht
  · rw [wrM_f h]; exact c_mwrong h13 hO ht
theorem e_mwrongB {v : Nat} {c : Prop} [Decidable c] (hv : ¬ nI v = nI 0) (h13 : Y 323 13 = nI 0) (hO : ¬ Y 323 15 = nI 0 → Y 323 16 < Y 327 t) (ht : t ≤ 400) {dd : Nat} {QQ : Option Value → mm_M → Prop} (hdd : 1 ≤ dd) : EV dd 70 [.ref 323, .int (nI v), .int (nI t)] (nx, ns, SH w, wrM Y t v c, J) QQ ↔ QQ none (nx, ns, SH w, wrM Y t v True, J) := (c_mwrongB hv h13 hO ht).ev hdd
end Qf
