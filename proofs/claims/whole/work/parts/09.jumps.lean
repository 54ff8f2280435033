/-! ===== Jumps ===== -/
section MMJ
variable {p : Program} {l : Launch} {e : Env} {R : Room} {s : State} {m : MethodId} {args : Array Value} {below : List Frame} {meth : Method} {c : Code} {Z : State → Prop} {cc : ByteArray} {own mn : String} {nL : Nat} {D : va_G} {cs : Nat → ClassId} {b : Nat} {ad : Nat → Nat} {n0 s0 : Nat}
variable {pc : Nat} {L : mm_L} {st st' : List Value} {u : mm_M} {lab : Nat → Nat} {b' b1 b2 : Nat}
theorem mm_j1 (X : mm_C p s m args meth c cc own mn nL D cs b ad) {f : Nat} (hf : f < 6) (hd : mjc_1 lab f b1 b2 pc (decode cc pc) = true) (hs : mj_1 f b1 b2 st = some (b', st')) (k : mm_G p l e R s m args below meth c Z nL D cs b ad n0 s0 (lab b') L st' u) : mm_G p l e R s m args below meth c Z nL D cs b ad n0 s0 pc L st u := by
  obtain ⟨hx, hb, hml, hown, hts, hK, had, hmn, hbs⟩ := X
  intro h1 h2 H locs ls hR hS hl
  have kk := k h1 h2 H locs ls hR hS hl
  unfold mjc_1 at hd
  split at hd
  · rename_i cn off hdg
    simp only [Bool.and_eq_true, decide_eq_true_eq] at hd
    obtain ⟨⟨rfl, hd1⟩, hd2⟩ := hd
    unfold mj_1 at hs
    split at hs
    · cases hs
      match f, hf with
      | 0, _ => exact lv_if_eq hx hb hdg hd1 (fun h => by simpa [mm_cmp, h] using kk) (fun h => by rw [← hd2]; simpa [mm_cmp, h] using kk)
      | 1, _ => exact lv_if_ne hx hb hdg hd1 (fun h => by simpa [mm_cmp, h] using kk) (fun h => by rw [← hd2]; simpa [mm_cmp, h] using kk)
      | 2, _ => exact lv_if_lt hx hb hdg hd1 (fun h => by simpa [mm_cmp, h] using kk) (fun h => by rw [← hd2]; simpa [mm_cmp, h] using kk)
      | 3, _ => exact lv_if_ge hx hb hdg hd1 (fun h => by simpa [mm_cmp, h] using kk) (fun h => by rw [← hd2]; simpa [mm_cmp, h] using kk)
      | 4, _ => exact lv_if_gt hx hb hdg hd1 (fun h => by simpa [mm_cmp, h] using kk) (fun h => by rw [← hd2]; simpa [mm_cmp, h] using kk)
      | 5, _ => exact lv_if_le hx hb hdg hd1 (fun h => by simpa [mm_cmp, h] using kk) (fun h => by rw [← hd2]; simpa [mm_cmp, h] using kk)
    · cases hs
  · cases hd
theorem mm_j2 (X : mm_C p s m args meth c cc own mn nL D cs b ad) {f : Nat} (hf : f < 6) (hd : mjc_2 lab f b1 b2 pc (decode cc pc) = true) (hs : mj_2 f b1 b2 st = some (b', st')) (k : mm_G p l e R s m args below meth c Z nL D cs b ad n0 s0 (lab b') L st' u) : mm_G p l e R s m args below meth c Z nL D cs b ad n0 s0 pc L st u := by
  obtain ⟨hx, hb, hml, hown, hts, hK, had, hmn, hbs⟩ := X
  intro h1 h2 H locs ls hR hS hl
  have kk := k h1 h2 H locs ls hR hS hl
  unfold mjc_2 at hd
  split at hd
  · rename_i cn off hdg
    simp only [Bool.and_eq_true, decide_eq_true_eq] at hd
    obtain ⟨⟨rfl, hd1⟩, hd2⟩ := hd
    unfold mj_2 at hs
    split at hs
    · cases hs
      match f, hf with
      | 0, _ => exact lv_icmp_eq hx hb hdg hd1 (fun h => by simpa [mm_cmp, h] using kk) (fun h => by rw [← hd2]; simpa [mm_cmp, h] using kk)
      | 1, _ => exact lv_icmp_ne hx hb hdg hd1 (fun h => by simpa [mm_cmp, h] using kk) (fun h => by rw [← hd2]; simpa [mm_cmp, h] using kk)
      | 2, _ => exact lv_icmp_lt hx hb hdg hd1 (fun h => by simpa [mm_cmp, h] using kk) (fun h => by rw [← hd2]; simpa [mm_cmp, h] using kk)
      | 3, _ => exact lv_icmp_ge hx hb hdg hd1 (fun h => by simpa [mm_cmp, h] using kk) (fun h => by rw [← hd2]; simpa [mm_cmp, h] using kk)
      | 4, _ => exact lv_icmp_gt hx hb hdg hd1 (fun h => by simpa [mm_cmp, h] using kk) (fun h => by rw [← hd2]; simpa [mm_cmp, h] using kk)
      | 5, _ => exact lv_icmp_le hx hb hdg hd1 (fun h => by simpa [mm_cmp, h] using kk) (fun h => by rw [← hd2]; simpa [mm_cmp, h] using kk)
    · cases hs
  · cases hd
theorem mm_j3 (X : mm_C p s m args meth c cc own mn nL D cs b ad) {n : Nat} {lo : Int} {b0 : Nat} (hd : mjc_3 lab b0 n lo pc (decode cc pc) = true) (hs : mj_3 b0 n lo st = some (b', st')) (k : mm_G p l e R s m args below meth c Z nL D cs b ad n0 s0 (lab b') L st' u) : mm_G p l e R s m args below meth c Z nL D cs b ad n0 s0 pc L st u := by
  obtain ⟨hx, hb, hml, hown, hts, hK, had, hmn, hbs⟩ := X
  intro h1 h2 H locs ls hR hS hl
  have kk := k h1 h2 H locs ls hR hS hl
  unfold mjc_3 at hd
  split at hd
  · rename_i dflt lo2 hi offs len hdg
    simp only [Bool.and_eq_true, decide_eq_true_eq] at hd
    obtain ⟨⟨⟨rfl, hd1⟩, hd2⟩, hd3⟩ := hd
    unfold mj_3 at hs
    split at hs
    · rename_i x st2
      cases hs
      by_cases hc : x.toInt < lo2 ∨ lo2 + (n : Int) ≤ x.toInt
      · rw [if_pos hc] at kk
        exact lv_tableOut hx hb hdg (by omega) hd2 kk
      · rw [if_neg hc] at kk
        have hk := List.all_eq_true.mp hd3 (x.toInt - lo2).toNat (List.mem_range.mpr (by omega))
        unfold mjc_4 at hk
        split at hk
        · rename_i off ho
          simp only [decide_eq_true_eq] at hk
          exact lv_tableIn hx hb hdg (by omega) (by omega) ho hk kk
        · cases hk
    · cases hs
  · cases hd
theorem mm_jok (X : mm_C p s m args meth c cc own mn nL D cs b ad) {i : mm_I} (hd : mm_jck lab i pc (decode cc pc) = true) (hs : mm_jmp i st = some (b', st')) (k : mm_G p l e R s m args below meth c Z nL D cs b ad n0 s0 (lab b') L st' u) : mm_G p l e R s m args below meth c Z nL D cs b ad n0 s0 pc L st u := by
  obtain ⟨op, x1, x2, x3⟩ := i
  unfold mm_jmp at hs
  dsimp only at hs
  split at hs
  · cases hs
    replace hd : mjc_0 lab b' pc (decode cc pc) = true := hd
    unfold mjc_0 at hd
    split at hd
    · rename_i off hdg
      simp only [decide_eq_true_eq] at hd
      obtain ⟨hx, hb, hml, hown, hts, hK, had, hmn, hbs⟩ := X
      intro h1 h2 H locs ls hR hS hl
      exact lv_goto hx hb hdg hd (k h1 h2 H locs ls hR hS hl)
    · cases hd
  · cases hs
    replace hd : decide (lab b' = pc) = true := hd
    simp only [decide_eq_true_eq] at hd
    rw [hd] at k
    exact k
  · exact mm_j1 (f := 0) X (by omega) hd hs k
  · exact mm_j1 (f := 1) X (by omega) hd hs k
  · exact mm_j1 (f := 2) X (by omega) hd hs k
  · exact mm_j1 (f := 3) X (by omega) hd hs k
  · exact mm_j1 (f := 4) X (by omega) hd hs k
  · exact mm_j1 (f := 5) X (by omega) hd hs k
  · exact mm_j3 X hd hs k
  · exact mm_j2 (f := 0) X (by omega) hd hs k
  · exact mm_j2 (f := 1) X (by omega) hd hs k
  · exact mm_j2 (f := 2) X (by omega) hd hs k
  · exact mm_j2 (f := 3) X (by omega) hd hs k
  · exact mm_j2 (f := 4) X (by omega) hd hs k
  · exact mm_j2 (f := 5) X (by omega) hd hs k
  · cases hs
/-- the text constants: what the kit's own rows must give of ldc, charAt, indexOf -/
def mm_Str (p : Program) (l : Launch) (e : Env) (R : Room) (s : State) (m : MethodId) (args : Array Value) (below : List Frame) (meth : Method) (c : Code) (Z : State → Prop) (cc : ByteArray) (own mn : String) (nL : Nat) (D : va_G) (cs : Nat → ClassId) (b : Nat) (ad : Nat → Nat) (n0 s0 : Nat) : Prop :=
  ∀ (op x1 x2 : Nat) (x3 : Int) (pc len : Nat) (L L' : mm_L) (st st' : List Value) (u u' : mm_M), (op = 9 ∨ op = 41 ∨ op = 42) → (u.1 - n0 ≤ R.cells ∧ u.2.1 - s0 ≤ R.slots) → mm_one own mn (op, x1, x2, x3) (decode cc pc) = some len → mm_stp (op, x1, x2, x3) L st u = some (L', st', u') →
    mm_G p l e R s m args below meth c Z nL D cs b ad n0 s0 (pc + len) L' st' u' → mm_G p l e R s m args below meth c Z nL D cs b ad n0 s0 pc L st u
theorem mm_same9 {n0 s0 : Nat} {R : Room} {x1 x2 : Nat} {x3 : Int} {L L' : mm_L} {st st' : List Value} {u u' : mm_M} (hs : mm_stp (9, x1, x2, x3) L st u = some (L', st', u')) (h : u'.1 - n0 ≤ R.cells ∧ u'.2.1 - s0 ≤ R.slots) : u.1 - n0 ≤ R.cells ∧ u.2.1 - s0 ≤ R.slots := by
  replace hs : ms_9 x1 x2 x3 L st u = some (L', st', u') := hs
  unfold ms_9 at hs
  repeat' split at hs
  all_goals first | (cases hs; done) | (cases hs; exact h)
theorem mm_same41 {n0 s0 : Nat} {R : Room} {x1 x2 : Nat} {x3 : Int} {L L' : mm_L} {st st' : List Value} {u u' : mm_M} (hs : mm_stp (41, x1, x2, x3) L st u = some (L', st', u')) (h : u'.1 - n0 ≤ R.cells ∧ u'.2.1 - s0 ≤ R.slots) : u.1 - n0 ≤ R.cells ∧ u.2.1 - s0 ≤ R.slots := by
  replace hs : ms_41 x1 x2 x3 L st u = some (L', st', u') := hs
  unfold ms_41 at hs
  repeat' split at hs
  all_goals first | (cases hs; done) | (cases hs; exact h)
theorem mm_same42 {n0 s0 : Nat} {R : Room} {x1 x2 : Nat} {x3 : Int} {L L' : mm_L} {st st' : List Value} {u u' : mm_M} (hs : mm_stp (42, x1, x2, x3) L st u = some (L', st', u')) (h : u'.1 - n0 ≤ R.cells ∧ u'.2.1 - s0 ≤ R.slots) : u.1 - n0 ≤ R.cells ∧ u.2.1 - s0 ≤ R.slots := by
  replace hs : ms_42 x1 x2 x3 L st u = some (L', st', u') := hs
  unfold ms_42 at hs
  repeat' split at hs
  all_goals first | (cases hs; done) | (cases hs; exact h)
theorem mm_sok (X : mm_C p s m args meth c cc own mn nL D cs b ad) (hstr : mm_Str p l e R s m args below meth c Z cc own mn nL D cs b ad n0 s0) (hrm : 10 ≤ R.frames ∧ 200 ≤ R.locals) {i : mm_I} {len : Nat} {L' : mm_L} {u' : mm_M} (hroom : u'.1 - n0 ≤ R.cells ∧ u'.2.1 - s0 ≤ R.slots) (hd : mm_one own mn i (decode cc pc) = some len) (hs : mm_stp i L st u = some (L', st', u')) (k : mm_G p l e R s m args below meth c Z nL D cs b ad n0 s0 (pc + len) L' st' u') : mm_G p l e R s m args below meth c Z nL D cs b ad n0 s0 pc L st u := by
  obtain ⟨op, x1, x2, x3⟩ := i
  have hs0 := hs
  unfold mm_stp at hs
  dsimp only at hs
  split at hs
  · exact mm_k0 X hd hs0 k
  · exact mm_k1 X hd hs0 k
  · exact mm_k2 X hd hs0 k
  · exact mm_k3 X hd hs0 k
  · exact mm_k4 X hd hs0 k
  · exact mm_k5 X hd hs0 k
  · exact mm_k6 X hd hs0 k
  · exact mm_k7 X hd hs0 k
  · exact mm_k8 X hd hs0 k
  · exact hstr 9 _ _ _ _ _ _ _ _ _ _ _ (by omega) (mm_same9 hs0 hroom) hd hs0 k
  · exact mm_k10 X hd hs0 k
  · exact mm_k11 X hd hs0 k
  · exact mm_k12 X hd hs0 k
  · exact mm_k13 X hd hs0 k
  · exact mm_k14 X hd hs0 k
  · exact mm_k15 X hd hs0 k
  · exact mm_k16 X hd hs0 k
  · exact mm_k17 X hd hs0 k
  · exact mm_k18 X hd hs0 k
  · exact mm_k19 X hd hs0 k
  · exact mm_k20 X hd hs0 k
  · exact mm_k21 X hd hs0 k
  · exact mm_k22 X hd hs0 k
  · exact mm_k23 X hd hs0 k
  · exact mm_k24 X hd hs0 k
  · exact mm_k25 X hd hs0 k
  · exact mm_k26 X hd hs0 k
  · exact mm_k27 X hd hs0 k
  · exact mm_k28 X hd hs0 k
  · exact mm_k29 X hd hs0 k
  · exact mm_k30 X hd hs0 k
  · exact mm_k31 X hd hs0 k
  · exact mm_k32 X hd hs0 k
  · exact mm_k33 X hd hs0 k
  · exact mm_k34 X hd hs0 k
  · exact mm_k35 X hd hs0 k
  · exact mm_k36 X hd hs0 hroom k
  · exact mm_k37 X hd hs0 hroom k
  · exact mm_k38 X hd hs0 hroom k
  · exact mm_k39 X hd hs0 hrm k
  · exact mm_k40 X hd hs0 hrm k
  · exact hstr 41 _ _ _ _ _ _ _ _ _ _ _ (by omega) (mm_same41 hs0 hroom) hd hs0 k
  · exact hstr 42 _ _ _ _ _ _ _ _ _ _ _ (by omega) (mm_same42 hs0 hroom) hd hs0 k
  · exact mm_k43 X hd hs0 hroom hrm k
  · exact mm_k44 X hd hs0 hroom hrm k
  · cases hs
end MMJ
