/-! ===== The law: steps over the script ===== -/
section Sg
variable {p : Program} {l : Launch} {e : Env} {R : Room} {s : State} {m : MethodId} {args : Array Value} {below : List Frame} {meth : Method} {c : Code} {Z : State → Prop} {cc : ByteArray} {own mn : String} {nL : Nat} {D : va_G} {cs : Nat → ClassId} {b : Nat} {ad : Nat → Nat} {n0 s0 : Nat} {pc bs Ls i j n : Nat} {xs : Nat → Int32} {L : mm_L} {st : List Value} {u : mm_M} {SW : State → Prop} {x1 x2 : Value}
theorem lw_ld (X : mm_C p s m args meth c cc own mn nL D cs b ad) (hX : va_X bs Ls xs s s.heap) (hbl : bs < s.heap.size) (hb : b = s.heap.size) (had : ad 1000002 = bs) {k : Int32} (hin : vp_in k Ls) (hdg : decode cc pc = .ok (.iaload, 1)) (h : mm_G p l e R s m args below meth c Z nL D cs b ad n0 s0 (pc + 1) L (.int (xs k.toNatClampNeg) :: st) u) : mm_G p l e R s m args below meth c Z nL D cs b ad n0 s0 pc L (.int k :: .ref 1000002 :: st) u := by
  intro g1 g2 H locs ls hR hS hl
  obtain ⟨hx, hcb, -⟩ := X
  have hbA : ¬ b ≤ bs := by omega
  have h2 := h g1 g2 H locs ls hR hS hl
  show W p l e R s m args below meth c H locs _ _ Z (F0 m pc ls (.int k :: .ref (ad 1000002) :: st.map (mm_tr ad)))
  rw [had]
  exact va_sld hx hcb hX hbl hbA hS hin hdg h2
theorem lw_len (X : mm_C p s m args meth c cc own mn nL D cs b ad) (hX : va_X bs Ls xs s s.heap) (hbl : bs < s.heap.size) (hb : b = s.heap.size) (had : ad 1000002 = bs) (hdg : decode cc pc = .ok (.arraylength, 1)) (h : mm_G p l e R s m args below meth c Z nL D cs b ad n0 s0 (pc + 1) L (.int (nI Ls) :: st) u) : mm_G p l e R s m args below meth c Z nL D cs b ad n0 s0 pc L (.ref 1000002 :: st) u := by
  intro g1 g2 H locs ls hR hS hl
  obtain ⟨hx, hcb, -⟩ := X
  have hbA : ¬ b ≤ bs := by omega
  have h2 := h g1 g2 H locs ls hR hS hl
  show W p l e R s m args below meth c H locs _ _ Z (F0 m pc ls (.ref (ad 1000002) :: st.map (mm_tr ad)))
  rw [had]
  exact va_slen hx hcb hX hbl hbA hS hdg h2
/-- the arguments: n ints behind place i -/
def sgs (xs : Nat → Int32) (i : Nat) : Nat → List Value
  | 0 => []
  | n + 1 => sgs xs i n ++ [.int (xs (i + (n + 1)))]
/-- an argument's five instructions -/
def lw_c5 (own mn : String) (cc : ByteArray) (pc j : Nat) : Prop := mm_one own mn (2, 0, 0, 0) (decode cc pc) = some 1 ∧ mm_one own mn (0, 3, 0, 0) (decode cc (pc + 1)) = some 1 ∧ mm_one own mn (7, 0, 0, (j : Int)) (decode cc (pc + 1 + 1)) = some 1 ∧ mm_one own mn (13, 0, 0, 0) (decode cc (pc + 1 + 1 + 1)) = some 1 ∧ decode cc (pc + 1 + 1 + 1 + 1) = .ok (.iaload, 1)
theorem lw_arg (X : mm_C p s m args meth c cc own mn nL D cs b ad) (hstr : mm_Str p l e R s m args below meth c Z cc own mn nL D cs b ad n0 s0) (hrm : 10 ≤ R.frames ∧ 200 ≤ R.locals) (hroom : u.1 - n0 ≤ R.cells ∧ u.2.1 - s0 ≤ R.slots) (hX : va_X bs Ls xs s s.heap) (hbl : bs < s.heap.size) (hb : b = s.heap.size) (had : ad 1000002 = bs) (hL3 : Ls ≤ 3072) (hi : i + j < Ls) (hj : j < 6) (hc : lw_c5 own mn cc pc j) (h : mm_G p l e R s m args below meth c Z nL D cs b ad n0 s0 (pc + 5) [some (.ref 1000002), some x1, some x2, some (.int (nI i))] (.int (xs (i + j)) :: st) u) : mm_G p l e R s m args below meth c Z nL D cs b ad n0 s0 pc [some (.ref 1000002), some x1, some x2, some (.int (nI i))] st u := by
  obtain ⟨c1, c2, c3, c4, c5⟩ := hc
  refine mm_sok X hstr hrm hroom c1 rfl ?_
  refine mm_sok X hstr hrm hroom c2 rfl ?_
  refine mm_sok X hstr hrm hroom c3 rfl ?_
  refine mm_sok X hstr hrm hroom c4 rfl ?_
  have e1 : mm_ibin 0 (nI i) (Int32.ofInt (j : Int)) = nI (i + j) := by
    show nI i + Int32.ofInt (j : Int) = _
    rw [show Int32.ofInt (j : Int) = nI j from rfl, nI_add]
  rw [e1]
  refine lw_ld X hX hbl hb had (vp_in_nI hi (by omega)) c5 ?_
  rw [nI_clamp (by omega)]
  exact h
end Sg
