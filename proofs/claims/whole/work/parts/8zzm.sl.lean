/-! ===== The law: tell ===== -/
section Sl
variable {p : Program} {l : Launch} {e : Env} {R : Room} {s : State} {m : MethodId} {args : Array Value} {below : List Frame} {meth : Method} {c : Code} {Z : State → Prop} {cc : ByteArray} {own mn : String} {nL : Nat} {D : va_G} {cs : Nat → ClassId} {b : Nat} {ad : Nat → Nat} {n0 s0 : Nat} {pc : Nat} {L : mm_L} {st : List Value} {u : mm_M}
/-- x != 0 -/
def bnz (x : Int32) : Int32 := if x = 0 then nI 0 else nI 1
theorem bnz_or {x : Int32} : bnz x = nI 0 ∨ bnz x = nI 1 := by
  unfold bnz
  by_cases h : x = 0
  · rw [if_pos h]; exact Or.inl rfl
  · rw [if_neg h]; exact Or.inr rfl
/-- ifeq, iconst_1, goto, iconst_0 -/
theorem lw_bz {x : Int32} (X : mm_C p s m args meth c cc own mn nL D cs b ad) (hstr : mm_Str p l e R s m args below meth c Z cc own mn nL D cs b ad n0 s0) (hrm : 10 ≤ R.frames ∧ 200 ≤ R.locals) (hroom : u.1 - n0 ≤ R.cells ∧ u.2.1 - s0 ≤ R.slots) (c1 : mm_jck (fun k => if k = 0 then pc + 7 else pc + 3) (52, 0, 1, 0) pc (decode cc pc) = true) (c2 : mm_one own mn (7, 0, 0, 1) (decode cc (pc + 3)) = some 1) (c3 : mm_jck (fun _ => pc + 8) (50, 0, 0, 0) (pc + 3 + 1) (decode cc (pc + 3 + 1)) = true) (c4 : mm_one own mn (7, 0, 0, 0) (decode cc (pc + 7)) = some 1) (h : mm_G p l e R s m args below meth c Z nL D cs b ad n0 s0 (pc + 8) L (.int (bnz x) :: st) u) : mm_G p l e R s m args below meth c Z nL D cs b ad n0 s0 pc L (.int x :: st) u := by
  by_cases hx : x = 0
  · have e1 : bnz x = nI 0 := if_pos hx
    rw [e1] at h
    refine mm_jok X c1 (b' := 0) (st' := st) ?_ ?_
    · show mj_1 0 0 1 (.int x :: st) = some (0, st)
      simp [mj_1, mm_cmp, hx]
    · show mm_G p l e R s m args below meth c Z nL D cs b ad n0 s0 (pc + 7) L st u
      exact mm_sok X hstr hrm hroom c4 rfl h
  · have e1 : bnz x = nI 1 := if_neg hx
    rw [e1] at h
    refine mm_jok X c1 (b' := 1) (st' := st) ?_ ?_
    · show mj_1 0 0 1 (.int x :: st) = some (1, st)
      simp [mj_1, mm_cmp, hx]
    · show mm_G p l e R s m args below meth c Z nL D cs b ad n0 s0 (pc + 3) L st u
      refine mm_sok X hstr hrm hroom c2 rfl ?_
      exact mm_jok X c3 (b' := 0) rfl h
end Sl
