/-! ===== The law: a call on any arguments ===== -/
section Sm
variable {p : Program} {l : Launch} {e : Env} {R : Room} {s : State} {m : MethodId} {args : Array Value} {below : List Frame} {meth : Method} {c : Code} {Z : State → Prop} {cc : ByteArray} {own mn : String} {nL : Nat} {D : va_G} {cs : Nat → ClassId} {b : Nat} {ad : Nat → Nat} {n0 s0 : Nat} {pc n : Nat} {L : mm_L} {u : mm_M} {SW : State → Prop} {tb : Nat → Option mm_T} {lab : Nat → Nat → Nat} {as : List Value}
theorem as_take {q : Nat} {rest : List Value} (hn : as.length = n) : ((as.reverse ++ (.ref q :: rest)).take (n + 1)).reverse = .ref q :: as ∧ (as.reverse ++ (.ref q :: rest)).drop (n + 1) = rest := by
  have e : as.reverse ++ (.ref q :: rest) = (as.reverse ++ [.ref q]) ++ rest := by simp
  have hl : (as.reverse ++ [Value.ref q]).length = n + 1 := by simp [hn]
  rw [e, List.take_left' hl, List.drop_left' hl]
  exact ⟨by simp, rfl⟩
theorem lw_callA {d y w9 q rc : Nat} {t : mm_T} {v : Option Value} {u1 : mm_M} {rest : List Value} (hn : as.length = n) (X : mm_C p s m args meth c cc own mn nL D cs b ad) (hN : mm_N s) (hsw : SW s) (hSW : mm_SWok l D cs b ad SW) (hT : mm_Tab tb mm_nf mm_Cd mm_Ml lab) (ht : tb y = some t) (hnf : mm_nf y = (n + 1, 1, rc)) (hcc : mm_cck own t w9 (decode cc pc) = true) (hRf : d + 11 ≤ R.frames ∧ 40 * d + 440 ≤ R.locals) (hroom : u1.1 - n0 ≤ R.cells ∧ u1.2.1 - s0 ≤ R.slots) (hcl : mm_cl u q rc) (hr : (rest.map fun x => x.category).sum ≤ 8) (h4 : mm_E d y (.ref q :: as) u v u1) (k : mm_G p l e R s m args below meth c Z nL D cs b ad n0 s0 (pc + 3) L (v.toList ++ rest) u1) : mm_G p l e R s m args below meth c Z nL D cs b ad n0 s0 pc L (as.reverse ++ (.ref q :: rest)) u := by
  obtain ⟨cw, tck, hmL, -, e5, -, -⟩ := hT y t ht
  have e6 := hnf.symm.trans e5
  have hOk := mm_ev_ok (l := l) (D := D) (cs := cs) (b := b) (ad := ad) (SW := SW) hSW X.2.2.2.2.2.2.1 hT d
  have hmo := mm_ev_mono mm_nf mm_Cd mm_Ml d _ _ _ _ _ h4
  obtain ⟨s1, s2⟩ := as_take (q := q) (rest := rest) hn
  obtain ⟨-, ks, hks⟩ := hcl
  refine mm_call (v1 := v) (na := n + 1) (kd := 1) (rc := rc) X hN hsw hSW hOk ht cw tck hcc (congrArg Prod.fst e6) (congrArg (fun x => x.2.1) e6) (congrArg (fun x => x.2.2) e6) hmL hRf hroom hmo.1 hmo.2 ?_ ?_ ?_ ?_ ?_
  · simp [hn]
  · rw [s1]
    show (match u.2.2.1 q with | .inl (ci, _) => decide (ci = rc) | _ => false) = true
    rw [hks]
    exact decide_eq_true rfl
  · rw [s2]; exact hr
  · rw [s1]; exact h4
  · rw [s2]; exact k
end Sm
