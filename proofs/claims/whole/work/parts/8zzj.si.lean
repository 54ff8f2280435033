/-! ===== The law: a case ===== -/
section Si
variable {p : Program} {l : Launch} {e : Env} {R : Room} {s : State} {m : MethodId} {args : Array Value} {below : List Frame} {meth : Method} {c : Code} {Z : State → Prop} {cc : ByteArray} {own mn : String} {nL : Nat} {D : va_G} {cs : Nat → ClassId} {b : Nat} {ad : Nat → Nat} {n0 s0 : Nat} {pc bs Ls i j n : Nat} {xs : Nat → Int32} {L : mm_L} {st : List Value} {u : mm_M} {SW : State → Prop} {x1 x2 : Value} {tb : Nat → Option mm_T} {lab : Nat → Nat → Nat}
theorem sgs_len : (sgs xs i n).length = n := by
  induction n with
  | zero => rfl
  | succ n ih => simp [sgs, ih]
theorem lw_args (X : mm_C p s m args meth c cc own mn nL D cs b ad) (hstr : mm_Str p l e R s m args below meth c Z cc own mn nL D cs b ad n0 s0) (hrm : 10 ≤ R.frames ∧ 200 ≤ R.locals) (hroom : u.1 - n0 ≤ R.cells ∧ u.2.1 - s0 ≤ R.slots) (hX : va_X bs Ls xs s s.heap) (hbl : bs < s.heap.size) (hb : b = s.heap.size) (had : ad 1000002 = bs) (hL3 : Ls ≤ 3072) : ∀ n, n < 6 → i + n < Ls → (∀ j, j < n → lw_c5 own mn cc (pc + 5 * j) (j + 1)) → mm_G p l e R s m args below meth c Z nL D cs b ad n0 s0 (pc + 5 * n) [some (.ref 1000002), some x1, some x2, some (.int (nI i))] ((sgs xs i n).reverse ++ st) u → mm_G p l e R s m args below meth c Z nL D cs b ad n0 s0 pc [some (.ref 1000002), some x1, some x2, some (.int (nI i))] st u := by
  intro n
  induction n with
  | zero => intro _ _ _ h; exact h
  | succ n ih =>
    intro hn hi hc h
    refine ih (by omega) (by omega) (fun j hj => hc j (by omega)) ?_
    refine lw_arg (j := n + 1) X hstr hrm hroom hX hbl hb had hL3 hi hn (hc n (by omega)) ?_
    have e : (sgs xs i (n + 1)).reverse ++ st = .int (xs (i + (n + 1))) :: ((sgs xs i n).reverse ++ st) := by simp [sgs]
    rw [e] at h
    exact h
theorem sg_take {q : Nat} {rest : List Value} : (((sgs xs i n).reverse ++ (.ref q :: rest)).take (n + 1)).reverse = .ref q :: sgs xs i n ∧ ((sgs xs i n).reverse ++ (.ref q :: rest)).drop (n + 1) = rest := by
  have e : (sgs xs i n).reverse ++ (.ref q :: rest) = ((sgs xs i n).reverse ++ [.ref q]) ++ rest := by simp
  have hl : ((sgs xs i n).reverse ++ [Value.ref q]).length = n + 1 := by simp [sgs_len]
  rw [e, List.take_left' hl, List.drop_left' hl]
  exact ⟨by simp, rfl⟩
/-- a call of the law: a method of X or of M on the script's ints -/
theorem lw_call {d y w9 q rc : Nat} {t : mm_T} {v : Option Value} {u1 : mm_M} {rest : List Value} (X : mm_C p s m args meth c cc own mn nL D cs b ad) (hN : mm_N s) (hsw : SW s) (hSW : mm_SWok l D cs b ad SW) (hT : mm_Tab tb mm_nf mm_Cd mm_Ml lab) (ht : tb y = some t) (hnf : mm_nf y = (n + 1, 1, rc)) (hcc : mm_cck own t w9 (decode cc pc) = true) (hRf : d + 11 ≤ R.frames ∧ 40 * d + 440 ≤ R.locals) (hroom : u1.1 - n0 ≤ R.cells ∧ u1.2.1 - s0 ≤ R.slots) (hcl : mm_cl u q rc) (hr : (rest.map fun x => x.category).sum ≤ 8) (h4 : mm_E d y (.ref q :: sgs xs i n) u v u1) (k : mm_G p l e R s m args below meth c Z nL D cs b ad n0 s0 (pc + 3) L (v.toList ++ rest) u1) : mm_G p l e R s m args below meth c Z nL D cs b ad n0 s0 pc L ((sgs xs i n).reverse ++ (.ref q :: rest)) u := by
  obtain ⟨cw, tck, hmL, -, e5, -, -⟩ := hT y t ht
  have e6 := hnf.symm.trans e5
  have hOk := mm_ev_ok (l := l) (D := D) (cs := cs) (b := b) (ad := ad) (SW := SW) hSW X.2.2.2.2.2.2.1 hT d
  have hmo := mm_ev_mono mm_nf mm_Cd mm_Ml d _ _ _ _ _ h4
  obtain ⟨s1, s2⟩ := @sg_take i n xs q rest
  obtain ⟨-, ks, hks⟩ := hcl
  refine mm_call (v1 := v) (na := n + 1) (kd := 1) (rc := rc) X hN hsw hSW hOk ht cw tck hcc (congrArg Prod.fst e6) (congrArg (fun x => x.2.1) e6) (congrArg (fun x => x.2.2) e6) hmL hRf hroom hmo.1 hmo.2 ?_ ?_ ?_ ?_ ?_
  · simp [sgs_len]
  · rw [s1]
    show (match u.2.2.1 q with | .inl (ci, _) => decide (ci = rc) | _ => false) = true
    rw [hks]
    exact decide_eq_true rfl
  · rw [s2]; exact hr
  · rw [s1]; exact h4
  · rw [s2]; exact k
/-- a whole case: both answer the same, on it goes at 1444 -/
theorem lw_case {B y z w1 w2 nx ns : Nat} {w : Bool} {I : Nat → Nat → Int32} {J : Nat → Nat → Int64} {t1 t2 : mm_T} (X : mm_C p s m args meth c cc own mn nL D cs b ad) (hstr : mm_Str p l e R s m args below meth c Z cc own mn nL D cs b ad n0 s0) (hN : mm_N s) (hsw : SW s) (hSW : mm_SWok l D cs b ad SW) (hT : mm_Tab tb mm_nf mm_Cd mm_Ml lab) (hX : va_X bs Ls xs s s.heap) (hbl : bs < s.heap.size) (hb : b = s.heap.size) (had : ad 1000002 = bs) (hL3 : Ls ≤ 3072) (hR : 60 ≤ R.frames ∧ 3000 ≤ R.locals) (hnx : 370 ≤ nx) (hroom : nx - n0 ≤ R.cells ∧ ns - s0 ≤ R.slots) (ht1 : tb y = some t1) (ht2 : tb z = some t2) (hn1 : mm_nf y = (n + 1, 1, 11)) (hn2 : mm_nf z = (n + 1, 1, 12)) (hn : n < 6) (hi : i + n < Ls)
    (ca : mm_one own mn (2, 1, 0, 0) (decode cc pc) = some 1) (cx : ∀ j, j < n → lw_c5 own mn cc (pc + 1 + 5 * j) (j + 1)) (cy : mm_cck own t1 w1 (decode cc (pc + 1 + 5 * n)) = true) (cb : mm_one own mn (2, 2, 0, 0) (decode cc (pc + 1 + 5 * n + 3)) = some 1) (cm : ∀ j, j < n → lw_c5 own mn cc (pc + 1 + 5 * n + 3 + 1 + 5 * j) (j + 1)) (cz : mm_cck own t2 w2 (decode cc (pc + 1 + 5 * n + 3 + 1 + 5 * n)) = true) (cj : mm_jck (fun k => if k = 0 then 1444 else pc + 1 + 5 * n + 3 + 1 + 5 * n + 3 + 3) (60, 0, 1, 0) (pc + 1 + 5 * n + 3 + 1 + 5 * n + 3) (decode cc (pc + 1 + 5 * n + 3 + 1 + 5 * n + 3)) = true)
    (hP : PP B 40 y z (sgs xs i n) (nx, ns, SH w, I, J)) (k : ∀ w I J, IV (B + 60) w I J → mm_G p l e R s m args below meth c Z nL D cs b ad n0 s0 1444 [some (.ref 1000002), some (.ref 0), some (.ref 323), some (.int (nI i))] [] (nx, ns, SH w, I, J)) : mm_G p l e R s m args below meth c Z nL D cs b ad n0 s0 pc [some (.ref 1000002), some (.ref 0), some (.ref 323), some (.int (nI i))] [] (nx, ns, SH w, I, J) := by
  obtain ⟨v, u1, h1, a, rfl, v2, u2, h2, rfl, w3, I3, J3, rfl, hIV⟩ := hP
  have hm1 := mm_ev_mono mm_nf mm_Cd mm_Ml 40 _ _ _ _ _ h1
  have hm2 := mm_ev_mono mm_nf mm_Cd mm_Ml 40 _ _ _ _ _ h2
  have q1 : u1.1 ≤ nx := hm2.1
  have q2 : u1.2.1 ≤ ns := hm2.2
  have q3 : nx ≤ u1.1 := hm1.1
  have hr1 : u1.1 - n0 ≤ R.cells ∧ u1.2.1 - s0 ≤ R.slots := ⟨by omega, by omega⟩
  have hc0 : mm_cl (nx, ns, SH w, I, J) 0 11 := ⟨by show 0 < nx; omega, _, rfl⟩
  have hc1 : mm_cl (nx, ns, SH w, I, J) 323 12 := ⟨by show 323 < nx; omega, _, rfl⟩
  have hc2 : mm_cl u1 323 12 := mm_ev_cls mm_nf mm_Cd mm_Ml 40 _ _ _ _ _ _ _ h1 hc1
  refine mm_sok X hstr ⟨by omega, by omega⟩ hroom ca rfl ?_
  refine lw_args X hstr ⟨by omega, by omega⟩ hroom hX hbl hb had hL3 n hn hi cx ?_
  refine lw_call X hN hsw hSW hT ht1 hn1 cy ⟨by omega, by omega⟩ hr1 hc0 (by show 0 ≤ 8; omega) h1 ?_
  refine mm_sok X hstr ⟨by omega, by omega⟩ hr1 cb rfl ?_
  refine lw_args X hstr ⟨by omega, by omega⟩ hr1 hX hbl hb had hL3 n hn hi cm ?_
  refine lw_call X hN hsw hSW hT ht2 hn2 cz ⟨by omega, by omega⟩ hroom hc2 (by show 1 ≤ 8; omega) h2 ?_
  refine mm_jok X cj (b' := 0) (st' := []) ?_ (k w3 I3 J3 hIV)
  show mj_2 0 0 1 [.int a, .int a] = some (0, [])
  simp [mj_2, mm_cmp]
end Si
