/-! ===== The law: each case (by program, gen/mklaw2.py) ===== -/
def LwH (p : Program) (l : Launch) (e : Env) (R : Room) (s : State) (m : MethodId) (args : Array Value) (below : List Frame) (meth : Method) (c : Code) (Z : State → Prop) (D : va_G) (cs : Nat → ClassId) (b : Nat) (ad : Nat → Nat) (n0 s0 bs Ls : Nat) (xs : Nat → Int32) (SW : State → Prop) (lab : Nat → Nat → Nat) (nx ns : Nat) : Prop :=
  mm_C p s m args meth c code "FenceSidesLaw" "law" 4 D cs b ad ∧ mm_Str p l e R s m args below meth c Z code "FenceSidesLaw" "law" 4 D cs b ad n0 s0 ∧ mm_N s ∧ SW s ∧ mm_SWok l D cs b ad SW ∧ mm_Tab mm_tbl mm_nf mm_Cd mm_Ml lab ∧ va_X bs Ls xs s s.heap ∧ bs < s.heap.size ∧ b = s.heap.size ∧ ad 1000002 = bs ∧ Ls ≤ 3072 ∧ (60 ≤ R.frames ∧ 3000 ≤ R.locals) ∧ 370 ≤ nx ∧ (nx - n0 ≤ R.cells ∧ ns - s0 ≤ R.slots)
section Sk
variable {p : Program} {l : Launch} {e : Env} {R : Room} {s : State} {m : MethodId} {args : Array Value} {below : List Frame} {meth : Method} {c : Code} {Z : State → Prop} {D : va_G} {cs : Nat → ClassId} {b : Nat} {ad : Nat → Nat} {n0 s0 : Nat} {bs Ls i : Nat} {xs : Nat → Int32} {SW : State → Prop} {lab : Nat → Nat → Nat} {nx ns B : Nat} {w : Bool} {I : Nat → Nat → Int32} {J : Nat → Nat → Int64}
theorem lw_n_0 (C : LwH p l e R s m args below meth c Z D cs b ad n0 s0 bs Ls xs SW lab nx ns) (hi : i + 5 < Ls) (hB : B < 2 ^ 30) (h : IV B w I J) (k : ∀ w I J, IV (B + 60) w I J → mm_G p l e R s m args below meth c Z 4 D cs b ad n0 s0 1444 [some (.ref 1000002), some (.ref 0), some (.ref 323), some (.int (nI i))] [] (nx, ns, SH w, I, J)) : mm_G p l e R s m args below meth c Z 4 D cs b ad n0 s0 208 [some (.ref 1000002), some (.ref 0), some (.ref 323), some (.int (nI i))] [] (nx, ns, SH w, I, J) := by
  obtain ⟨lv, P, H, F, L, tf, tm, tt, te, fl, nl, U, nxt, T, n, hb, h⟩ := h
  obtain ⟨X, hstr, hN, hsw, hSW, hT, hX, hbl, hbb, had, hL3, hR, hnx, hroom⟩ := C
  obtain ⟨c1, c2, c3, c4, c5, c6, c7⟩ := lw_ck_0
  exact lw_case (n := 5) (y := 1) (z := 57) X hstr hN hsw hSW hT hX hbl hbb had hL3 hR hnx hroom (show mm_tbl 1 = some kt_1 from rfl) (show mm_tbl 57 = some kt_57 from rfl) nf_1 nf_57 (by omega) (by omega) c1 c2 c3 c4 c5 c6 c7 (pp_feed h) k
theorem lw_n_1 (C : LwH p l e R s m args below meth c Z D cs b ad n0 s0 bs Ls xs SW lab nx ns) (hi : i + 5 < Ls) (hB : B < 2 ^ 30) (h : IV B w I J) (k : ∀ w I J, IV (B + 60) w I J → mm_G p l e R s m args below meth c Z 4 D cs b ad n0 s0 1444 [some (.ref 1000002), some (.ref 0), some (.ref 323), some (.int (nI i))] [] (nx, ns, SH w, I, J)) : mm_G p l e R s m args below meth c Z 4 D cs b ad n0 s0 271 [some (.ref 1000002), some (.ref 0), some (.ref 323), some (.int (nI i))] [] (nx, ns, SH w, I, J) := by
  obtain ⟨lv, P, H, F, L, tf, tm, tt, te, fl, nl, U, nxt, T, n, hb, h⟩ := h
  obtain ⟨X, hstr, hN, hsw, hSW, hT, hX, hbl, hbb, had, hL3, hR, hnx, hroom⟩ := C
  obtain ⟨c1, c2, c3, c4, c5, c6, c7⟩ := lw_ck_1
  exact lw_case (n := 1) (y := 2) (z := 59) X hstr hN hsw hSW hT hX hbl hbb had hL3 hR hnx hroom (show mm_tbl 2 = some kt_2 from rfl) (show mm_tbl 59 = some kt_59 from rfl) nf_2 nf_59 (by omega) (by omega) c1 c2 c3 c4 c5 c6 c7 (pp_back h) k
theorem lw_n_2 (C : LwH p l e R s m args below meth c Z D cs b ad n0 s0 bs Ls xs SW lab nx ns) (hi : i + 5 < Ls) (hB : B < 2 ^ 30) (h : IV B w I J) (k : ∀ w I J, IV (B + 60) w I J → mm_G p l e R s m args below meth c Z 4 D cs b ad n0 s0 1444 [some (.ref 1000002), some (.ref 0), some (.ref 323), some (.int (nI i))] [] (nx, ns, SH w, I, J)) : mm_G p l e R s m args below meth c Z 4 D cs b ad n0 s0 294 [some (.ref 1000002), some (.ref 0), some (.ref 323), some (.int (nI i))] [] (nx, ns, SH w, I, J) := by
  obtain ⟨lv, P, H, F, L, tf, tm, tt, te, fl, nl, U, nxt, T, n, hb, h⟩ := h
  obtain ⟨X, hstr, hN, hsw, hSW, hT, hX, hbl, hbb, had, hL3, hR, hnx, hroom⟩ := C
  obtain ⟨c1, c2, c3, c4, c5, c6, c7⟩ := lw_ck_2
  exact lw_case (n := 0) (y := 3) (z := 74) X hstr hN hsw hSW hT hX hbl hbb had hL3 hR hnx hroom (show mm_tbl 3 = some kt_3 from rfl) (show mm_tbl 74 = some kt_74 from rfl) nf_3 nf_74 (by omega) (by omega) c1 c2 c3 c4 c5 c6 c7 (pp_read h) k
theorem lw_n_3 (C : LwH p l e R s m args below meth c Z D cs b ad n0 s0 bs Ls xs SW lab nx ns) (hi : i + 5 < Ls) (hB : B < 2 ^ 30) (h : IV B w I J) (k : ∀ w I J, IV (B + 60) w I J → mm_G p l e R s m args below meth c Z 4 D cs b ad n0 s0 1444 [some (.ref 1000002), some (.ref 0), some (.ref 323), some (.int (nI i))] [] (nx, ns, SH w, I, J)) : mm_G p l e R s m args below meth c Z 4 D cs b ad n0 s0 307 [some (.ref 1000002), some (.ref 0), some (.ref 323), some (.int (nI i))] [] (nx, ns, SH w, I, J) := by
  obtain ⟨lv, P, H, F, L, tf, tm, tt, te, fl, nl, U, nxt, T, n, hb, h⟩ := h
  obtain ⟨X, hstr, hN, hsw, hSW, hT, hX, hbl, hbb, had, hL3, hR, hnx, hroom⟩ := C
  obtain ⟨c1, c2, c3, c4, c5, c6, c7⟩ := lw_ck_3
  exact lw_case (n := 0) (y := 4) (z := 75) X hstr hN hsw hSW hT hX hbl hbb had hL3 hR hnx hroom (show mm_tbl 4 = some kt_4 from rfl) (show mm_tbl 75 = some kt_75 from rfl) nf_4 nf_75 (by omega) (by omega) c1 c2 c3 c4 c5 c6 c7 (pp_place h) k
theorem lw_n_4 (C : LwH p l e R s m args below meth c Z D cs b ad n0 s0 bs Ls xs SW lab nx ns) (hi : i + 5 < Ls) (hB : B < 2 ^ 30) (h : IV B w I J) (k : ∀ w I J, IV (B + 60) w I J → mm_G p l e R s m args below meth c Z 4 D cs b ad n0 s0 1444 [some (.ref 1000002), some (.ref 0), some (.ref 323), some (.int (nI i))] [] (nx, ns, SH w, I, J)) : mm_G p l e R s m args below meth c Z 4 D cs b ad n0 s0 320 [some (.ref 1000002), some (.ref 0), some (.ref 323), some (.int (nI i))] [] (nx, ns, SH w, I, J) := by
  obtain ⟨lv, P, H, F, L, tf, tm, tt, te, fl, nl, U, nxt, T, n, hb, h⟩ := h
  obtain ⟨X, hstr, hN, hsw, hSW, hT, hX, hbl, hbb, had, hL3, hR, hnx, hroom⟩ := C
  obtain ⟨c1, c2, c3, c4, c5, c6, c7⟩ := lw_ck_4
  exact lw_case (n := 2) (y := 5) (z := 125) X hstr hN hsw hSW hT hX hbl hbb had hL3 hR hnx hroom (show mm_tbl 5 = some kt_5 from rfl) (show mm_tbl 125 = some kt_125 from rfl) nf_5 nf_125 (by omega) (by omega) c1 c2 c3 c4 c5 c6 c7 (pp_hedge h) k
theorem lw_n_5 (C : LwH p l e R s m args below meth c Z D cs b ad n0 s0 bs Ls xs SW lab nx ns) (hi : i + 5 < Ls) (hB : B < 2 ^ 30) (h : IV B w I J) (k : ∀ w I J, IV (B + 60) w I J → mm_G p l e R s m args below meth c Z 4 D cs b ad n0 s0 1444 [some (.ref 1000002), some (.ref 0), some (.ref 323), some (.int (nI i))] [] (nx, ns, SH w, I, J)) : mm_G p l e R s m args below meth c Z 4 D cs b ad n0 s0 353 [some (.ref 1000002), some (.ref 0), some (.ref 323), some (.int (nI i))] [] (nx, ns, SH w, I, J) := by
  obtain ⟨lv, P, H, F, L, tf, tm, tt, te, fl, nl, U, nxt, T, n, hb, h⟩ := h
  obtain ⟨X, hstr, hN, hsw, hSW, hT, hX, hbl, hbb, had, hL3, hR, hnx, hroom⟩ := C
  obtain ⟨c1, c2, c3, c4, c5, c6, c7⟩ := lw_ck_5
  exact lw_case (n := 2) (y := 6) (z := 126) X hstr hN hsw hSW hT hX hbl hbb had hL3 hR hnx hroom (show mm_tbl 6 = some kt_6 from rfl) (show mm_tbl 126 = some kt_126 from rfl) nf_6 nf_126 (by omega) (by omega) c1 c2 c3 c4 c5 c6 c7 (pp_person h) k
theorem lw_n_6 (C : LwH p l e R s m args below meth c Z D cs b ad n0 s0 bs Ls xs SW lab nx ns) (hi : i + 5 < Ls) (hB : B < 2 ^ 30) (h : IV B w I J) (k : ∀ w I J, IV (B + 60) w I J → mm_G p l e R s m args below meth c Z 4 D cs b ad n0 s0 1444 [some (.ref 1000002), some (.ref 0), some (.ref 323), some (.int (nI i))] [] (nx, ns, SH w, I, J)) : mm_G p l e R s m args below meth c Z 4 D cs b ad n0 s0 386 [some (.ref 1000002), some (.ref 0), some (.ref 323), some (.int (nI i))] [] (nx, ns, SH w, I, J) := by
  obtain ⟨lv, P, H, F, L, tf, tm, tt, te, fl, nl, U, nxt, T, n, hb, h⟩ := h
  obtain ⟨X, hstr, hN, hsw, hSW, hT, hX, hbl, hbb, had, hL3, hR, hnx, hroom⟩ := C
  obtain ⟨c1, c2, c3, c4, c5, c6, c7⟩ := lw_ck_6
  exact lw_case (n := 2) (y := 13) (z := 130) X hstr hN hsw hSW hT hX hbl hbb had hL3 hR hnx hroom (show mm_tbl 13 = some kt_13 from rfl) (show mm_tbl 130 = some kt_130 from rfl) nf_13 nf_130 (by omega) (by omega) c1 c2 c3 c4 c5 c6 c7 (pp_clip hB h) k
theorem lw_n_7 (C : LwH p l e R s m args below meth c Z D cs b ad n0 s0 bs Ls xs SW lab nx ns) (hi : i + 5 < Ls) (hB : B < 2 ^ 30) (h : IV B w I J) (k : ∀ w I J, IV (B + 60) w I J → mm_G p l e R s m args below meth c Z 4 D cs b ad n0 s0 1444 [some (.ref 1000002), some (.ref 0), some (.ref 323), some (.int (nI i))] [] (nx, ns, SH w, I, J)) : mm_G p l e R s m args below meth c Z 4 D cs b ad n0 s0 419 [some (.ref 1000002), some (.ref 0), some (.ref 323), some (.int (nI i))] [] (nx, ns, SH w, I, J) := by
  obtain ⟨lv, P, H, F, L, tf, tm, tt, te, fl, nl, U, nxt, T, n, hb, h⟩ := h
  obtain ⟨X, hstr, hN, hsw, hSW, hT, hX, hbl, hbb, had, hL3, hR, hnx, hroom⟩ := C
  obtain ⟨c1, c2, c3, c4, c5, c6, c7⟩ := lw_ck_7
  exact lw_case (n := 3) (y := 14) (z := 132) X hstr hN hsw hSW hT hX hbl hbb had hL3 hR hnx hroom (show mm_tbl 14 = some kt_14 from rfl) (show mm_tbl 132 = some kt_132 from rfl) nf_14 nf_132 (by omega) (by omega) c1 c2 c3 c4 c5 c6 c7 (pp_sell h) k
theorem lw_n_8 (C : LwH p l e R s m args below meth c Z D cs b ad n0 s0 bs Ls xs SW lab nx ns) (hi : i + 5 < Ls) (hB : B < 2 ^ 30) (h : IV B w I J) (k : ∀ w I J, IV (B + 60) w I J → mm_G p l e R s m args below meth c Z 4 D cs b ad n0 s0 1444 [some (.ref 1000002), some (.ref 0), some (.ref 323), some (.int (nI i))] [] (nx, ns, SH w, I, J)) : mm_G p l e R s m args below meth c Z 4 D cs b ad n0 s0 462 [some (.ref 1000002), some (.ref 0), some (.ref 323), some (.int (nI i))] [] (nx, ns, SH w, I, J) := by
  obtain ⟨lv, P, H, F, L, tf, tm, tt, te, fl, nl, U, nxt, T, n, hb, h⟩ := h
  obtain ⟨X, hstr, hN, hsw, hSW, hT, hX, hbl, hbb, had, hL3, hR, hnx, hroom⟩ := C
  obtain ⟨c1, c2, c3, c4, c5, c6, c7⟩ := lw_ck_8
  exact lw_case (n := 2) (y := 15) (z := 133) X hstr hN hsw hSW hT hX hbl hbb had hL3 hR hnx hroom (show mm_tbl 15 = some kt_15 from rfl) (show mm_tbl 133 = some kt_133 from rfl) nf_15 nf_133 (by omega) (by omega) c1 c2 c3 c4 c5 c6 c7 (pp_close hB h) k
theorem lw_n_9 (C : LwH p l e R s m args below meth c Z D cs b ad n0 s0 bs Ls xs SW lab nx ns) (hi : i + 5 < Ls) (hB : B < 2 ^ 30) (h : IV B w I J) (k : ∀ w I J, IV (B + 60) w I J → mm_G p l e R s m args below meth c Z 4 D cs b ad n0 s0 1444 [some (.ref 1000002), some (.ref 0), some (.ref 323), some (.int (nI i))] [] (nx, ns, SH w, I, J)) : mm_G p l e R s m args below meth c Z 4 D cs b ad n0 s0 495 [some (.ref 1000002), some (.ref 0), some (.ref 323), some (.int (nI i))] [] (nx, ns, SH w, I, J) := by
  obtain ⟨lv, P, H, F, L, tf, tm, tt, te, fl, nl, U, nxt, T, n, hb, h⟩ := h
  obtain ⟨X, hstr, hN, hsw, hSW, hT, hX, hbl, hbb, had, hL3, hR, hnx, hroom⟩ := C
  obtain ⟨c1, c2, c3, c4, c5, c6, c7⟩ := lw_ck_9
  exact lw_case (n := 2) (y := 16) (z := 134) X hstr hN hsw hSW hT hX hbl hbb had hL3 hR hnx hroom (show mm_tbl 16 = some kt_16 from rfl) (show mm_tbl 134 = some kt_134 from rfl) nf_16 nf_134 (by omega) (by omega) c1 c2 c3 c4 c5 c6 c7 (pp_marry h) k
theorem lw_n_10 (C : LwH p l e R s m args below meth c Z D cs b ad n0 s0 bs Ls xs SW lab nx ns) (hi : i + 5 < Ls) (hB : B < 2 ^ 30) (h : IV B w I J) (k : ∀ w I J, IV (B + 60) w I J → mm_G p l e R s m args below meth c Z 4 D cs b ad n0 s0 1444 [some (.ref 1000002), some (.ref 0), some (.ref 323), some (.int (nI i))] [] (nx, ns, SH w, I, J)) : mm_G p l e R s m args below meth c Z 4 D cs b ad n0 s0 528 [some (.ref 1000002), some (.ref 0), some (.ref 323), some (.int (nI i))] [] (nx, ns, SH w, I, J) := by
  obtain ⟨lv, P, H, F, L, tf, tm, tt, te, fl, nl, U, nxt, T, n, hb, h⟩ := h
  obtain ⟨X, hstr, hN, hsw, hSW, hT, hX, hbl, hbb, had, hL3, hR, hnx, hroom⟩ := C
  obtain ⟨c1, c2, c3, c4, c5, c6, c7⟩ := lw_ck_10
  exact lw_case (n := 1) (y := 17) (z := 136) X hstr hN hsw hSW hT hX hbl hbb had hL3 hR hnx hroom (show mm_tbl 17 = some kt_17 from rfl) (show mm_tbl 136 = some kt_136 from rfl) nf_17 nf_136 (by omega) (by omega) c1 c2 c3 c4 c5 c6 c7 (pp_years h) k
theorem lw_n_11 (C : LwH p l e R s m args below meth c Z D cs b ad n0 s0 bs Ls xs SW lab nx ns) (hi : i + 5 < Ls) (hB : B < 2 ^ 30) (h : IV B w I J) (k : ∀ w I J, IV (B + 60) w I J → mm_G p l e R s m args below meth c Z 4 D cs b ad n0 s0 1444 [some (.ref 1000002), some (.ref 0), some (.ref 323), some (.int (nI i))] [] (nx, ns, SH w, I, J)) : mm_G p l e R s m args below meth c Z 4 D cs b ad n0 s0 551 [some (.ref 1000002), some (.ref 0), some (.ref 323), some (.int (nI i))] [] (nx, ns, SH w, I, J) := by
  obtain ⟨lv, P, H, F, L, tf, tm, tt, te, fl, nl, U, nxt, T, n, hb, h⟩ := h
  obtain ⟨X, hstr, hN, hsw, hSW, hT, hX, hbl, hbb, had, hL3, hR, hnx, hroom⟩ := C
  obtain ⟨c1, c2, c3, c4, c5, c6, c7⟩ := lw_ck_11
  exact lw_case (n := 0) (y := 18) (z := 137) X hstr hN hsw hSW hT hX hbl hbb had hL3 hR hnx hroom (show mm_tbl 18 = some kt_18 from rfl) (show mm_tbl 137 = some kt_137 from rfl) nf_18 nf_137 (by omega) (by omega) c1 c2 c3 c4 c5 c6 c7 (pp_undo h) k
theorem lw_n_12 (C : LwH p l e R s m args below meth c Z D cs b ad n0 s0 bs Ls xs SW lab nx ns) (hi : i + 5 < Ls) (hB : B < 2 ^ 30) (h : IV B w I J) (k : ∀ w I J, IV (B + 60) w I J → mm_G p l e R s m args below meth c Z 4 D cs b ad n0 s0 1444 [some (.ref 1000002), some (.ref 0), some (.ref 323), some (.int (nI i))] [] (nx, ns, SH w, I, J)) : mm_G p l e R s m args below meth c Z 4 D cs b ad n0 s0 564 [some (.ref 1000002), some (.ref 0), some (.ref 323), some (.int (nI i))] [] (nx, ns, SH w, I, J) := by
  obtain ⟨lv, P, H, F, L, tf, tm, tt, te, fl, nl, U, nxt, T, n, hb, h⟩ := h
  obtain ⟨X, hstr, hN, hsw, hSW, hT, hX, hbl, hbb, had, hL3, hR, hnx, hroom⟩ := C
  obtain ⟨c1, c2, c3, c4, c5, c6, c7⟩ := lw_ck_12
  exact lw_case (n := 2) (y := 19) (z := 144) X hstr hN hsw hSW hT hX hbl hbb had hL3 hR hnx hroom (show mm_tbl 19 = some kt_19 from rfl) (show mm_tbl 144 = some kt_144 from rfl) nf_19 nf_144 (by omega) (by omega) c1 c2 c3 c4 c5 c6 c7 (pp_crosses h) k
theorem lw_n_13 (C : LwH p l e R s m args below meth c Z D cs b ad n0 s0 bs Ls xs SW lab nx ns) (hi : i + 5 < Ls) (hB : B < 2 ^ 30) (h : IV B w I J) (k : ∀ w I J, IV (B + 60) w I J → mm_G p l e R s m args below meth c Z 4 D cs b ad n0 s0 1444 [some (.ref 1000002), some (.ref 0), some (.ref 323), some (.int (nI i))] [] (nx, ns, SH w, I, J)) : mm_G p l e R s m args below meth c Z 4 D cs b ad n0 s0 597 [some (.ref 1000002), some (.ref 0), some (.ref 323), some (.int (nI i))] [] (nx, ns, SH w, I, J) := by
  obtain ⟨lv, P, H, F, L, tf, tm, tt, te, fl, nl, U, nxt, T, n, hb, h⟩ := h
  obtain ⟨X, hstr, hN, hsw, hSW, hT, hX, hbl, hbb, had, hL3, hR, hnx, hroom⟩ := C
  obtain ⟨c1, c2, c3, c4, c5, c6, c7⟩ := lw_ck_13
  exact lw_case (n := 4) (y := 20) (z := 145) X hstr hN hsw hSW hT hX hbl hbb had hL3 hR hnx hroom (show mm_tbl 20 = some kt_20 from rfl) (show mm_tbl 145 = some kt_145 from rfl) nf_20 nf_145 (by omega) (by omega) c1 c2 c3 c4 c5 c6 c7 (pp_ask h) k
theorem lw_n_14 (C : LwH p l e R s m args below meth c Z D cs b ad n0 s0 bs Ls xs SW lab nx ns) (hi : i + 5 < Ls) (hB : B < 2 ^ 30) (h : IV B w I J) (k : ∀ w I J, IV (B + 60) w I J → mm_G p l e R s m args below meth c Z 4 D cs b ad n0 s0 1444 [some (.ref 1000002), some (.ref 0), some (.ref 323), some (.int (nI i))] [] (nx, ns, SH w, I, J)) : mm_G p l e R s m args below meth c Z 4 D cs b ad n0 s0 650 [some (.ref 1000002), some (.ref 0), some (.ref 323), some (.int (nI i))] [] (nx, ns, SH w, I, J) := by
  obtain ⟨lv, P, H, F, L, tf, tm, tt, te, fl, nl, U, nxt, T, n, hb, h⟩ := h
  obtain ⟨X, hstr, hN, hsw, hSW, hT, hX, hbl, hbb, had, hL3, hR, hnx, hroom⟩ := C
  obtain ⟨c1, c2, c3, c4, c5, c6, c7⟩ := lw_ck_14
  exact lw_case (n := 2) (y := 21) (z := 146) X hstr hN hsw hSW hT hX hbl hbb had hL3 hR hnx hroom (show mm_tbl 21 = some kt_21 from rfl) (show mm_tbl 146 = some kt_146 from rfl) nf_21 nf_146 (by omega) (by omega) c1 c2 c3 c4 c5 c6 c7 (pp_open h) k
theorem lw_n_15 (C : LwH p l e R s m args below meth c Z D cs b ad n0 s0 bs Ls xs SW lab nx ns) (hi : i + 5 < Ls) (hB : B < 2 ^ 30) (h : IV B w I J) (k : ∀ w I J, IV (B + 60) w I J → mm_G p l e R s m args below meth c Z 4 D cs b ad n0 s0 1444 [some (.ref 1000002), some (.ref 0), some (.ref 323), some (.int (nI i))] [] (nx, ns, SH w, I, J)) : mm_G p l e R s m args below meth c Z 4 D cs b ad n0 s0 683 [some (.ref 1000002), some (.ref 0), some (.ref 323), some (.int (nI i))] [] (nx, ns, SH w, I, J) := by
  obtain ⟨lv, P, H, F, L, tf, tm, tt, te, fl, nl, U, nxt, T, n, hb, h⟩ := h
  obtain ⟨X, hstr, hN, hsw, hSW, hT, hX, hbl, hbb, had, hL3, hR, hnx, hroom⟩ := C
  obtain ⟨c1, c2, c3, c4, c5, c6, c7⟩ := lw_ck_15
  exact lw_case (n := 1) (y := 22) (z := 147) X hstr hN hsw hSW hT hX hbl hbb had hL3 hR hnx hroom (show mm_tbl 22 = some kt_22 from rfl) (show mm_tbl 147 = some kt_147 from rfl) nf_22 nf_147 (by omega) (by omega) c1 c2 c3 c4 c5 c6 c7 (pp_shut h) k
theorem lw_n_16 (C : LwH p l e R s m args below meth c Z D cs b ad n0 s0 bs Ls xs SW lab nx ns) (hi : i + 5 < Ls) (hB : B < 2 ^ 30) (h : IV B w I J) (k : ∀ w I J, IV (B + 60) w I J → mm_G p l e R s m args below meth c Z 4 D cs b ad n0 s0 1444 [some (.ref 1000002), some (.ref 0), some (.ref 323), some (.int (nI i))] [] (nx, ns, SH w, I, J)) : mm_G p l e R s m args below meth c Z 4 D cs b ad n0 s0 706 [some (.ref 1000002), some (.ref 0), some (.ref 323), some (.int (nI i))] [] (nx, ns, SH w, I, J) := by
  obtain ⟨lv, P, H, F, L, tf, tm, tt, te, fl, nl, U, nxt, T, n, hb, h⟩ := h
  obtain ⟨X, hstr, hN, hsw, hSW, hT, hX, hbl, hbb, had, hL3, hR, hnx, hroom⟩ := C
  obtain ⟨c1, c2, c3, c4, c5, c6, c7⟩ := lw_ck_16
  exact lw_case (n := 1) (y := 23) (z := 155) X hstr hN hsw hSW hT hX hbl hbb had hL3 hR hnx hroom (show mm_tbl 23 = some kt_23 from rfl) (show mm_tbl 155 = some kt_155 from rfl) nf_23 nf_155 (by omega) (by omega) c1 c2 c3 c4 c5 c6 c7 (pp_matched h) k
theorem lw_n_17 (C : LwH p l e R s m args below meth c Z D cs b ad n0 s0 bs Ls xs SW lab nx ns) (hi : i + 5 < Ls) (hB : B < 2 ^ 30) (h : IV B w I J) (k : ∀ w I J, IV (B + 60) w I J → mm_G p l e R s m args below meth c Z 4 D cs b ad n0 s0 1444 [some (.ref 1000002), some (.ref 0), some (.ref 323), some (.int (nI i))] [] (nx, ns, SH w, I, J)) : mm_G p l e R s m args below meth c Z 4 D cs b ad n0 s0 729 [some (.ref 1000002), some (.ref 0), some (.ref 323), some (.int (nI i))] [] (nx, ns, SH w, I, J) := by
  obtain ⟨lv, P, H, F, L, tf, tm, tt, te, fl, nl, U, nxt, T, n, hb, h⟩ := h
  obtain ⟨X, hstr, hN, hsw, hSW, hT, hX, hbl, hbb, had, hL3, hR, hnx, hroom⟩ := C
  obtain ⟨c1, c2, c3, c4, c5, c6, c7⟩ := lw_ck_17
  exact lw_case (n := 2) (y := 24) (z := 156) X hstr hN hsw hSW hT hX hbl hbb had hL3 hR hnx hroom (show mm_tbl 24 = some kt_24 from rfl) (show mm_tbl 156 = some kt_156 from rfl) nf_24 nf_156 (by omega) (by omega) c1 c2 c3 c4 c5 c6 c7 (pp_will h) k
theorem lw_n_18 (C : LwH p l e R s m args below meth c Z D cs b ad n0 s0 bs Ls xs SW lab nx ns) (hi : i + 5 < Ls) (hB : B < 2 ^ 30) (h : IV B w I J) (k : ∀ w I J, IV (B + 60) w I J → mm_G p l e R s m args below meth c Z 4 D cs b ad n0 s0 1444 [some (.ref 1000002), some (.ref 0), some (.ref 323), some (.int (nI i))] [] (nx, ns, SH w, I, J)) : mm_G p l e R s m args below meth c Z 4 D cs b ad n0 s0 762 [some (.ref 1000002), some (.ref 0), some (.ref 323), some (.int (nI i))] [] (nx, ns, SH w, I, J) := by
  obtain ⟨lv, P, H, F, L, tf, tm, tt, te, fl, nl, U, nxt, T, n, hb, h⟩ := h
  obtain ⟨X, hstr, hN, hsw, hSW, hT, hX, hbl, hbb, had, hL3, hR, hnx, hroom⟩ := C
  obtain ⟨c1, c2, c3, c4, c5, c6, c7⟩ := lw_ck_18
  exact lw_case (n := 2) (y := 25) (z := 157) X hstr hN hsw hSW hT hX hbl hbb had hL3 hR hnx hroom (show mm_tbl 25 = some kt_25 from rfl) (show mm_tbl 157 = some kt_157 from rfl) nf_25 nf_157 (by omega) (by omega) c1 c2 c3 c4 c5 c6 c7 (pp_highest h) k
theorem lw_n_19 (C : LwH p l e R s m args below meth c Z D cs b ad n0 s0 bs Ls xs SW lab nx ns) (hi : i + 5 < Ls) (hB : B < 2 ^ 30) (h : IV B w I J) (k : ∀ w I J, IV (B + 60) w I J → mm_G p l e R s m args below meth c Z 4 D cs b ad n0 s0 1444 [some (.ref 1000002), some (.ref 0), some (.ref 323), some (.int (nI i))] [] (nx, ns, SH w, I, J)) : mm_G p l e R s m args below meth c Z 4 D cs b ad n0 s0 795 [some (.ref 1000002), some (.ref 0), some (.ref 323), some (.int (nI i))] [] (nx, ns, SH w, I, J) := by
  obtain ⟨lv, P, H, F, L, tf, tm, tt, te, fl, nl, U, nxt, T, n, hb, h⟩ := h
  obtain ⟨X, hstr, hN, hsw, hSW, hT, hX, hbl, hbb, had, hL3, hR, hnx, hroom⟩ := C
  obtain ⟨c1, c2, c3, c4, c5, c6, c7⟩ := lw_ck_19
  exact lw_case (n := 1) (y := 26) (z := 159) X hstr hN hsw hSW hT hX hbl hbb had hL3 hR hnx hroom (show mm_tbl 26 = some kt_26 from rfl) (show mm_tbl 159 = some kt_159 from rfl) nf_26 nf_159 (by omega) (by omega) c1 c2 c3 c4 c5 c6 c7 (pp_due h) k
theorem lw_n_20 (C : LwH p l e R s m args below meth c Z D cs b ad n0 s0 bs Ls xs SW lab nx ns) (hi : i + 5 < Ls) (hB : B < 2 ^ 30) (h : IV B w I J) (k : ∀ w I J, IV (B + 60) w I J → mm_G p l e R s m args below meth c Z 4 D cs b ad n0 s0 1444 [some (.ref 1000002), some (.ref 0), some (.ref 323), some (.int (nI i))] [] (nx, ns, SH w, I, J)) : mm_G p l e R s m args below meth c Z 4 D cs b ad n0 s0 818 [some (.ref 1000002), some (.ref 0), some (.ref 323), some (.int (nI i))] [] (nx, ns, SH w, I, J) := by
  obtain ⟨lv, P, H, F, L, tf, tm, tt, te, fl, nl, U, nxt, T, n, hb, h⟩ := h
  obtain ⟨X, hstr, hN, hsw, hSW, hT, hX, hbl, hbb, had, hL3, hR, hnx, hroom⟩ := C
  obtain ⟨c1, c2, c3, c4, c5, c6, c7⟩ := lw_ck_20
  exact lw_case (n := 3) (y := 27) (z := 148) X hstr hN hsw hSW hT hX hbl hbb had hL3 hR hnx hroom (show mm_tbl 27 = some kt_27 from rfl) (show mm_tbl 148 = some kt_148 from rfl) nf_27 nf_148 (by omega) (by omega) c1 c2 c3 c4 c5 c6 c7 (pp_buy h) k
theorem lw_n_21 (C : LwH p l e R s m args below meth c Z D cs b ad n0 s0 bs Ls xs SW lab nx ns) (hi : i + 5 < Ls) (hB : B < 2 ^ 30) (h : IV B w I J) (k : ∀ w I J, IV (B + 60) w I J → mm_G p l e R s m args below meth c Z 4 D cs b ad n0 s0 1444 [some (.ref 1000002), some (.ref 0), some (.ref 323), some (.int (nI i))] [] (nx, ns, SH w, I, J)) : mm_G p l e R s m args below meth c Z 4 D cs b ad n0 s0 861 [some (.ref 1000002), some (.ref 0), some (.ref 323), some (.int (nI i))] [] (nx, ns, SH w, I, J) := by
  obtain ⟨lv, P, H, F, L, tf, tm, tt, te, fl, nl, U, nxt, T, n, hb, h⟩ := h
  obtain ⟨X, hstr, hN, hsw, hSW, hT, hX, hbl, hbb, had, hL3, hR, hnx, hroom⟩ := C
  obtain ⟨c1, c2, c3, c4, c5, c6, c7⟩ := lw_ck_21
  exact lw_case (n := 3) (y := 28) (z := 149) X hstr hN hsw hSW hT hX hbl hbb had hL3 hR hnx hroom (show mm_tbl 28 = some kt_28 from rfl) (show mm_tbl 149 = some kt_149 from rfl) nf_28 nf_149 (by omega) (by omega) c1 c2 c3 c4 c5 c6 c7 (pp_gates h) k
theorem lw_n_22 (C : LwH p l e R s m args below meth c Z D cs b ad n0 s0 bs Ls xs SW lab nx ns) (hi : i + 5 < Ls) (hB : B < 2 ^ 30) (h : IV B w I J) (k : ∀ w I J, IV (B + 60) w I J → mm_G p l e R s m args below meth c Z 4 D cs b ad n0 s0 1444 [some (.ref 1000002), some (.ref 0), some (.ref 323), some (.int (nI i))] [] (nx, ns, SH w, I, J)) : mm_G p l e R s m args below meth c Z 4 D cs b ad n0 s0 904 [some (.ref 1000002), some (.ref 0), some (.ref 323), some (.int (nI i))] [] (nx, ns, SH w, I, J) := by
  obtain ⟨lv, P, H, F, L, tf, tm, tt, te, fl, nl, U, nxt, T, n, hb, h⟩ := h
  obtain ⟨X, hstr, hN, hsw, hSW, hT, hX, hbl, hbb, had, hL3, hR, hnx, hroom⟩ := C
  obtain ⟨c1, c2, c3, c4, c5, c6, c7⟩ := lw_ck_22
  exact lw_case (n := 3) (y := 29) (z := 160) X hstr hN hsw hSW hT hX hbl hbb had hL3 hR hnx hroom (show mm_tbl 29 = some kt_29 from rfl) (show mm_tbl 160 = some kt_160 from rfl) nf_29 nf_160 (by omega) (by omega) c1 c2 c3 c4 c5 c6 c7 (pp_line h) k
theorem lw_n_23 (C : LwH p l e R s m args below meth c Z D cs b ad n0 s0 bs Ls xs SW lab nx ns) (hi : i + 5 < Ls) (hB : B < 2 ^ 30) (h : IV B w I J) (k : ∀ w I J, IV (B + 60) w I J → mm_G p l e R s m args below meth c Z 4 D cs b ad n0 s0 1444 [some (.ref 1000002), some (.ref 0), some (.ref 323), some (.int (nI i))] [] (nx, ns, SH w, I, J)) : mm_G p l e R s m args below meth c Z 4 D cs b ad n0 s0 947 [some (.ref 1000002), some (.ref 0), some (.ref 323), some (.int (nI i))] [] (nx, ns, SH w, I, J) := by
  obtain ⟨lv, P, H, F, L, tf, tm, tt, te, fl, nl, U, nxt, T, n, hb, h⟩ := h
  obtain ⟨X, hstr, hN, hsw, hSW, hT, hX, hbl, hbb, had, hL3, hR, hnx, hroom⟩ := C
  obtain ⟨c1, c2, c3, c4, c5, c6, c7⟩ := lw_ck_23
  exact lw_case (n := 1) (y := 30) (z := 161) X hstr hN hsw hSW hT hX hbl hbb had hL3 hR hnx hroom (show mm_tbl 30 = some kt_30 from rfl) (show mm_tbl 161 = some kt_161 from rfl) nf_30 nf_161 (by omega) (by omega) c1 c2 c3 c4 c5 c6 c7 (pp_eldest h) k
theorem lw_n_24 (C : LwH p l e R s m args below meth c Z D cs b ad n0 s0 bs Ls xs SW lab nx ns) (hi : i + 5 < Ls) (hB : B < 2 ^ 30) (h : IV B w I J) (k : ∀ w I J, IV (B + 60) w I J → mm_G p l e R s m args below meth c Z 4 D cs b ad n0 s0 1444 [some (.ref 1000002), some (.ref 0), some (.ref 323), some (.int (nI i))] [] (nx, ns, SH w, I, J)) : mm_G p l e R s m args below meth c Z 4 D cs b ad n0 s0 970 [some (.ref 1000002), some (.ref 0), some (.ref 323), some (.int (nI i))] [] (nx, ns, SH w, I, J) := by
  obtain ⟨lv, P, H, F, L, tf, tm, tt, te, fl, nl, U, nxt, T, n, hb, h⟩ := h
  obtain ⟨X, hstr, hN, hsw, hSW, hT, hX, hbl, hbb, had, hL3, hR, hnx, hroom⟩ := C
  obtain ⟨c1, c2, c3, c4, c5, c6, c7⟩ := lw_ck_24
  exact lw_case (n := 0) (y := 31) (z := 163) X hstr hN hsw hSW hT hX hbl hbb had hL3 hR hnx hroom (show mm_tbl 31 = some kt_31 from rfl) (show mm_tbl 163 = some kt_163 from rfl) nf_31 nf_163 (by omega) (by omega) c1 c2 c3 c4 c5 c6 c7 (pp_ones h) k
theorem lw_n_25 (C : LwH p l e R s m args below meth c Z D cs b ad n0 s0 bs Ls xs SW lab nx ns) (hi : i + 5 < Ls) (hB : B < 2 ^ 30) (h : IV B w I J) (k : ∀ w I J, IV (B + 60) w I J → mm_G p l e R s m args below meth c Z 4 D cs b ad n0 s0 1444 [some (.ref 1000002), some (.ref 0), some (.ref 323), some (.int (nI i))] [] (nx, ns, SH w, I, J)) : mm_G p l e R s m args below meth c Z 4 D cs b ad n0 s0 983 [some (.ref 1000002), some (.ref 0), some (.ref 323), some (.int (nI i))] [] (nx, ns, SH w, I, J) := by
  obtain ⟨lv, P, H, F, L, tf, tm, tt, te, fl, nl, U, nxt, T, n, hb, h⟩ := h
  obtain ⟨X, hstr, hN, hsw, hSW, hT, hX, hbl, hbb, had, hL3, hR, hnx, hroom⟩ := C
  obtain ⟨c1, c2, c3, c4, c5, c6, c7⟩ := lw_ck_25
  exact lw_case (n := 1) (y := 32) (z := 164) X hstr hN hsw hSW hT hX hbl hbb had hL3 hR hnx hroom (show mm_tbl 32 = some kt_32 from rfl) (show mm_tbl 164 = some kt_164 from rfl) nf_32 nf_164 (by omega) (by omega) c1 c2 c3 c4 c5 c6 c7 (pp_neighbours h) k
theorem lw_n_26 (C : LwH p l e R s m args below meth c Z D cs b ad n0 s0 bs Ls xs SW lab nx ns) (hi : i + 5 < Ls) (hB : B < 2 ^ 30) (h : IV B w I J) (k : ∀ w I J, IV (B + 60) w I J → mm_G p l e R s m args below meth c Z 4 D cs b ad n0 s0 1444 [some (.ref 1000002), some (.ref 0), some (.ref 323), some (.int (nI i))] [] (nx, ns, SH w, I, J)) : mm_G p l e R s m args below meth c Z 4 D cs b ad n0 s0 1006 [some (.ref 1000002), some (.ref 0), some (.ref 323), some (.int (nI i))] [] (nx, ns, SH w, I, J) := by
  obtain ⟨lv, P, H, F, L, tf, tm, tt, te, fl, nl, U, nxt, T, n, hb, h⟩ := h
  obtain ⟨X, hstr, hN, hsw, hSW, hT, hX, hbl, hbb, had, hL3, hR, hnx, hroom⟩ := C
  obtain ⟨c1, c2, c3, c4, c5, c6, c7⟩ := lw_ck_26
  exact lw_case (n := 2) (y := 33) (z := 165) X hstr hN hsw hSW hT hX hbl hbb had hL3 hR hnx hroom (show mm_tbl 33 = some kt_33 from rfl) (show mm_tbl 165 = some kt_165 from rfl) nf_33 nf_165 (by omega) (by omega) c1 c2 c3 c4 c5 c6 c7 (pp_between h) k
theorem lw_n_27 (C : LwH p l e R s m args below meth c Z D cs b ad n0 s0 bs Ls xs SW lab nx ns) (hi : i + 5 < Ls) (hB : B < 2 ^ 30) (h : IV B w I J) (k : ∀ w I J, IV (B + 60) w I J → mm_G p l e R s m args below meth c Z 4 D cs b ad n0 s0 1444 [some (.ref 1000002), some (.ref 0), some (.ref 323), some (.int (nI i))] [] (nx, ns, SH w, I, J)) : mm_G p l e R s m args below meth c Z 4 D cs b ad n0 s0 1039 [some (.ref 1000002), some (.ref 0), some (.ref 323), some (.int (nI i))] [] (nx, ns, SH w, I, J) := by
  obtain ⟨lv, P, H, F, L, tf, tm, tt, te, fl, nl, U, nxt, T, n, hb, h⟩ := h
  obtain ⟨X, hstr, hN, hsw, hSW, hT, hX, hbl, hbb, had, hL3, hR, hnx, hroom⟩ := C
  obtain ⟨c1, c2, c3, c4, c5, c6, c7⟩ := lw_ck_27
  exact lw_case (n := 1) (y := 34) (z := 166) X hstr hN hsw hSW hT hX hbl hbb had hL3 hR hnx hroom (show mm_tbl 34 = some kt_34 from rfl) (show mm_tbl 166 = some kt_166 from rfl) nf_34 nf_166 (by omega) (by omega) c1 c2 c3 c4 c5 c6 c7 (pp_gaps h) k
theorem lw_n_28 (C : LwH p l e R s m args below meth c Z D cs b ad n0 s0 bs Ls xs SW lab nx ns) (hi : i + 5 < Ls) (hB : B < 2 ^ 30) (h : IV B w I J) (k : ∀ w I J, IV (B + 60) w I J → mm_G p l e R s m args below meth c Z 4 D cs b ad n0 s0 1444 [some (.ref 1000002), some (.ref 0), some (.ref 323), some (.int (nI i))] [] (nx, ns, SH w, I, J)) : mm_G p l e R s m args below meth c Z 4 D cs b ad n0 s0 1062 [some (.ref 1000002), some (.ref 0), some (.ref 323), some (.int (nI i))] [] (nx, ns, SH w, I, J) := by
  obtain ⟨lv, P, H, F, L, tf, tm, tt, te, fl, nl, U, nxt, T, n, hb, h⟩ := h
  obtain ⟨X, hstr, hN, hsw, hSW, hT, hX, hbl, hbb, had, hL3, hR, hnx, hroom⟩ := C
  obtain ⟨c1, c2, c3, c4, c5, c6, c7⟩ := lw_ck_28
  exact lw_case (n := 1) (y := 35) (z := 162) X hstr hN hsw hSW hT hX hbl hbb had hL3 hR hnx hroom (show mm_tbl 35 = some kt_35 from rfl) (show mm_tbl 162 = some kt_162 from rfl) nf_35 nf_162 (by omega) (by omega) c1 c2 c3 c4 c5 c6 c7 (pp_most h) k
theorem lw_n_29 (C : LwH p l e R s m args below meth c Z D cs b ad n0 s0 bs Ls xs SW lab nx ns) (hi : i + 5 < Ls) (hB : B < 2 ^ 30) (h : IV B w I J) (k : ∀ w I J, IV (B + 60) w I J → mm_G p l e R s m args below meth c Z 4 D cs b ad n0 s0 1444 [some (.ref 1000002), some (.ref 0), some (.ref 323), some (.int (nI i))] [] (nx, ns, SH w, I, J)) : mm_G p l e R s m args below meth c Z 4 D cs b ad n0 s0 1085 [some (.ref 1000002), some (.ref 0), some (.ref 323), some (.int (nI i))] [] (nx, ns, SH w, I, J) := by
  obtain ⟨lv, P, H, F, L, tf, tm, tt, te, fl, nl, U, nxt, T, n, hb, h⟩ := h
  obtain ⟨X, hstr, hN, hsw, hSW, hT, hX, hbl, hbb, had, hL3, hR, hnx, hroom⟩ := C
  obtain ⟨c1, c2, c3, c4, c5, c6, c7⟩ := lw_ck_29
  exact lw_case (n := 3) (y := 36) (z := 167) X hstr hN hsw hSW hT hX hbl hbb had hL3 hR hnx hroom (show mm_tbl 36 = some kt_36 from rfl) (show mm_tbl 167 = some kt_167 from rfl) nf_36 nf_167 (by omega) (by omega) c1 c2 c3 c4 c5 c6 c7 (pp_whose h) k
theorem lw_n_30 (C : LwH p l e R s m args below meth c Z D cs b ad n0 s0 bs Ls xs SW lab nx ns) (hi : i + 5 < Ls) (hB : B < 2 ^ 30) (h : IV B w I J) (k : ∀ w I J, IV (B + 60) w I J → mm_G p l e R s m args below meth c Z 4 D cs b ad n0 s0 1444 [some (.ref 1000002), some (.ref 0), some (.ref 323), some (.int (nI i))] [] (nx, ns, SH w, I, J)) : mm_G p l e R s m args below meth c Z 4 D cs b ad n0 s0 1128 [some (.ref 1000002), some (.ref 0), some (.ref 323), some (.int (nI i))] [] (nx, ns, SH w, I, J) := by
  obtain ⟨lv, P, H, F, L, tf, tm, tt, te, fl, nl, U, nxt, T, n, hb, h⟩ := h
  obtain ⟨X, hstr, hN, hsw, hSW, hT, hX, hbl, hbb, had, hL3, hR, hnx, hroom⟩ := C
  obtain ⟨c1, c2, c3, c4, c5, c6, c7⟩ := lw_ck_30
  exact lw_case (n := 3) (y := 37) (z := 168) X hstr hN hsw hSW hT hX hbl hbb had hL3 hR hnx hroom (show mm_tbl 37 = some kt_37 from rfl) (show mm_tbl 168 = some kt_168 from rfl) nf_37 nf_168 (by omega) (by omega) c1 c2 c3 c4 c5 c6 c7 (pp_then h) k
theorem lw_n_31 (C : LwH p l e R s m args below meth c Z D cs b ad n0 s0 bs Ls xs SW lab nx ns) (hi : i + 5 < Ls) (hB : B < 2 ^ 30) (h : IV B w I J) (k : ∀ w I J, IV (B + 60) w I J → mm_G p l e R s m args below meth c Z 4 D cs b ad n0 s0 1444 [some (.ref 1000002), some (.ref 0), some (.ref 323), some (.int (nI i))] [] (nx, ns, SH w, I, J)) : mm_G p l e R s m args below meth c Z 4 D cs b ad n0 s0 1171 [some (.ref 1000002), some (.ref 0), some (.ref 323), some (.int (nI i))] [] (nx, ns, SH w, I, J) := by
  obtain ⟨lv, P, H, F, L, tf, tm, tt, te, fl, nl, U, nxt, T, n, hb, h⟩ := h
  obtain ⟨X, hstr, hN, hsw, hSW, hT, hX, hbl, hbb, had, hL3, hR, hnx, hroom⟩ := C
  obtain ⟨c1, c2, c3, c4, c5, c6, c7⟩ := lw_ck_31
  exact lw_case (n := 1) (y := 38) (z := 169) X hstr hN hsw hSW hT hX hbl hbb had hL3 hR hnx hroom (show mm_tbl 38 = some kt_38 from rfl) (show mm_tbl 169 = some kt_169 from rfl) nf_38 nf_169 (by omega) (by omega) c1 c2 c3 c4 c5 c6 c7 (pp_aliveIn h) k
theorem lw_n_32 (C : LwH p l e R s m args below meth c Z D cs b ad n0 s0 bs Ls xs SW lab nx ns) (hi : i + 5 < Ls) (hB : B < 2 ^ 30) (h : IV B w I J) (k : ∀ w I J, IV (B + 60) w I J → mm_G p l e R s m args below meth c Z 4 D cs b ad n0 s0 1444 [some (.ref 1000002), some (.ref 0), some (.ref 323), some (.int (nI i))] [] (nx, ns, SH w, I, J)) : mm_G p l e R s m args below meth c Z 4 D cs b ad n0 s0 1194 [some (.ref 1000002), some (.ref 0), some (.ref 323), some (.int (nI i))] [] (nx, ns, SH w, I, J) := by
  obtain ⟨lv, P, H, F, L, tf, tm, tt, te, fl, nl, U, nxt, T, n, hb, h⟩ := h
  obtain ⟨X, hstr, hN, hsw, hSW, hT, hX, hbl, hbb, had, hL3, hR, hnx, hroom⟩ := C
  obtain ⟨c1, c2, c3, c4, c5, c6, c7⟩ := lw_ck_32
  exact lw_case (n := 3) (y := 39) (z := 170) X hstr hN hsw hSW hT hX hbl hbb had hL3 hR hnx hroom (show mm_tbl 39 = some kt_39 from rfl) (show mm_tbl 170 = some kt_170 from rfl) nf_39 nf_170 (by omega) (by omega) c1 c2 c3 c4 c5 c6 c7 (pp_year h) k
theorem lw_n_34 (C : LwH p l e R s m args below meth c Z D cs b ad n0 s0 bs Ls xs SW lab nx ns) (hi : i + 5 < Ls) (hB : B < 2 ^ 30) (h : IV B w I J) (k : ∀ w I J, IV (B + 60) w I J → mm_G p l e R s m args below meth c Z 4 D cs b ad n0 s0 1444 [some (.ref 1000002), some (.ref 0), some (.ref 323), some (.int (nI i))] [] (nx, ns, SH w, I, J)) : mm_G p l e R s m args below meth c Z 4 D cs b ad n0 s0 1306 [some (.ref 1000002), some (.ref 0), some (.ref 323), some (.int (nI i))] [] (nx, ns, SH w, I, J) := by
  obtain ⟨lv, P, H, F, L, tf, tm, tt, te, fl, nl, U, nxt, T, n, hb, h⟩ := h
  obtain ⟨X, hstr, hN, hsw, hSW, hT, hX, hbl, hbb, had, hL3, hR, hnx, hroom⟩ := C
  obtain ⟨c1, c2, c3, c4, c5, c6, c7⟩ := lw_ck_34
  exact lw_case (n := 0) (y := 41) (z := 172) X hstr hN hsw hSW hT hX hbl hbb had hL3 hR hnx hroom (show mm_tbl 41 = some kt_41 from rfl) (show mm_tbl 172 = some kt_172 from rfl) nf_41 nf_172 (by omega) (by omega) c1 c2 c3 c4 c5 c6 c7 (pp_forget h) k
theorem lw_n_35 (C : LwH p l e R s m args below meth c Z D cs b ad n0 s0 bs Ls xs SW lab nx ns) (hi : i + 5 < Ls) (hB : B < 2 ^ 30) (h : IV B w I J) (k : ∀ w I J, IV (B + 60) w I J → mm_G p l e R s m args below meth c Z 4 D cs b ad n0 s0 1444 [some (.ref 1000002), some (.ref 0), some (.ref 323), some (.int (nI i))] [] (nx, ns, SH w, I, J)) : mm_G p l e R s m args below meth c Z 4 D cs b ad n0 s0 1319 [some (.ref 1000002), some (.ref 0), some (.ref 323), some (.int (nI i))] [] (nx, ns, SH w, I, J) := by
  obtain ⟨lv, P, H, F, L, tf, tm, tt, te, fl, nl, U, nxt, T, n, hb, h⟩ := h
  obtain ⟨X, hstr, hN, hsw, hSW, hT, hX, hbl, hbb, had, hL3, hR, hnx, hroom⟩ := C
  obtain ⟨c1, c2, c3, c4, c5, c6, c7⟩ := lw_ck_35
  exact lw_case (n := 2) (y := 42) (z := 175) X hstr hN hsw hSW hT hX hbl hbb had hL3 hR hnx hroom (show mm_tbl 42 = some kt_42 from rfl) (show mm_tbl 175 = some kt_175 from rfl) nf_42 nf_175 (by omega) (by omega) c1 c2 c3 c4 c5 c6 c7 (pp_died h) k
theorem lw_n_36 (C : LwH p l e R s m args below meth c Z D cs b ad n0 s0 bs Ls xs SW lab nx ns) (hi : i + 5 < Ls) (hB : B < 2 ^ 30) (h : IV B w I J) (k : ∀ w I J, IV (B + 60) w I J → mm_G p l e R s m args below meth c Z 4 D cs b ad n0 s0 1444 [some (.ref 1000002), some (.ref 0), some (.ref 323), some (.int (nI i))] [] (nx, ns, SH w, I, J)) : mm_G p l e R s m args below meth c Z 4 D cs b ad n0 s0 1352 [some (.ref 1000002), some (.ref 0), some (.ref 323), some (.int (nI i))] [] (nx, ns, SH w, I, J) := by
  obtain ⟨lv, P, H, F, L, tf, tm, tt, te, fl, nl, U, nxt, T, n, hb, h⟩ := h
  obtain ⟨X, hstr, hN, hsw, hSW, hT, hX, hbl, hbb, had, hL3, hR, hnx, hroom⟩ := C
  obtain ⟨c1, c2, c3, c4, c5, c6, c7⟩ := lw_ck_36
  exact lw_case (n := 1) (y := 43) (z := 177) X hstr hN hsw hSW hT hX hbl hbb had hL3 hR hnx hroom (show mm_tbl 43 = some kt_43 from rfl) (show mm_tbl 177 = some kt_177 from rfl) nf_43 nf_177 (by omega) (by omega) c1 c2 c3 c4 c5 c6 c7 (pp_look h) k
theorem lw_n_37 (C : LwH p l e R s m args below meth c Z D cs b ad n0 s0 bs Ls xs SW lab nx ns) (hi : i + 5 < Ls) (hB : B < 2 ^ 30) (h : IV B w I J) (k : ∀ w I J, IV (B + 60) w I J → mm_G p l e R s m args below meth c Z 4 D cs b ad n0 s0 1444 [some (.ref 1000002), some (.ref 0), some (.ref 323), some (.int (nI i))] [] (nx, ns, SH w, I, J)) : mm_G p l e R s m args below meth c Z 4 D cs b ad n0 s0 1375 [some (.ref 1000002), some (.ref 0), some (.ref 323), some (.int (nI i))] [] (nx, ns, SH w, I, J) := by
  obtain ⟨lv, P, H, F, L, tf, tm, tt, te, fl, nl, U, nxt, T, n, hb, h⟩ := h
  obtain ⟨X, hstr, hN, hsw, hSW, hT, hX, hbl, hbb, had, hL3, hR, hnx, hroom⟩ := C
  obtain ⟨c1, c2, c3, c4, c5, c6, c7⟩ := lw_ck_37
  exact lw_case (n := 1) (y := 44) (z := 178) X hstr hN hsw hSW hT hX hbl hbb had hL3 hR hnx hroom (show mm_tbl 44 = some kt_44 from rfl) (show mm_tbl 178 = some kt_178 from rfl) nf_44 nf_178 (by omega) (by omega) c1 c2 c3 c4 c5 c6 c7 (pp_hold h) k
theorem lw_n_38 (C : LwH p l e R s m args below meth c Z D cs b ad n0 s0 bs Ls xs SW lab nx ns) (hi : i + 5 < Ls) (hB : B < 2 ^ 30) (h : IV B w I J) (k : ∀ w I J, IV (B + 60) w I J → mm_G p l e R s m args below meth c Z 4 D cs b ad n0 s0 1444 [some (.ref 1000002), some (.ref 0), some (.ref 323), some (.int (nI i))] [] (nx, ns, SH w, I, J)) : mm_G p l e R s m args below meth c Z 4 D cs b ad n0 s0 1398 [some (.ref 1000002), some (.ref 0), some (.ref 323), some (.int (nI i))] [] (nx, ns, SH w, I, J) := by
  obtain ⟨lv, P, H, F, L, tf, tm, tt, te, fl, nl, U, nxt, T, n, hb, h⟩ := h
  obtain ⟨X, hstr, hN, hsw, hSW, hT, hX, hbl, hbb, had, hL3, hR, hnx, hroom⟩ := C
  obtain ⟨c1, c2, c3, c4, c5, c6, c7⟩ := lw_ck_38
  exact lw_case (n := 1) (y := 45) (z := 179) X hstr hN hsw hSW hT hX hbl hbb had hL3 hR hnx hroom (show mm_tbl 45 = some kt_45 from rfl) (show mm_tbl 179 = some kt_179 from rfl) nf_45 nf_179 (by omega) (by omega) c1 c2 c3 c4 c5 c6 c7 (pp_restore h) k
theorem lw_n_39 (C : LwH p l e R s m args below meth c Z D cs b ad n0 s0 bs Ls xs SW lab nx ns) (hi : i + 5 < Ls) (hB : B < 2 ^ 30) (h : IV B w I J) (k : ∀ w I J, IV (B + 60) w I J → mm_G p l e R s m args below meth c Z 4 D cs b ad n0 s0 1444 [some (.ref 1000002), some (.ref 0), some (.ref 323), some (.int (nI i))] [] (nx, ns, SH w, I, J)) : mm_G p l e R s m args below meth c Z 4 D cs b ad n0 s0 1421 [some (.ref 1000002), some (.ref 0), some (.ref 323), some (.int (nI i))] [] (nx, ns, SH w, I, J) := by
  obtain ⟨lv, P, H, F, L, tf, tm, tt, te, fl, nl, U, nxt, T, n, hb, h⟩ := h
  obtain ⟨X, hstr, hN, hsw, hSW, hT, hX, hbl, hbb, had, hL3, hR, hnx, hroom⟩ := C
  obtain ⟨c1, c2, c3, c4, c5, c6, c7⟩ := lw_ck_39
  exact lw_case (n := 1) (y := 7) (z := 180) X hstr hN hsw hSW hT hX hbl hbb had hL3 hR hnx hroom (show mm_tbl 7 = some kt_7 from rfl) (show mm_tbl 180 = some kt_180 from rfl) nf_7 nf_180 (by omega) (by omega) c1 c2 c3 c4 c5 c6 c7 (pp_count h) k
end Sk
