/-! ===== The law: tell's case ===== -/
theorem tl_1238 : lw_c5 "FenceSidesLaw" "law" code 1238 1 := ⟨by decide +kernel, by decide +kernel, by decide +kernel, by decide +kernel, by decide +kernel⟩
theorem tl_1243 : lw_c5 "FenceSidesLaw" "law" code 1243 2 := ⟨by decide +kernel, by decide +kernel, by decide +kernel, by decide +kernel, by decide +kernel⟩
theorem tl_1248 : lw_c5 "FenceSidesLaw" "law" code 1248 3 := ⟨by decide +kernel, by decide +kernel, by decide +kernel, by decide +kernel, by decide +kernel⟩
theorem tl_1253 : lw_c5 "FenceSidesLaw" "law" code 1253 4 := ⟨by decide +kernel, by decide +kernel, by decide +kernel, by decide +kernel, by decide +kernel⟩
theorem tl_1270 : lw_c5 "FenceSidesLaw" "law" code 1270 1 := ⟨by decide +kernel, by decide +kernel, by decide +kernel, by decide +kernel, by decide +kernel⟩
theorem tl_1275 : lw_c5 "FenceSidesLaw" "law" code 1275 2 := ⟨by decide +kernel, by decide +kernel, by decide +kernel, by decide +kernel, by decide +kernel⟩
theorem tl_1280 : lw_c5 "FenceSidesLaw" "law" code 1280 3 := ⟨by decide +kernel, by decide +kernel, by decide +kernel, by decide +kernel, by decide +kernel⟩
theorem tl_1285 : lw_c5 "FenceSidesLaw" "law" code 1285 4 := ⟨by decide +kernel, by decide +kernel, by decide +kernel, by decide +kernel, by decide +kernel⟩
theorem tl_a : mm_one "FenceSidesLaw" "law" (2, 1, 0, 0) (decode code 1237) = some 1 := by decide +kernel
theorem tl_b : mm_one "FenceSidesLaw" "law" (2, 2, 0, 0) (decode code 1269) = some 1 := by decide +kernel
theorem tl_y : mm_cck "FenceSidesLaw" kt_40 5091 (decode code 1266) = true := by decide +kernel
theorem tl_z : mm_cck "FenceSidesLaw" kt_171 8076 (decode code 1298) = true := by decide +kernel
theorem tl_j : mm_jck (fun k => if k = 0 then 1444 else 1304) (60, 0, 1, 0) 1301 (decode code 1301) = true := by decide +kernel
theorem tl_1 : mm_jck (fun k => if k = 0 then 1265 else 1261) (52, 0, 1, 0) 1258 (decode code 1258) = true := by decide +kernel
theorem tl_2 : mm_one "FenceSidesLaw" "law" (7, 0, 0, 1) (decode code 1261) = some 1 := by decide +kernel
theorem tl_3 : mm_jck (fun _ => 1266) (50, 0, 0, 0) 1262 (decode code 1262) = true := by decide +kernel
theorem tl_4 : mm_one "FenceSidesLaw" "law" (7, 0, 0, 0) (decode code 1265) = some 1 := by decide +kernel
theorem tl_5 : mm_jck (fun k => if k = 0 then 1297 else 1293) (52, 0, 1, 0) 1290 (decode code 1290) = true := by decide +kernel
theorem tl_6 : mm_one "FenceSidesLaw" "law" (7, 0, 0, 1) (decode code 1293) = some 1 := by decide +kernel
theorem tl_7 : mm_jck (fun _ => 1298) (50, 0, 0, 0) 1294 (decode code 1294) = true := by decide +kernel
theorem tl_8 : mm_one "FenceSidesLaw" "law" (7, 0, 0, 0) (decode code 1297) = some 1 := by decide +kernel
section Sn
variable {p : Program} {l : Launch} {e : Env} {R : Room} {s : State} {m : MethodId} {args : Array Value} {below : List Frame} {meth : Method} {c : Code} {Z : State → Prop} {D : va_G} {cs : Nat → ClassId} {b : Nat} {ad : Nat → Nat} {n0 s0 : Nat} {bs Ls i : Nat} {xs : Nat → Int32} {SW : State → Prop} {lab : Nat → Nat → Nat} {nx ns B : Nat} {w : Bool} {I : Nat → Nat → Int32} {J : Nat → Nat → Int64}
theorem lw_n_33 (C : LwH p l e R s m args below meth c Z D cs b ad n0 s0 bs Ls xs SW lab nx ns) (hi : i + 5 < Ls) (hB : B < 2 ^ 30) (h : IV B w I J) (k : ∀ w I J, IV (B + 60) w I J → mm_G p l e R s m args below meth c Z 4 D cs b ad n0 s0 1444 [some (.ref 1000002), some (.ref 0), some (.ref 323), some (.int (nI i))] [] (nx, ns, SH w, I, J)) : mm_G p l e R s m args below meth c Z 4 D cs b ad n0 s0 1237 [some (.ref 1000002), some (.ref 0), some (.ref 323), some (.int (nI i))] [] (nx, ns, SH w, I, J) := by
  obtain ⟨lv, P, H, F, L, tf, tm, tt, te, fl, nl, U, nxt, T, n, hb, h⟩ := h
  obtain ⟨X, hstr, hN, hsw, hSW, hT, hX, hbl, hbb, had, hL3, hR, hnx, hroom⟩ := C
  have hP := pp_tell (nx := nx) (ns := ns) (e := xs (i + 1)) (f := xs (i + 2)) (a := xs (i + 3)) (s := bnz (xs (i + 4))) h bnz_or
  obtain ⟨v, u1, h1, a, rfl, v2, u2, h2, rfl, w3, I3, J3, rfl, hIV⟩ := hP
  have hm1 := mm_ev_mono mm_nf mm_Cd mm_Ml 40 _ _ _ _ _ h1
  have hm2 := mm_ev_mono mm_nf mm_Cd mm_Ml 40 _ _ _ _ _ h2
  have q1 : u1.1 ≤ nx := hm2.1
  have q2 : u1.2.1 ≤ ns := hm2.2
  have q3 : nx ≤ u1.1 := hm1.1
  have hr1 : u1.1 - n0 ≤ R.cells ∧ u1.2.1 - s0 ≤ R.slots := ⟨by omega, by omega⟩
  have hc0 : mm_cl (nx, ns, SH w, I, J) 0 11 := ⟨by show 0 < nx; omega, _, rfl⟩
  have hc1 : mm_cl (nx, ns, SH w, I, J) 323 12 := ⟨by show 323 < nx; omega, _, rfl⟩
  have hc2 : mm_cl u1 323 12 := mm_ev_cls mm_nf mm_Cd mm_Ml 40 _ _ _ _ _ _ _ h1 hc1
  refine mm_sok X hstr ⟨by omega, by omega⟩ hroom tl_a rfl ?_
  refine lw_arg (j := 1) X hstr ⟨by omega, by omega⟩ hroom hX hbl hbb had hL3 (by omega) (by omega) tl_1238 ?_
  refine lw_arg (j := 2) X hstr ⟨by omega, by omega⟩ hroom hX hbl hbb had hL3 (by omega) (by omega) tl_1243 ?_
  refine lw_arg (j := 3) X hstr ⟨by omega, by omega⟩ hroom hX hbl hbb had hL3 (by omega) (by omega) tl_1248 ?_
  refine lw_arg (j := 4) X hstr ⟨by omega, by omega⟩ hroom hX hbl hbb had hL3 (by omega) (by omega) tl_1253 ?_
  refine lw_bz X hstr ⟨by omega, by omega⟩ hroom tl_1 tl_2 tl_3 tl_4 ?_
  refine lw_callA (n := 4) (y := 40) (as := [.int (xs (i + 1)), .int (xs (i + 2)), .int (xs (i + 3)), .int (bnz (xs (i + 4)))]) rfl X hN hsw hSW hT (show mm_tbl 40 = some kt_40 from rfl) nf_40 tl_y ⟨by omega, by omega⟩ hr1 hc0 (by show 0 ≤ 8; omega) h1 ?_
  refine mm_sok X hstr ⟨by omega, by omega⟩ hr1 tl_b rfl ?_
  refine lw_arg (j := 1) X hstr ⟨by omega, by omega⟩ hr1 hX hbl hbb had hL3 (by omega) (by omega) tl_1270 ?_
  refine lw_arg (j := 2) X hstr ⟨by omega, by omega⟩ hr1 hX hbl hbb had hL3 (by omega) (by omega) tl_1275 ?_
  refine lw_arg (j := 3) X hstr ⟨by omega, by omega⟩ hr1 hX hbl hbb had hL3 (by omega) (by omega) tl_1280 ?_
  refine lw_arg (j := 4) X hstr ⟨by omega, by omega⟩ hr1 hX hbl hbb had hL3 (by omega) (by omega) tl_1285 ?_
  refine lw_bz X hstr ⟨by omega, by omega⟩ hr1 tl_5 tl_6 tl_7 tl_8 ?_
  refine lw_callA (n := 4) (y := 171) (as := [.int (xs (i + 1)), .int (xs (i + 2)), .int (xs (i + 3)), .int (bnz (xs (i + 4)))]) rfl X hN hsw hSW hT (show mm_tbl 171 = some kt_171 from rfl) nf_171 tl_z ⟨by omega, by omega⟩ hroom hc2 (by show 1 ≤ 8; omega) h2 ?_
  refine mm_jok X tl_j (b' := 0) (st' := []) ?_ (k w3 I3 J3 hIV)
  show mj_2 0 0 1 [.int a, .int a] = some (0, [])
  simp [mj_2, mm_cmp]
end Sn
