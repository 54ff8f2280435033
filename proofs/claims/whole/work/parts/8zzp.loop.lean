/-! ===== The law: its loop (by program, gen/mkloop.py) ===== -/
def lwt (k : Nat) : Nat := [208, 271, 294, 307, 320, 353, 386, 419, 462, 495, 528, 551, 564, 597, 650, 683, 706, 729, 762, 795, 818, 861, 904, 947, 970, 983, 1006, 1039, 1062, 1085, 1128, 1171, 1194, 1237, 1306, 1319, 1352, 1375, 1398, 1421].getD k 1444
theorem lp_18 : mm_one "FenceSidesLaw" "law" (0, 3, 0, 0) (decode code 18) = some 1 := by decide +kernel
theorem lp_19 : mm_one "FenceSidesLaw" "law" (2, 0, 0, 0) (decode code 19) = some 1 := by decide +kernel
theorem lp_20 : decode code 20 = .ok (.arraylength, 1) := by decide +kernel
theorem lp_21 : mm_one "FenceSidesLaw" "law" (7, 0, 0, 6) (decode code 21) = some 2 := by decide +kernel
theorem lp_23 : mm_one "FenceSidesLaw" "law" (13, 1, 0, 0) (decode code 23) = some 1 := by decide +kernel
theorem lp_24 : mm_jck (fun k => if k = 0 then 1450 else 27) (64, 0, 1, 0) 24 (decode code 24) = true := by decide +kernel
theorem lp_27 : mm_one "FenceSidesLaw" "law" (2, 0, 0, 0) (decode code 27) = some 1 := by decide +kernel
theorem lp_28 : mm_one "FenceSidesLaw" "law" (0, 3, 0, 0) (decode code 28) = some 1 := by decide +kernel
theorem lp_29 : decode code 29 = .ok (.iaload, 1) := by decide +kernel
theorem lp_30 : mm_one "FenceSidesLaw" "law" (7, 0, 0, 63) (decode code 30) = some 2 := by decide +kernel
theorem lp_32 : mm_one "FenceSidesLaw" "law" (13, 3, 0, 0) (decode code 32) = some 1 := by decide +kernel
theorem lp_33 : mm_jck lwt (58, 0, 40, 0) 33 (decode code 33) = true := by decide +kernel
theorem lp_1444 : mm_one "FenceSidesLaw" "law" (6, 3, 0, 6) (decode code 1444) = some 3 := by decide +kernel
theorem lp_1447 : mm_jck (fun _ => 18) (50, 0, 0, 0) 1447 (decode code 1447) = true := by decide +kernel
theorem lp_toInt : ∀ k, k < 64 → (nI k).toInt = (k : Int) := by decide +kernel
theorem lp_sub : ∀ k, k < 6 → nI k - Int32.ofInt 6 < nI 0 := by decide +kernel
theorem lp_sw {k : Nat} (hk : k < 64) : mm_jmp (58, 0, 40, 0) [.int (nI k)] = some (if k < 40 then k else 40, []) := by
  show mj_3 0 40 0 [.int (nI k)] = _
  have e : mj_3 0 40 0 [.int (nI k)] = some (if (nI k).toInt < 0 ∨ (0 : Int) + ((40 : Nat) : Int) ≤ (nI k).toInt then 0 + 40 else 0 + ((nI k).toInt - 0).toNat, []) := rfl
  rw [e, lp_toInt k hk]
  by_cases h : k < 40
  · rw [if_pos h, if_neg (by omega)]
    congr 2
    omega
  · rw [if_neg h, if_pos (by omega)]
theorem lp_gt {j Ls : Nat} (h : ¬ 6 * j + 5 < Ls) (h2 : 6 * j ≤ Ls) (hL : Ls ≤ 3072) : nI Ls - Int32.ofInt 6 < nI (6 * j) := by
  by_cases h6 : Ls < 6
  · have e : j = 0 := by omega
    subst e
    exact lp_sub Ls h6
  · have e : nI Ls - Int32.ofInt 6 = nI (Ls - 6) := nI_subN (b := 6) (by omega) (by omega)
    rw [e]
    exact nI_lt (by omega) (by omega)
theorem lp_ng {j Ls : Nat} (h : 6 * j + 5 < Ls) (hL : Ls ≤ 3072) : ¬ nI Ls - Int32.ofInt 6 < nI (6 * j) := by
  have e : nI Ls - Int32.ofInt 6 = nI (Ls - 6) := nI_subN (b := 6) (by omega) (by omega)
  rw [e]
  exact nI_nlt (by omega) (by omega)
section So
variable {p : Program} {l : Launch} {e : Env} {R : Room} {s : State} {m : MethodId} {args : Array Value} {below : List Frame} {meth : Method} {c : Code} {Z : State → Prop} {D : va_G} {cs : Nat → ClassId} {b : Nat} {ad : Nat → Nat} {n0 s0 : Nat} {bs Ls i : Nat} {xs : Nat → Int32} {SW : State → Prop} {lab : Nat → Nat → Nat} {nx ns B : Nat} {w : Bool} {I : Nat → Nat → Int32} {J : Nat → Nat → Int64}
theorem lw_next {j : Nat} (C : LwH p l e R s m args below meth c Z D cs b ad n0 s0 bs Ls xs SW lab nx ns) (h : mm_G p l e R s m args below meth c Z 4 D cs b ad n0 s0 18 [some (.ref 1000002), some (.ref 0), some (.ref 323), some (.int (nI (6 * (j + 1))))] [] (nx, ns, SH w, I, J)) : mm_G p l e R s m args below meth c Z 4 D cs b ad n0 s0 1444 [some (.ref 1000002), some (.ref 0), some (.ref 323), some (.int (nI (6 * j)))] [] (nx, ns, SH w, I, J) := by
  obtain ⟨X, hstr, hN, hsw, hSW, hT, hX, hbl, hbb, had, hL3, hR, hnx, hroom⟩ := C
  refine mm_sok (i := (6, 3, 0, 6)) X hstr ⟨by omega, by omega⟩ hroom lp_1444 rfl ?_
  refine mm_jok X lp_1447 (b' := 0) rfl ?_
  have e1 : nI (6 * j) + Int32.ofInt 6 = nI (6 * (j + 1)) := by
    rw [show Int32.ofInt 6 = nI 6 from rfl, nI_add]
    rfl
  rw [← e1] at h
  exact h
theorem lw_one {k : Nat} (hk : k < 40) (C : LwH p l e R s m args below meth c Z D cs b ad n0 s0 bs Ls xs SW lab nx ns) (hi : i + 5 < Ls) (hB : B < 2 ^ 30) (h : IV B w I J) (kk : ∀ w I J, IV (B + 60) w I J → mm_G p l e R s m args below meth c Z 4 D cs b ad n0 s0 1444 [some (.ref 1000002), some (.ref 0), some (.ref 323), some (.int (nI i))] [] (nx, ns, SH w, I, J)) : mm_G p l e R s m args below meth c Z 4 D cs b ad n0 s0 (lwt k) [some (.ref 1000002), some (.ref 0), some (.ref 323), some (.int (nI i))] [] (nx, ns, SH w, I, J) := by
  by_cases h0 : k = 0
  · subst h0; exact lw_n_0 C hi hB h kk
  by_cases h1 : k = 1
  · subst h1; exact lw_n_1 C hi hB h kk
  by_cases h2 : k = 2
  · subst h2; exact lw_n_2 C hi hB h kk
  by_cases h3 : k = 3
  · subst h3; exact lw_n_3 C hi hB h kk
  by_cases h4 : k = 4
  · subst h4; exact lw_n_4 C hi hB h kk
  by_cases h5 : k = 5
  · subst h5; exact lw_n_5 C hi hB h kk
  by_cases h6 : k = 6
  · subst h6; exact lw_n_6 C hi hB h kk
  by_cases h7 : k = 7
  · subst h7; exact lw_n_7 C hi hB h kk
  by_cases h8 : k = 8
  · subst h8; exact lw_n_8 C hi hB h kk
  by_cases h9 : k = 9
  · subst h9; exact lw_n_9 C hi hB h kk
  by_cases h10 : k = 10
  · subst h10; exact lw_n_10 C hi hB h kk
  by_cases h11 : k = 11
  · subst h11; exact lw_n_11 C hi hB h kk
  by_cases h12 : k = 12
  · subst h12; exact lw_n_12 C hi hB h kk
  by_cases h13 : k = 13
  · subst h13; exact lw_n_13 C hi hB h kk
  by_cases h14 : k = 14
  · subst h14; exact lw_n_14 C hi hB h kk
  by_cases h15 : k = 15
  · subst h15; exact lw_n_15 C hi hB h kk
  by_cases h16 : k = 16
  · subst h16; exact lw_n_16 C hi hB h kk
  by_cases h17 : k = 17
  · subst h17; exact lw_n_17 C hi hB h kk
  by_cases h18 : k = 18
  · subst h18; exact lw_n_18 C hi hB h kk
  by_cases h19 : k = 19
  · subst h19; exact lw_n_19 C hi hB h kk
  by_cases h20 : k = 20
  · subst h20; exact lw_n_20 C hi hB h kk
  by_cases h21 : k = 21
  · subst h21; exact lw_n_21 C hi hB h kk
  by_cases h22 : k = 22
  · subst h22; exact lw_n_22 C hi hB h kk
  by_cases h23 : k = 23
  · subst h23; exact lw_n_23 C hi hB h kk
  by_cases h24 : k = 24
  · subst h24; exact lw_n_24 C hi hB h kk
  by_cases h25 : k = 25
  · subst h25; exact lw_n_25 C hi hB h kk
  by_cases h26 : k = 26
  · subst h26; exact lw_n_26 C hi hB h kk
  by_cases h27 : k = 27
  · subst h27; exact lw_n_27 C hi hB h kk
  by_cases h28 : k = 28
  · subst h28; exact lw_n_28 C hi hB h kk
  by_cases h29 : k = 29
  · subst h29; exact lw_n_29 C hi hB h kk
  by_cases h30 : k = 30
  · subst h30; exact lw_n_30 C hi hB h kk
  by_cases h31 : k = 31
  · subst h31; exact lw_n_31 C hi hB h kk
  by_cases h32 : k = 32
  · subst h32; exact lw_n_32 C hi hB h kk
  by_cases h33 : k = 33
  · subst h33; exact lw_n_33 C hi hB h kk
  by_cases h34 : k = 34
  · subst h34; exact lw_n_34 C hi hB h kk
  by_cases h35 : k = 35
  · subst h35; exact lw_n_35 C hi hB h kk
  by_cases h36 : k = 36
  · subst h36; exact lw_n_36 C hi hB h kk
  by_cases h37 : k = 37
  · subst h37; exact lw_n_37 C hi hB h kk
  by_cases h38 : k = 38
  · subst h38; exact lw_n_38 C hi hB h kk
  by_cases h39 : k = 39
  · subst h39; exact lw_n_39 C hi hB h kk
  omega
theorem lw_loop (C : LwH p l e R s m args below meth c Z D cs b ad n0 s0 bs Ls xs SW lab nx ns) (hend : ∀ w I J i, mm_G p l e R s m args below meth c Z 4 D cs b ad n0 s0 1450 [some (.ref 1000002), some (.ref 0), some (.ref 323), some (.int (nI i))] [] (nx, ns, SH w, I, J)) : ∀ n j B w I J, Ls ≤ 6 * j + n → 6 * j ≤ Ls → B ≤ 60 * j → IV B w I J → mm_G p l e R s m args below meth c Z 4 D cs b ad n0 s0 18 [some (.ref 1000002), some (.ref 0), some (.ref 323), some (.int (nI (6 * j)))] [] (nx, ns, SH w, I, J) := by
  intro n
  have C0 := C
  obtain ⟨X, hstr, hN, hsw, hSW, hT, hX, hbl, hbb, had, hL3, hR, hnx, hroom⟩ := C
  induction n with
  | zero =>
    intro j B w I J h1 h2 hB h
    refine mm_sok X hstr ⟨by omega, by omega⟩ hroom lp_18 rfl ?_
    refine mm_sok X hstr ⟨by omega, by omega⟩ hroom lp_19 rfl ?_
    refine lw_len X hX hbl hbb had lp_20 ?_
    refine mm_sok X hstr ⟨by omega, by omega⟩ hroom lp_21 rfl ?_
    refine mm_sok X hstr ⟨by omega, by omega⟩ hroom lp_23 rfl ?_
    refine mm_jok X lp_24 (b' := 0) (st' := []) (jj2t (f := 4) (decide_eq_true (lp_gt (by omega) h2 hL3))) ?_
    exact hend w I J _
  | succ n ih =>
    intro j B w I J h1 h2 hB h
    refine mm_sok X hstr ⟨by omega, by omega⟩ hroom lp_18 rfl ?_
    refine mm_sok X hstr ⟨by omega, by omega⟩ hroom lp_19 rfl ?_
    refine lw_len X hX hbl hbb had lp_20 ?_
    refine mm_sok X hstr ⟨by omega, by omega⟩ hroom lp_21 rfl ?_
    refine mm_sok X hstr ⟨by omega, by omega⟩ hroom lp_23 rfl ?_
    by_cases hl : 6 * j + 5 < Ls
    · refine mm_jok X lp_24 (b' := 1) (st' := []) (jj2f (f := 4) (decide_eq_false (lp_ng hl hL3))) ?_
      refine mm_sok X hstr ⟨by omega, by omega⟩ hroom lp_27 rfl ?_
      refine mm_sok X hstr ⟨by omega, by omega⟩ hroom lp_28 rfl ?_
      refine lw_ld X hX hbl hbb had (vp_in_nI (by omega) (by omega)) lp_29 ?_
      rw [nI_clamp (by omega)]
      refine mm_sok X hstr ⟨by omega, by omega⟩ hroom lp_30 rfl ?_
      refine mm_sok X hstr ⟨by omega, by omega⟩ hroom lp_32 rfl ?_
      have kk : ∀ B2 w I J, B2 ≤ 60 * (j + 1) → IV B2 w I J → mm_G p l e R s m args below meth c Z 4 D cs b ad n0 s0 1444 [some (.ref 1000002), some (.ref 0), some (.ref 323), some (.int (nI (6 * j)))] [] (nx, ns, SH w, I, J) := fun B2 w I J hb2 hiv => lw_next C0 (ih (j + 1) B2 w I J (by omega) (by omega) hb2 hiv)
      obtain ⟨k, hk, ek⟩ := pk_andE (xs (6 * j)) (m := 63) 6 (by decide)
      have ek2 : mm_ibin 3 (xs (6 * j)) (Int32.ofInt 63) = nI k := ek
      rw [ek2]
      refine mm_jok X lp_33 (lp_sw (by omega)) ?_
      by_cases h40 : k < 40
      · rw [if_pos h40]
        exact lw_one h40 C0 hl (by omega) h (fun w I J hiv => kk (B + 60) w I J (by omega) hiv)
      · rw [if_neg h40]
        exact kk B w I J (by omega) h
    · refine mm_jok X lp_24 (b' := 0) (st' := []) (jj2t (f := 4) (decide_eq_true (lp_gt (by omega) h2 hL3))) ?_
      exact hend w I J _
end So
