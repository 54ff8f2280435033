/-! ===== The law: its start (by program, gen/mkstart.py) ===== -/
theorem st_0 : mm_one "FenceSidesLaw" "law" (36, 11, 1022, 0) (decode code 0) = some 3 := by decide +kernel
theorem st_3 : mm_one "FenceSidesLaw" "law" (11, 0, 0, 0) (decode code 3) = some 1 := by decide +kernel
theorem st_4 : mm_cck "FenceSidesLaw" kt_0 1024 (decode code 4) = true := by decide +kernel
theorem st_7 : mm_one "FenceSidesLaw" "law" (5, 1, 0, 0) (decode code 7) = some 1 := by decide +kernel
theorem st_8 : mm_one "FenceSidesLaw" "law" (36, 12, 5138, 0) (decode code 8) = some 3 := by decide +kernel
theorem st_11 : mm_one "FenceSidesLaw" "law" (11, 0, 0, 0) (decode code 11) = some 1 := by decide +kernel
theorem st_12 : mm_cck "FenceSidesLaw" kt_56 5140 (decode code 12) = true := by decide +kernel
theorem st_15 : mm_one "FenceSidesLaw" "law" (5, 2, 0, 0) (decode code 15) = some 1 := by decide +kernel
theorem st_16 : mm_one "FenceSidesLaw" "law" (7, 0, 0, 0) (decode code 16) = some 1 := by decide +kernel
theorem st_17 : mm_one "FenceSidesLaw" "law" (3, 3, 0, 0) (decode code 17) = some 1 := by decide +kernel
theorem ms36_ok {G : Nat → mm_Sh} {I : Nat → Nat → Int32} {J : Nat → Nat → Int64} {k ns t a2 : Nat} {a3 : Int} {ks2 : List (Option (Option Nat))} {L : mm_L} {st : List Value} (hks : mm_new t = some ks2) (hk : k < 999999) (hz : Zr I J k) : mm_stp (36, t, a2, a3) L st (k, ns, cS G k, I, J) = some (L, .ref k :: st, k + 1, ns + ks2.length, cS (mm_up G k (.inl (t, ks2))) (k + 1), I, J) := by
  show ms_36 t a2 a3 L st (k, ns, cS G k, I, J) = _
  unfold ms_36
  simp only [hks]
  rw [if_pos (by omega), cS_new, (Zr_up hz).1]
section Sp
variable {p : Program} {l : Launch} {e : Env} {R : Room} {s : State} {m : MethodId} {args : Array Value} {below : List Frame} {meth : Method} {c : Code} {Z : State → Prop} {D : va_G} {cs : Nat → ClassId} {b : Nat} {ad : Nat → Nat} {n0 s0 : Nat} {SW : State → Prop} {lab : Nat → Nat → Nat} {cc : ByteArray} {own mn : String} {nL pc : Nat} {L : mm_L} {u : mm_M} {tb : Nat → Option mm_T}
theorem lw_init {d y w9 q rc : Nat} {t : mm_T} {v : Option Value} {u1 : mm_M} {rest : List Value} (X : mm_C p s m args meth c cc own mn nL D cs b ad) (hN : mm_N s) (hsw : SW s) (hSW : mm_SWok l D cs b ad SW) (hT : mm_Tab tb mm_nf mm_Cd mm_Ml lab) (ht : tb y = some t) (hnf : mm_nf y = (1, 2, rc)) (hcc : mm_cck own t w9 (decode cc pc) = true) (hRf : d + 11 ≤ R.frames ∧ 40 * d + 440 ≤ R.locals) (hroom : u1.1 - n0 ≤ R.cells ∧ u1.2.1 - s0 ≤ R.slots) (hr : (rest.map fun x => x.category).sum ≤ 8) (h4 : mm_E d y [.ref q] u v u1) (k : mm_G p l e R s m args below meth c Z nL D cs b ad n0 s0 (pc + 3) L (v.toList ++ rest) u1) : mm_G p l e R s m args below meth c Z nL D cs b ad n0 s0 pc L (.ref q :: rest) u := by
  obtain ⟨cw, tck, hmL, -, e5, -, -⟩ := hT y t ht
  have e6 := hnf.symm.trans e5
  have hOk := mm_ev_ok (l := l) (D := D) (cs := cs) (b := b) (ad := ad) (SW := SW) hSW X.2.2.2.2.2.2.1 hT d
  have hmo := mm_ev_mono mm_nf mm_Cd mm_Ml d _ _ _ _ _ h4
  exact mm_call (v1 := v) (na := 1) (kd := 2) (rc := rc) X hN hsw hSW hOk ht cw tck hcc (congrArg Prod.fst e6) (congrArg (fun x => x.2.1) e6) (congrArg (fun x => x.2.2) e6) hmL hRf hroom hmo.1 hmo.2 (by simp) rfl hr h4 k
theorem lw_begin (X : mm_C p s m args meth c code "FenceSidesLaw" "law" 4 D cs b ad) (hstr : mm_Str p l e R s m args below meth c Z code "FenceSidesLaw" "law" 4 D cs b ad 0 0) (hN : mm_N s) (hsw : SW s) (hSW : mm_SWok l D cs b ad SW) (hT : mm_Tab mm_tbl mm_nf mm_Cd mm_Ml lab) (hR : 60 ≤ R.frames ∧ 3000 ≤ R.locals) (hRc : 1000 ≤ R.cells ∧ 100000 ≤ R.slots) (k : ∀ ns Y J2, ns ≤ 60000 → IV 0 false Y J2 → mm_G p l e R s m args below meth c Z 4 D cs b ad 0 0 18 [some (.ref 1000002), some (.ref 0), some (.ref 323), some (.int (nI 0))] [] (370, ns, SH false, Y, J2)) : mm_G p l e R s m args below meth c Z 4 D cs b ad 0 0 0 [some (.ref 1000002), none, none, none] [] (0, 0, cS (SH false) 0, zI, zJ) := by
  have hz0 : Zr zI zJ 0 := fun a _ => ⟨rfl, rfl⟩
  have s1 : mm_stp (36, 11, 1022, 0) [some (.ref 1000002), none, none, none] [] (0, 0, cS (SH false) 0, zI, zJ) = some ([some (.ref 1000002), none, none, none], [.ref 0], 1, 13, cS (mm_up (SH false) 0 (.inl (11, [some none, some none, some none, some none, some none, some none, some none, some none, some none, some none, some none, some none, none]))) 1, zI, zJ) := ms36_ok (ns := 0) (ks2 := [some none, some none, some none, some none, some none, some none, some none, some none, some none, some none, some none, some none, none]) rfl (by omega) hz0
  refine mm_sok (u' := (1, 13, cS (mm_up (SH false) 0 (.inl (11, [some none, some none, some none, some none, some none, some none, some none, some none, some none, some none, some none, some none, none]))) 1, zI, zJ)) X hstr ⟨by omega, by omega⟩ ⟨by show 1 - 0 ≤ R.cells; omega, by show 13 - 0 ≤ R.slots; omega⟩ st_0 s1 ?_
  refine mm_sok (u' := (1, 13, cS (mm_up (SH false) 0 (.inl (11, [some none, some none, some none, some none, some none, some none, some none, some none, some none, some none, some none, some none, none]))) 1, zI, zJ)) X hstr ⟨by omega, by omega⟩ ⟨by show 1 - 0 ≤ R.cells; omega, by show 13 - 0 ≤ R.slots; omega⟩ st_3 rfl ?_
  obtain ⟨v, u1, h1, rfl, ns, Y, rfl, hns, fY, f3, r1, r2⟩ := k_iX (dd := 40) (by omega) (Q := fun v w => v = none ∧ ∃ ns Y, w = (323, ns, cS (SH false) 323, Y, mm_up zJ 8 (jw 21)) ∧ ns ≤ 30000 ∧ (∀ q, ¬ (q = 3) → ¬ (9 ≤ q ∧ q ≤ 34) → Y q = fun _ => 0) ∧ Y 3 = mm_up (fun _ => 0) 2 nM1 ∧ RXd Y (mm_up zJ 8 (jw 21)) 9 TS0 0 ∧ RXd Y (mm_up zJ 8 (jw 21)) 22 TS0 0) (fun ns Y g1 g2 g3 g4 g5 => ⟨rfl, ns, Y, rfl, g1, g2, g3, g4, g5⟩)
  refine lw_init (d := 40) (rc := 11) X hN hsw hSW hT (show mm_tbl 0 = some kt_0 from rfl) nf_0 st_4 ⟨by omega, by omega⟩ ⟨by show 323 - 0 ≤ R.cells; omega, by show ns - 0 ≤ R.slots; omega⟩ (by show 1 ≤ 8; omega) h1 ?_
  refine mm_sok (u' := (323, ns, cS (SH false) 323, Y, mm_up zJ 8 (jw 21))) X hstr ⟨by omega, by omega⟩ ⟨by show 323 - 0 ≤ R.cells; omega, by show ns - 0 ≤ R.slots; omega⟩ st_7 rfl ?_
  have hJz : ∀ q, 323 ≤ q → mm_up zJ 8 (jw 21) q = fun _ => 0 := fun q hq => up_ne (by omega)
  have hz1 : Zr Y (mm_up zJ 8 (jw 21)) 323 := fun a ha => ⟨fY a (by omega) (by omega), hJz a ha⟩
  have s2 : mm_stp (36, 12, 5138, 0) [some (.ref 1000002), some (.ref 0), none, none] [] (323, ns, cS (SH false) 323, Y, mm_up zJ 8 (jw 21)) = some ([some (.ref 1000002), some (.ref 0), none, none], [.ref 323], 324, ns + 68, cS (mm_up (SH false) 323 (.inl (12, [none, some none, none, some none, none, some none, some none, some none, some none, some none, none, none, none, none, none, none, none, none, none, none, none, some none, some none, some none, some none, some none, some none, some none, some none, some none, some none, some none, some none, some none, some none, some none, some none, some none, none, some none, some none, some none, some none, some none, none, some none, some none, some none, none, some none, some none, none, some none, some none, none, none, some none, some none, some none, none, some none, some none, none, some none, some none, some none, some none, some none]))) 324, Y, mm_up zJ 8 (jw 21)) := ms36_ok (ks2 := [none, some none, none, some none, none, some none, some none, some none, some none, some none, none, none, none, none, none, none, none, none, none, none, none, some none, some none, some none, some none, some none, some none, some none, some none, some none, some none, some none, some none, some none, some none, some none, some none, some none, none, some none, some none, some none, some none, some none, none, some none, some none, some none, none, some none, some none, none, some none, some none, none, none, some none, some none, some none, none, some none, some none, none, some none, some none, some none, some none, some none]) rfl (by omega) hz1
  refine mm_sok (u' := (324, ns + 68, cS (mm_up (SH false) 323 (.inl (12, [none, some none, none, some none, none, some none, some none, some none, some none, some none, none, none, none, none, none, none, none, none, none, none, none, some none, some none, some none, some none, some none, some none, some none, some none, some none, some none, some none, some none, some none, some none, some none, some none, some none, none, some none, some none, some none, some none, some none, none, some none, some none, some none, none, some none, some none, none, some none, some none, none, none, some none, some none, some none, none, some none, some none, none, some none, some none, some none, some none, some none]))) 324, Y, mm_up zJ 8 (jw 21))) X hstr ⟨by omega, by omega⟩ ⟨by show 324 - 0 ≤ R.cells; omega, by show ns + 68 - 0 ≤ R.slots; omega⟩ st_8 s2 ?_
  refine mm_sok (u' := (324, ns + 68, cS (mm_up (SH false) 323 (.inl (12, [none, some none, none, some none, none, some none, some none, some none, some none, some none, none, none, none, none, none, none, none, none, none, none, none, some none, some none, some none, some none, some none, some none, some none, some none, some none, some none, some none, some none, some none, some none, some none, some none, some none, none, some none, some none, some none, some none, some none, none, some none, some none, some none, none, some none, some none, none, some none, some none, none, none, some none, some none, some none, none, some none, some none, none, some none, some none, some none, some none, some none]))) 324, Y, mm_up zJ 8 (jw 21))) X hstr ⟨by omega, by omega⟩ ⟨by show 324 - 0 ≤ R.cells; omega, by show ns + 68 - 0 ≤ R.slots; omega⟩ st_11 rfl ?_
  obtain ⟨v, u1, h2, rfl, ns2, Y2, J2, rfl, hns2, hIV⟩ := k_iM (dd := 40) (ns := ns + 68) (by omega) (Q := fun v w => v = none ∧ ∃ ns2 Y2 J2, w = (370, ns2, SH false, Y2, J2) ∧ ns2 ≤ 60000 ∧ IV 0 false Y2 J2) fY f3 r1 (by rw [up_at rfl]; exact jw_ok) hJz (fun Y2 J2 g1 => ⟨rfl, _, Y2, J2, rfl, by omega, g1⟩)
  refine lw_init (d := 40) (rc := 12) X hN hsw hSW hT (show mm_tbl 56 = some kt_56 from rfl) nf_56 st_12 ⟨by omega, by omega⟩ ⟨by show 370 - 0 ≤ R.cells; omega, by show ns2 - 0 ≤ R.slots; omega⟩ (by show 1 ≤ 8; omega) h2 ?_
  refine mm_sok (u' := (370, ns2, SH false, Y2, J2)) X hstr ⟨by omega, by omega⟩ ⟨by show 370 - 0 ≤ R.cells; omega, by show ns2 - 0 ≤ R.slots; omega⟩ st_15 rfl ?_
  refine mm_sok (u' := (370, ns2, SH false, Y2, J2)) X hstr ⟨by omega, by omega⟩ ⟨by show 370 - 0 ≤ R.cells; omega, by show ns2 - 0 ≤ R.slots; omega⟩ st_16 rfl ?_
  refine mm_sok (u' := (370, ns2, SH false, Y2, J2)) X hstr ⟨by omega, by omega⟩ ⟨by show 370 - 0 ≤ R.cells; omega, by show ns2 - 0 ≤ R.slots; omega⟩ st_17 rfl ?_
  exact k ns2 Y2 J2 hns2 hIV
end Sp
/-! the tables at the start -/
theorem st_in {w : Nat} {x : Jvm.Cond} {args : Array Value} {s : State} (hts : ∀ w ∈ lw_tbl, w.before args s = true) (h : mm_wd w = some x) : x.before args s = true := hts x (mm_wd_mem h)
theorem st_arr {args : Array Value} {s : State} {ty : FieldType} (h : (Cond.arrayClass ty).before args s = true) : ∃ cA : ClassId, ArrOfT s cA ty ∧ s.vm.findClass ("[" ++ ty.toString) = some cA := by
  obtain ⟨cA, kA, comp, h1, h2, h3⟩ := Cond.arrayClass_spec h
  exact ⟨cA, fun n z => ⟨fun k h => (by cases h), kA, h2, comp, h3⟩, h1⟩
theorem st_arq {args : Array Value} {s : State} {C : String} (h : (Cond.arrayOver (.object C)).before args s = true) : ∃ cA : ClassId, ArrOfT s cA (.object C) ∧ va_RA s cA (.object C) := by
  obtain ⟨comp, cA, kA, h1, h2, h3, h4, h5⟩ := Cond.arrayOver_spec h
  exact ⟨cA, fun n z => ⟨fun k h => (by cases h), kA, h3, comp, h4⟩, kA, comp, h3, h4, h1, h5⟩
theorem st_K {args : Array Value} {s : State} (hts : ∀ w ∈ lw_tbl, w.before args s = true) : ∃ (D : va_G) (cs : Nat → ClassId), va_K D vwCl (mm_tys cs) s := by
  obtain ⟨c0, i0, k0⟩ := u_known (C := RX0) (T := TX0) (N := 3) (n := 3) hts inX0 (st_in (w := 2137) hts rfl)
  obtain ⟨c1, i1, k1⟩ := u_known (C := RX1) (T := TX1) (N := 5) (n := 5) hts inX1 (st_in (w := 1148) hts rfl)
  obtain ⟨c2, i2, k2⟩ := u_known (C := RX2) (T := TX2) (N := 6) (n := 6) hts inX2 (st_in (w := 2110) hts rfl)
  obtain ⟨c3, i3, k3⟩ := u_known (C := RX3) (T := TX3) (N := 13) (n := 13) hts inX3 (st_in (w := 1142) hts rfl)
  obtain ⟨c4, i4, k4⟩ := u_known (C := RX4) (T := TX4) (N := 6) (n := 6) hts inX4 (st_in (w := 1047) hts rfl)
  obtain ⟨c5, i5, k5⟩ := u_known (C := RX5) (T := TX5) (N := 1) (n := 1) hts inX5 (st_in (w := 2100) hts rfl)
  obtain ⟨c6, i6, k6⟩ := u_known (C := RX6) (T := TX6) (N := 3) (n := 3) hts inX6 (st_in (w := 2084) hts rfl)
  obtain ⟨c7, i7, k7⟩ := u_known (C := RX7) (T := TX7) (N := 9) (n := 9) hts inX7 (st_in (w := 2021) hts rfl)
  obtain ⟨c8, i8, k8⟩ := u_known (C := RX8) (T := TX8) (N := 2) (n := 2) hts inX8 (st_in (w := 1031) hts rfl)
  obtain ⟨c9, i9, k9⟩ := u_known (C := RX9) (T := TX9) (N := 4) (n := 4) hts inX9 (st_in (w := 1053) hts rfl)
  obtain ⟨c10, i10, k10⟩ := u_known (C := RX10) (T := TX10) (N := 5) (n := 5) hts inX10 (st_in (w := 2157) hts rfl)
  obtain ⟨c11, i11, k11⟩ := u_known (C := RX11) (T := TX11) (N := 13) (n := 13) hts inX11 (st_in (w := 1023) hts rfl)
  obtain ⟨c12, i12, k12⟩ := u_known (C := RX12) (T := TX12) (N := 68) (n := 68) hts inX12 (st_in (w := 5139) hts rfl)
  obtain ⟨a0, g0, f0⟩ := st_arr (ty := .int) (st_in (w := 1118) hts rfl)
  obtain ⟨a1, g1, f1⟩ := st_arr (ty := .byte) (st_in (w := 1045) hts rfl)
  obtain ⟨a2, g2, f2⟩ := st_arr (ty := .boolean) (st_in (w := 2179) hts rfl)
  obtain ⟨a3, g3, f3⟩ := st_arr (ty := .long) (st_in (w := 1119) hts rfl)
  obtain ⟨a4, g4, f4⟩ := st_arq (C := "FenceSides$State") (st_in (w := 2143) hts rfl)
  refine ⟨(fun k => [c0, c1, c2, c3, c4, c5, c6, c7, c8, c9, c10, c11, c12].getD k c0, fun k => [i0, i1, i2, i3, i4, i5, i6, i7, i8, i9, i10, i11, i12].getD k i0), fun k => [a0, a1, a2, a3, a4].getD k a0, fun k q hq => ?_, fun k q hq => ?_⟩
  · match k, hq with
    | 0, hq => cases hq; exact k0
    | 1, hq => cases hq; exact k1
    | 2, hq => cases hq; exact k2
    | 3, hq => cases hq; exact k3
    | 4, hq => cases hq; exact k4
    | 5, hq => cases hq; exact k5
    | 6, hq => cases hq; exact k6
    | 7, hq => cases hq; exact k7
    | 8, hq => cases hq; exact k8
    | 9, hq => cases hq; exact k9
    | 10, hq => cases hq; exact k10
    | 11, hq => cases hq; exact k11
    | 12, hq => cases hq; exact k12
    | k + 13, hq => exact absurd (show k + 13 < 13 from (List.getElem?_eq_some_iff.mp hq).1) (by omega)
  · match k, hq with
    | 0, hq => cases hq; exact ⟨g0, f0⟩
    | 1, hq => cases hq; exact ⟨g1, f1⟩
    | 2, hq => cases hq; exact ⟨g2, f2⟩
    | 3, hq => cases hq; exact ⟨g3, f3⟩
    | 4, hq => cases hq; exact ⟨g4, f4⟩
    | k + 5, hq => exact absurd (show k + 5 < 5 from (List.getElem?_eq_some_iff.mp hq).1) (by omega)
theorem st_N {args : Array Value} {s : State} (hts : ∀ w ∈ lw_tbl, w.before args s = true) : mm_N s := by
  intro w hw hk
  have h1 := hts w hw
  rcases mm_kn_tab hk with ⟨a, i, y, h9, rfl⟩ | ⟨C, rfl⟩
  · exact va_Nw.of rfl h1
  · exact va_AO.of (C := C) h1
/-! the text constants at the start -/
def jTm (i : Nat) : Term := if i = 0 then .string "FenceSides$Tokens" 25 else .string "FenceSides$Tokens" 71
theorem jm_0 : ∀ j, j < 168 → (flatC (Jvm.Cond.and given_1 narrow_1))[13 + j]? = some (.eq (.elem (.field (jTm 0) "java/lang/String" "value" "[B") (.int (Int32.ofNat j))) (.int (mm_words.getD j 0))) := by decide +kernel
theorem jm_1 : ∀ j, j < 9 → (flatC (Jvm.Cond.and given_1 narrow_1))[185 + j]? = some (.eq (.elem (.field (jTm 1) "java/lang/String" "value" "[B") (.int (Int32.ofNat j))) (.int (mm_signs.getD j 0))) := by decide +kernel
theorem jm_a : (flatC (Jvm.Cond.and given_1 narrow_1))[4]? = some (.eq (.static "java/lang/String" "COMPACT_STRINGS" "Z") (.int 1)) := by decide +kernel
theorem jm_b : (flatC (Jvm.Cond.and given_1 narrow_1))[5]? = some (.isRef (.static "jdk/internal/util/Preconditions" "SIOOBE_FORMATTER" "Ljava/util/function/BiFunction;")) := by decide +kernel
theorem jm_c : (flatC (Jvm.Cond.and given_1 narrow_1))[194]? = some (.not (.eq (jTm 0) (jTm 1))) := by decide +kernel
theorem jm_x0 : (flatC (Jvm.Cond.and given_1 narrow_1))[9]? = some (.exactly (jTm 0) "java/lang/String") := by decide +kernel
theorem jm_y0 : (flatC (Jvm.Cond.and given_1 narrow_1))[10]? = some (.eq (.field (jTm 0) "java/lang/String" "coder" "B") (.int 0)) := by decide +kernel
theorem jm_z0 : (flatC (Jvm.Cond.and given_1 narrow_1))[11]? = some (.arrayOf (.field (jTm 0) "java/lang/String" "value" "[B") .byte) := by decide +kernel
theorem jm_l0 : (flatC (Jvm.Cond.and given_1 narrow_1))[12]? = some (.eq (.length (.field (jTm 0) "java/lang/String" "value" "[B")) (.int (Int32.ofNat (jLn.getD 0 0)))) := by decide +kernel
theorem jm_x1 : (flatC (Jvm.Cond.and given_1 narrow_1))[181]? = some (.exactly (jTm 1) "java/lang/String") := by decide +kernel
theorem jm_y1 : (flatC (Jvm.Cond.and given_1 narrow_1))[182]? = some (.eq (.field (jTm 1) "java/lang/String" "coder" "B") (.int 0)) := by decide +kernel
theorem jm_z1 : (flatC (Jvm.Cond.and given_1 narrow_1))[183]? = some (.arrayOf (.field (jTm 1) "java/lang/String" "value" "[B") .byte) := by decide +kernel
theorem jm_l1 : (flatC (Jvm.Cond.and given_1 narrow_1))[184]? = some (.eq (.length (.field (jTm 1) "java/lang/String" "value" "[B")) (.int (Int32.ofNat (jLn.getD 1 0)))) := by decide +kernel
theorem st_in2 {w : Nat} {x : Jvm.Cond} {args : Array Value} {s : State} (h : (Jvm.Cond.and given_1 narrow_1).before args s = true) (hx : (flatC (Jvm.Cond.and given_1 narrow_1))[w]? = some x) : x.before args s = true := flat_of_before _ h x (List.mem_of_getElem? hx)
theorem st_two {P : Nat → Prop} (h0 : P 0) (h1 : P 1) : ∀ i, i < 2 → P i := fun i hi => by
  rcases (show i = 0 ∨ i = 1 by omega) with rfl | rfl
  · exact h0
  · exact h1
theorem st_S {args : Array Value} {s : State} (hts : ∀ w ∈ lw_tbl, w.before args s = true) (hg : (Jvm.Cond.and given_1 narrow_1).before args s = true) : ∃ (aK aV : Nat → Nat) (z : Value), jSW s.heap.size aK aV z s ∧ (z = .null ∨ ∃ t, z = .ref t) := by
  have hA : ∀ a : Nat, a < s.heap.size → ¬ (fun q => s.heap.size ≤ q) a := fun a h1 h2 => absurd h1 (Nat.not_lt.mpr h2)
  obtain ⟨aK, aV, hS, hev⟩ := vk_Sof (args := args) (s := s) (N := 2) (tm := jTm) (len := jLn) (byt := jBy) (A := fun q => s.heap.size ≤ q) (st_two (by decide) (by decide))
    (st_two (st_in2 hg jm_x0) (st_in2 hg jm_x1)) (st_two (st_in2 hg jm_y0) (st_in2 hg jm_y1)) (st_two (st_in2 hg jm_z0) (st_in2 hg jm_z1)) (st_two (st_in2 hg jm_l0) (st_in2 hg jm_l1))
    (st_two (fun j hj => by rw [j_by0]; exact st_in2 hg (jm_0 j hj)) (fun j hj => by rw [j_by1]; exact st_in2 hg (jm_1 j hj)))
    (fun i j hi hj hij => by
      rcases (show (i = 0 ∧ j = 1) ∨ (i = 1 ∧ j = 0) by omega) with ⟨rfl, rfl⟩ | ⟨rfl, rfl⟩
      · exact Or.inl (st_in2 hg jm_c)
      · exact Or.inr (st_in2 hg jm_c)) hA
  have q1 : vk_R "FenceSides$Tokens" 25 "field   person  hedge   heirs   grows   dies    falls   costs   seed    if      then    else    high    years   age     faces   which   outer   inner   clipped gaps    " (aK 0) s := vk_R.of (st_in (w := 1058) hts rfl) (hev 0 (by omega))
  have q2 : vk_R "FenceSides$Tokens" 71 ";=+-*/<()" (aK 1) s := vk_R.of (st_in (w := 3039) hts rfl) (hev 1 (by omega))
  have q3 := va_Zof (st_in (w := 1068) hts rfl) (st_in (w := 1005) hts rfl) (va_eqi (st_in2 hg jm_a)) hA
  rcases va_Zqof (st_in (w := 1076) hts rfl) (st_in (w := 1007) hts rfl) (st_in2 hg jm_b) hA with q4 | ⟨t, q4⟩
  · exact ⟨aK, aV, .null, ⟨q1, q2, hS, q3, q4⟩, Or.inl rfl⟩
  · exact ⟨aK, aV, .ref t, ⟨q1, q2, hS, q3, q4⟩, Or.inr ⟨t, rfl⟩⟩
/-- the names of cells -/
def lwAd (b bs : Nat) (aK aV : Nat → Nat) (t : Nat) (q : Nat) : Nat := if q < 1000000 then b + q else if q = 1000000 then aK 0 else if q = 1000001 then aK 1 else if q = 1000002 then bs else if q = 1000003 then aV 0 else if q = 1000004 then aV 1 else t
theorem lwAd_lo {b bs : Nat} {aK aV : Nat → Nat} {t : Nat} : ∀ q, q < 1000000 → lwAd b bs aK aV t q = b + q := fun q h => if_pos h
theorem lwAd_s {b bs : Nat} {aK aV : Nat → Nat} {t : Nat} : lwAd b bs aK aV t 1000002 = bs := by
  unfold lwAd
  rw [if_neg (by omega), if_neg (by omega), if_neg (by omega), if_pos rfl]
theorem lwAd_t {b bs : Nat} {aK aV : Nat → Nat} {t : Nat} : lwAd b bs aK aV t 1000005 = t := by
  unfold lwAd
  rw [if_neg (by omega), if_neg (by omega), if_neg (by omega), if_neg (by omega), if_neg (by omega), if_neg (by omega)]
theorem lwAd_kv {b bs : Nat} {aK aV : Nat → Nat} {t : Nat} : ∀ i, i < 2 → lwAd b bs aK aV t (1000000 + i) = aK i ∧ lwAd b bs aK aV t (1000003 + i) = aV i := by
  refine st_two ⟨?_, ?_⟩ ⟨?_, ?_⟩
  · unfold lwAd
    rw [if_neg (by omega), if_pos (by omega)]
  · unfold lwAd
    rw [if_neg (by omega), if_neg (by omega), if_neg (by omega), if_neg (by omega), if_pos (by omega)]
  · unfold lwAd
    rw [if_neg (by omega), if_neg (by omega), if_pos (by omega)]
  · unfold lwAd
    rw [if_neg (by omega), if_neg (by omega), if_neg (by omega), if_neg (by omega), if_neg (by omega), if_pos (by omega)]
theorem st_ad {b bs : Nat} {aK aV : Nat → Nat} {z : Value} (h : z = .null ∨ ∃ t, z = .ref t) : ∃ (ad : Nat → Nat) (z0 : Value), jAd ad aK aV z z0 ∧ (∀ q, q < 1000000 → ad q = b + q) ∧ ad 1000002 = bs := by
  rcases h with rfl | ⟨t, rfl⟩
  · exact ⟨lwAd b bs aK aV 0, .null, ⟨lwAd_kv, rfl, Or.inl rfl⟩, lwAd_lo, lwAd_s⟩
  · exact ⟨lwAd b bs aK aV t, .ref 1000005, ⟨lwAd_kv, by show Value.ref (lwAd b bs aK aV t 1000005) = _; rw [lwAd_t], Or.inr rfl⟩, lwAd_lo, lwAd_s⟩
