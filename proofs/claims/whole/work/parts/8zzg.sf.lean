/-! ===== The reference's constructor (by program, gen/mkm.py) ===== -/
theorem cS_full : cS (SH false) 370 = SH false := by
  funext a
  unfold cS
  by_cases h : a < 370
  · rw [if_pos h]
  · rw [if_neg h]
    unfold SH
    rw [if_neg (by omega), if_neg (by omega), if_neg (by omega)]
    unfold SHx
    split
    all_goals first | rfl | omega
def ap (a l : Nat) : Nat := if l = 0 then a else 27 * a + (l - 96)
def okl (l : Nat) : Prop := l = 0 ∨ (97 ≤ l ∧ l ≤ 122)
section Sf
variable {w : Bool} {nx ns : Nat} {I Y : Nat → Nat → Int32} {J J0 : Nat → Nat → Int64} {d i a1 a2 a3 a4 a5 a6 a7 : Nat} {Q : Option Value → mm_M → Prop} {is : List mm_I} {g : Nat → Int64}
theorem c_mapp {a l : Nat} {u : mm_M} (h : okl l) : RT 1 63 [.long (lN a), .int (nI l)] u (some (.long (lN (ap a l)))) u := by
  rcases h with rfl | ⟨h1, h2⟩
  · refine EV_of (show 3 ≤ 3 from by decide) ?_; show WP 0 63 (mm_Cd 63 0) [some (.long (lN a)), none, some (.int (nI 0))] [] _ _
    simp (disch := first | decide | omega) only [wp_iload, wp_lload, wp_aload, wp_istore, wp_lstore, wp_astore, wp_iinc, wp_iconst, wp_lconst, wp_sconst, wp_pop_int, wp_dup_int, wp_pop_ref, wp_dup_ref, wp_dup2_ri, wp_ibin, wp_idiv, wp_irem, wp_lbin, wp_lshl, wp_lcmp, wp_i2l, wp_l2i, wp_i2b, wp_i2c, wp_max, wp_min, wp_23, wp_24, wp_25, wp_26, wp_27, wp_28, wp_29, wp_30, wp_31, wp_32, wp_33, wp_34, wp_35, wp_36, wp_37, wp_38, wp_39, wp_40, wp_41, wp_42, wp_goto, wp_jmp, wp_sw_in, wp_sw_in2, wp_if0, wp_icmp0, wp_if1, wp_icmp1, wp_if2, wp_icmp2, wp_if3, wp_icmp3, wp_if4, wp_icmp4, wp_if5, wp_icmp5, wp_iret, wp_zret, wp_lret, wp_vret, wp_call, ms_23, ms_24, ms_25, ms_26, ms_27, ms_28, ms_29, ms_30, ms_31, ms_32, ms_33, ms_34, ms_35, ms_39, ms_40, ms_41, ms_42, mm_go_some, mm_go_none, mm_go_ite, mm_go_ite2, List.getElem?_cons_zero, List.getElem?_cons_succ, List.length_cons, List.length_nil, mm_sto1, mm_kill, mm_ibin, List.set_cons_zero, List.set_cons_succ, Value.category, ↓reduceIte, Option.some.injEq, mm_in_iff, List.take_succ_cons, List.take_zero, List.drop_succ_cons, List.drop_zero, List.reverse_cons, List.reverse_nil, List.nil_append, List.cons_append, List.map_cons, List.map_nil, List.sum_cons, List.sum_nil, mm_rc, Option.toList_some, Option.toList_none, List.append_nil, Int32.reduceOfInt, Int64.reduceOfInt, Nat.reduceEqDiff, Nat.reduceLT, Nat.reduceMul, one_two, Nat.not_lt_zero, not_false_eq_true, not_true_eq_false, if_false, if_true, true_or, or_true, false_or, or_false, true_and, and_true, Nat.reduceLeDiff, Nat.reduceAdd, eq_self_iff_true, decide_true, li_0, li_1, li_2, li_3, li_4, li_5, li_6, li_7, li_8, li_9, li_10, li_11, li_12, li_13, li_14, li_15, li_16, li_17, li_18, li_19, li_20, li_21, li_22, li_23, li_24, li_25, li_26, li_27, li_28, li_29, li_30, li_31, li_32, li_33, li_36, li_38, li_40, li_41, li_42, li_43, li_45, li_47, li_48, li_57, li_58, li_59, li_60, li_61, li_63, li_64, li_68, li_69, li_97, li_99, li_100, li_101, li_102, li_103, li_104, li_105, li_108, li_110, li_111, li_112, li_114, li_115, li_116, li_117, li_119, li_121, li_122, li_130, li_155, li_199, li_207, li_255, li_260, li_400, li_401, li_403, li_404, li_420, li_840, li_2000, li_2691, li_2760, li_9999, li_12345, li_252645135, li_858993459, li_1103515245, li_1431655765, lm_1, lm_2, nM1_lt, nM2_lt, nI_nM1, nI_nM2, nM1_nI, nM2_nI, nI_le_nM, nI_le_nM2, nI_lt_nM, nI_lt_nM2, nM12, nM21, nI_add, pk_mul, nI_leI, nI_ltI, nI_eq, nI_clamp, vp_in_nI, mm_up2_eq, mm_up_up, up_ne, up_at, mm_up_sw, Nat.add_assoc, SH_323, SH_324, SH_325, SH_326, SH_327, SH_328, SH_329, SH_330, SH_331, SH_332, SH_333, SH_334, SH_335, SH_336, SH_337, SH_338, SH_339, SH_340, SH_341, SH_342, SH_343, SH_344, SH_345, SH_346, SH_347, SH_348, SH_349, SH_350, SH_351, SH_352, SH_353, SH_354, SH_355, SH_356, SH_357, SH_358, SH_359, SH_360, SH_361, SH_362, SH_363, SH_364, SH_365, SH_366, SH_367, SH_368, SH_369, cd_63_0, kb_63_0, cd_63_1, kb_63_1, cd_63_3, kb_63_3]
    first | rfl | exact ⟨rfl, rfl⟩
  · have e : ap a l = 27 * a + (l - 96) := if_neg (by omega)
    rw [e]
    exact c_mappends h1 h2
theorem e_mapp {a l : Nat} {u : mm_M} (h : okl l) {dd : Nat} {QQ : Option Value → mm_M → Prop} (hdd : 1 ≤ dd) : EV dd 63 [.long (lN a), .int (nI l)] u QQ ↔ QQ (some (.long (lN (ap a l)))) u := (c_mapp h).ev hdd
theorem c_mword {u : mm_M} (h1 : okl a1) (h2 : okl a2) (h3 : okl a3) (h4 : okl a4) (h5 : okl a5) (h6 : okl a6) (h7 : okl a7) : RT 2 64 [.int (nI a1), .int (nI a2), .int (nI a3), .int (nI a4), .int (nI a5), .int (nI a6), .int (nI a7)] u (some (.long (lN (ap (ap (ap (ap (ap (ap (ap 0 a1) a2) a3) a4) a5) a6) a7)))) u := by
  refine EV_of (show 7 ≤ 7 from by decide) ?_; show WP 1 64 (mm_Cd 64 0) [some (.int (nI a1)), some (.int (nI a2)), some (.int (nI a3)), some (.int (nI a4)), some (.int (nI a5)), some (.int (nI a6)), some (.int (nI a7))] [] _ _
  simp (disch := first | decide | omega) only [wp_iload, wp_lload, wp_aload, wp_istore, wp_lstore, wp_astore, wp_iinc, wp_iconst, wp_lconst, wp_sconst, wp_pop_int, wp_dup_int, wp_pop_ref, wp_dup_ref, wp_dup2_ri, wp_ibin, wp_idiv, wp_irem, wp_lbin, wp_lshl, wp_lcmp, wp_i2l, wp_l2i, wp_i2b, wp_i2c, wp_max, wp_min, wp_23, wp_24, wp_25, wp_26, wp_27, wp_28, wp_29, wp_30, wp_31, wp_32, wp_33, wp_34, wp_35, wp_36, wp_37, wp_38, wp_39, wp_40, wp_41, wp_42, wp_goto, wp_jmp, wp_sw_in, wp_sw_in2, wp_if0, wp_icmp0, wp_if1, wp_icmp1, wp_if2, wp_icmp2, wp_if3, wp_icmp3, wp_if4, wp_icmp4, wp_if5, wp_icmp5, wp_iret, wp_zret, wp_lret, wp_vret, wp_call, ms_23, ms_24, ms_25, ms_26, ms_27, ms_28, ms_29, ms_30, ms_31, ms_32, ms_33, ms_34, ms_35, ms_39, ms_40, ms_41, ms_42, mm_go_some, mm_go_none, mm_go_ite, mm_go_ite2, List.getElem?_cons_zero, List.getElem?_cons_succ, List.length_cons, List.length_nil, mm_sto1, mm_kill, mm_ibin, List.set_cons_zero, List.set_cons_succ, Value.category, ↓reduceIte, Option.some.injEq, mm_in_iff, List.take_succ_cons, List.take_zero, List.drop_succ_cons, List.drop_zero, List.reverse_cons, List.reverse_nil, List.nil_append, List.cons_append, List.map_cons, List.map_nil, List.sum_cons, List.sum_nil, mm_rc, Option.toList_some, Option.toList_none, List.append_nil, Int32.reduceOfInt, Int64.reduceOfInt, Nat.reduceEqDiff, Nat.reduceLT, Nat.reduceMul, one_two, Nat.not_lt_zero, not_false_eq_true, not_true_eq_false, if_false, if_true, true_or, or_true, false_or, or_false, true_and, and_true, Nat.reduceLeDiff, Nat.reduceAdd, eq_self_iff_true, decide_true, li_0, li_1, li_2, li_3, li_4, li_5, li_6, li_7, li_8, li_9, li_10, li_11, li_12, li_13, li_14, li_15, li_16, li_17, li_18, li_19, li_20, li_21, li_22, li_23, li_24, li_25, li_26, li_27, li_28, li_29, li_30, li_31, li_32, li_33, li_36, li_38, li_40, li_41, li_42, li_43, li_45, li_47, li_48, li_57, li_58, li_59, li_60, li_61, li_63, li_64, li_68, li_69, li_97, li_99, li_100, li_101, li_102, li_103, li_104, li_105, li_108, li_110, li_111, li_112, li_114, li_115, li_116, li_117, li_119, li_121, li_122, li_130, li_155, li_199, li_207, li_255, li_260, li_400, li_401, li_403, li_404, li_420, li_840, li_2000, li_2691, li_2760, li_9999, li_12345, li_252645135, li_858993459, li_1103515245, li_1431655765, lm_1, lm_2, nM1_lt, nM2_lt, nI_nM1, nI_nM2, nM1_nI, nM2_nI, nI_le_nM, nI_le_nM2, nI_lt_nM, nI_lt_nM2, nM12, nM21, nI_add, pk_mul, nI_leI, nI_ltI, nI_eq, nI_clamp, vp_in_nI, mm_up2_eq, mm_up_up, up_ne, up_at, mm_up_sw, Nat.add_assoc, SH_323, SH_324, SH_325, SH_326, SH_327, SH_328, SH_329, SH_330, SH_331, SH_332, SH_333, SH_334, SH_335, SH_336, SH_337, SH_338, SH_339, SH_340, SH_341, SH_342, SH_343, SH_344, SH_345, SH_346, SH_347, SH_348, SH_349, SH_350, SH_351, SH_352, SH_353, SH_354, SH_355, SH_356, SH_357, SH_358, SH_359, SH_360, SH_361, SH_362, SH_363, SH_364, SH_365, SH_366, SH_367, SH_368, SH_369, cd_64_0, kb_64_0, nf_63, ll_0, e_mapp h1, e_mapp h2, e_mapp h3, e_mapp h4, e_mapp h5, e_mapp h6, e_mapp h7]
theorem e_mword {u : mm_M} (h1 : okl a1) (h2 : okl a2) (h3 : okl a3) (h4 : okl a4) (h5 : okl a5) (h6 : okl a6) (h7 : okl a7) {dd : Nat} {QQ : Option Value → mm_M → Prop} (hdd : 2 ≤ dd) : EV dd 64 [.int (nI a1), .int (nI a2), .int (nI a3), .int (nI a4), .int (nI a5), .int (nI a6), .int (nI a7)] u QQ ↔ QQ (some (.long (lN (ap (ap (ap (ap (ap (ap (ap 0 a1) a2) a3) a4) a5) a6) a7)))) u := (c_mword h1 h2 h3 h4 h5 h6 h7).ev hdd
theorem wp_key {x v0 v1 v2 v3 v4 v5 v6 v7 c2 : Int} {c1 : Nat} (hd : 2 ≤ d) (hi : i < 21) (e0 : Int32.ofInt v0 = nI i) (e1 : Int32.ofInt v1 = nI a1) (e2 : Int32.ofInt v2 = nI a2) (e3 : Int32.ofInt v3 = nI a3) (e4 : Int32.ofInt v4 = nI a4) (e5 : Int32.ofInt v5 = nI a5) (e6 : Int32.ofInt v6 = nI a6) (e7 : Int32.ofInt v7 = nI a7) (h1 : okl a1) (h2 : okl a2) (h3 : okl a3) (h4 : okl a4) (h5 : okl a5) (h6 : okl a6) (h7 : okl a7) (h : WP d 56 is [some (.ref 323)] [] (nx, ns, SH w, I, mm_up J0 330 (mm_up g i (lN (ap (ap (ap (ap (ap (ap (ap 0 a1) a2) a3) a4) a5) a6) a7)))) Q) : WP d 56 ((2, 0, 0, 0) :: (23, 12, 9, x) :: (7, 0, 0, v0) :: (7, 0, 0, v1) :: (7, 0, 0, v2) :: (7, 0, 0, v3) :: (7, 0, 0, v4) :: (7, 0, 0, v5) :: (7, 0, 0, v6) :: (7, 0, 0, v7) :: (70, 64, c1, c2) :: (32, 0, 0, 0) :: is) [some (.ref 323)] [] (nx, ns, SH w, I, mm_up J0 330 g) Q := by
  rw [wp_aload]
  show WP d 56 _ _ [.ref 323] _ _
  rw [wp_23]
  show WP d 56 _ _ [.ref 330] _ _
  rw [wp_iconst, wp_iconst, wp_iconst, wp_iconst, wp_iconst, wp_iconst, wp_iconst, wp_iconst, e0, e1, e2, e3, e4, e5, e6, e7, wp_call, nf_64]
  refine ⟨by show 7 ≤ 9; omega, rfl, by show 2 ≤ 8; omega, ?_⟩
  show EV d 64 [.int (nI a1), .int (nI a2), .int (nI a3), .int (nI a4), .int (nI a5), .int (nI a6), .int (nI a7)] _ _
  rw [e_mword h1 h2 h3 h4 h5 h6 h7 hd]
  show WP d 56 _ _ [.long (lN (ap (ap (ap (ap (ap (ap (ap 0 a1) a2) a3) a4) a5) a6) a7)), .int (nI i), .ref 330] _ _
  rw [wp_32]
  have u3 : mm_in (nI i) 21 = true := by
    rw [mm_in_iff, mm_vpd, nI_clamp (by omega)]
    exact fun hc => hc.elim (nI_nn (by omega)) (fun hc => by omega)
  have u1 : SH w 330 = mm_arr 3 21 := rfl
  have e : ms_32 0 0 0 [some (.ref 323)] [.long (lN (ap (ap (ap (ap (ap (ap (ap 0 a1) a2) a3) a4) a5) a6) a7)), .int (nI i), .ref 330] (nx, ns, SH w, I, mm_up J0 330 g) = some ([some (.ref 323)], [], nx, ns, SH w, I, mm_up J0 330 (mm_up g i (lN (ap (ap (ap (ap (ap (ap (ap 0 a1) a2) a3) a4) a5) a6) a7)))) := by
    unfold ms_32
    simp only [u1, u3, nI_clamp (show i < 2 ^ 31 by omega), and_self, if_true]
    rw [mm_up2_eq, up_at rfl, mm_up_up]
  rw [e]
  exact h
theorem Zr_17 {J : Nat → Nat → Int64} {k j : Nat} {x : Int32} (h : Zr Y J k) (hk : 323 < k := by decide) : Zr (mm_up Y 323 (mm_up (Y 323) j x)) J k := fun a ha => ⟨by rw [up_ne (by omega)]; exact (h a ha).1, (h a ha).2⟩
def mkeys (g : Nat → Int64) : Nat → Int64 := mm_up (mm_up (mm_up (mm_up (mm_up (mm_up (mm_up (mm_up (mm_up (mm_up (mm_up (mm_up (mm_up (mm_up (mm_up (mm_up (mm_up (mm_up (mm_up (mm_up (mm_up (g) 0 (lN (ap (ap (ap (ap (ap (ap (ap 0 102) 105) 101) 108) 100) 0) 0))) 1 (lN (ap (ap (ap (ap (ap (ap (ap 0 112) 101) 114) 115) 111) 110) 0))) 2 (lN (ap (ap (ap (ap (ap (ap (ap 0 104) 101) 100) 103) 101) 0) 0))) 3 (lN (ap (ap (ap (ap (ap (ap (ap 0 104) 101) 105) 114) 115) 0) 0))) 4 (lN (ap (ap (ap (ap (ap (ap (ap 0 103) 114) 111) 119) 115) 0) 0))) 5 (lN (ap (ap (ap (ap (ap (ap (ap 0 100) 105) 101) 115) 0) 0) 0))) 6 (lN (ap (ap (ap (ap (ap (ap (ap 0 102) 97) 108) 108) 115) 0) 0))) 7 (lN (ap (ap (ap (ap (ap (ap (ap 0 99) 111) 115) 116) 115) 0) 0))) 8 (lN (ap (ap (ap (ap (ap (ap (ap 0 115) 101) 101) 100) 0) 0) 0))) 9 (lN (ap (ap (ap (ap (ap (ap (ap 0 105) 102) 0) 0) 0) 0) 0))) 10 (lN (ap (ap (ap (ap (ap (ap (ap 0 116) 104) 101) 110) 0) 0) 0))) 11 (lN (ap (ap (ap (ap (ap (ap (ap 0 101) 108) 115) 101) 0) 0) 0))) 12 (lN (ap (ap (ap (ap (ap (ap (ap 0 104) 105) 103) 104) 0) 0) 0))) 13 (lN (ap (ap (ap (ap (ap (ap (ap 0 121) 101) 97) 114) 115) 0) 0))) 14 (lN (ap (ap (ap (ap (ap (ap (ap 0 97) 103) 101) 0) 0) 0) 0))) 15 (lN (ap (ap (ap (ap (ap (ap (ap 0 102) 97) 99) 101) 115) 0) 0))) 16 (lN (ap (ap (ap (ap (ap (ap (ap 0 119) 104) 105) 99) 104) 0) 0))) 17 (lN (ap (ap (ap (ap (ap (ap (ap 0 111) 117) 116) 101) 114) 0) 0))) 18 (lN (ap (ap (ap (ap (ap (ap (ap 0 105) 110) 110) 101) 114) 0) 0))) 19 (lN (ap (ap (ap (ap (ap (ap (ap 0 99) 108) 105) 112) 112) 101) 100))) 20 (lN (ap (ap (ap (ap (ap (ap (ap 0 103) 97) 112) 115) 0) 0) 0))
theorem mkeys_ok : kwR 27 (mkeys g) := fun w hw => by
  rcases (show w = 0 ∨ w = 1 ∨ w = 2 ∨ w = 3 ∨ w = 4 ∨ w = 5 ∨ w = 6 ∨ w = 7 ∨ w = 8 ∨ w = 9 ∨ w = 10 ∨ w = 11 ∨ w = 12 ∨ w = 13 ∨ w = 14 ∨ w = 15 ∨ w = 16 ∨ w = 17 ∨ w = 18 ∨ w = 19 ∨ w = 20 by omega) with rfl | rfl | rfl | rfl | rfl | rfl | rfl | rfl | rfl | rfl | rfl | rfl | rfl | rfl | rfl | rfl | rfl | rfl | rfl | rfl | rfl
  all_goals rfl
theorem k_iM {dd : Nat} (hd : 3 ≤ dd) (fY : ∀ q, ¬ q = 3 → ¬ (9 ≤ q ∧ q ≤ 34) → Y q = fun _ => 0) (f3 : Y 3 = mm_up (fun _ => 0) 2 nM1) (r1 : RXd Y J 9 TS0 0) (hJ8 : kwR 32 (J 8)) (hJz : ∀ q, 323 ≤ q → J q = fun _ => 0) (hK : ∀ Z J2, IV 0 false Z J2 → Q none (370, ns + 2000 + 2000 + 403 + 403 + 403 + 403 + 21 + 13 + 13 + 2 + 2 + 12 + 12 + 12 + 2 + 20 + 20 + 20 + 20 + 20 + 2 + 2 + 8 + 8 + 260 + 260 + 260 + 260 + 260 + 840 + 840 + 64 + 9 + 400 + 69 + 69 + 6 + 10 + 10 + 2760 + 64 + 20 + 20 + 20 + 3 + 207, SH false, Z, J2)) : EV dd 56 [.ref 323] (324, ns, cS (mm_up (SH false) 323 (.inl (12, [none, some none, none, some none, none, some none, some none, some none, some none, some none, none, none, none, none, none, none, none, none, none, none, none, some none, some none, some none, some none, some none, some none, some none, some none, some none, some none, some none, some none, some none, some none, some none, some none, some none, none, some none, some none, some none, some none, some none, none, some none, some none, some none, none, some none, some none, none, some none, some none, none, none, some none, some none, some none, none, some none, some none, none, some none, some none, some none, some none, some none]))) 324, Y, J) Q := by
  refine EV_up hd ?_
  have hz : Zr Y J 324 := fun a ha => ⟨fY a (by omega) (by omega), hJz a (by omega)⟩
  refine EV_of (show 1 ≤ 1 from by decide) ?_; show WP 2 56 (mm_Cd 56 0) [some (.ref 323)] [] _ _
  rw [cd_56_0, kb_56_0]
  refine wp_oi ?_
  refine wp_fld (k := 324) (n := 2000) rfl (by omega) (by omega) (by decide) (by decide) rfl rfl (Zr_le hz (by omega)) ?_
  refine wp_fld (k := 325) (n := 2000) rfl (by omega) (by omega) (by decide) (by decide) rfl rfl (Zr_le hz (by omega)) ?_
  refine wp_fld (k := 326) (n := 403) rfl (by omega) (by omega) (by decide) (by decide) rfl rfl (Zr_le hz (by omega)) ?_
  refine wp_fld (k := 327) (n := 403) rfl (by omega) (by omega) (by decide) (by decide) rfl rfl (Zr_le hz (by omega)) ?_
  refine wp_fld (k := 328) (n := 403) rfl (by omega) (by omega) (by decide) (by decide) rfl rfl (Zr_le hz (by omega)) ?_
  refine wp_fld (k := 329) (n := 403) rfl (by omega) (by omega) (by decide) (by decide) rfl rfl (Zr_le hz (by omega)) ?_
  refine wp_fld (k := 330) (n := 21) rfl (by omega) (by omega) (by decide) (by decide) rfl rfl (Zr_le hz (by omega)) ?_
  refine wp_puti (S := cS _ _) ((cS_lt (by omega)).trans (up_at rfl)) rfl ?_
  have hz : Zr (mm_up Y 323 (mm_up (Y 323) 17 (Int32.ofInt (-1)))) J 324 := Zr_17 hz
  refine wp_fld (k := 331) (n := 13) rfl (by omega) (by omega) (by decide) (by decide) rfl rfl (Zr_le hz (by omega)) ?_
  refine wp_fld (k := 332) (n := 13) rfl (by omega) (by omega) (by decide) (by decide) rfl rfl (Zr_le hz (by omega)) ?_
  refine wp_fld (k := 333) (n := 2) rfl (by omega) (by omega) (by decide) (by decide) rfl rfl (Zr_le hz (by omega)) ?_
  refine wp_fld (k := 334) (n := 2) rfl (by omega) (by omega) (by decide) (by decide) rfl rfl (Zr_le hz (by omega)) ?_
  refine wp_fld (k := 335) (n := 12) rfl (by omega) (by omega) (by decide) (by decide) rfl rfl (Zr_le hz (by omega)) ?_
  refine wp_fld (k := 336) (n := 12) rfl (by omega) (by omega) (by decide) (by decide) rfl rfl (Zr_le hz (by omega)) ?_
  refine wp_fld (k := 337) (n := 12) rfl (by omega) (by omega) (by decide) (by decide) rfl rfl (Zr_le hz (by omega)) ?_
  refine wp_fld (k := 338) (n := 2) rfl (by omega) (by omega) (by decide) (by decide) rfl rfl (Zr_le hz (by omega)) ?_
  refine wp_fld (k := 339) (n := 20) rfl (by omega) (by omega) (by decide) (by decide) rfl rfl (Zr_le hz (by omega)) ?_
  refine wp_fld (k := 340) (n := 20) rfl (by omega) (by omega) (by decide) (by decide) rfl rfl (Zr_le hz (by omega)) ?_
  refine wp_fld (k := 341) (n := 20) rfl (by omega) (by omega) (by decide) (by decide) rfl rfl (Zr_le hz (by omega)) ?_
  refine wp_fld (k := 342) (n := 20) rfl (by omega) (by omega) (by decide) (by decide) rfl rfl (Zr_le hz (by omega)) ?_
  refine wp_fld (k := 343) (n := 20) rfl (by omega) (by omega) (by decide) (by decide) rfl rfl (Zr_le hz (by omega)) ?_
  refine wp_fld (k := 344) (n := 2) rfl (by omega) (by omega) (by decide) (by decide) rfl rfl (Zr_le hz (by omega)) ?_
  refine wp_fld (k := 345) (n := 2) rfl (by omega) (by omega) (by decide) (by decide) rfl rfl (Zr_le hz (by omega)) ?_
  refine wp_fld (k := 346) (n := 8) rfl (by omega) (by omega) (by decide) (by decide) rfl rfl (Zr_le hz (by omega)) ?_
  refine wp_fld (k := 347) (n := 8) rfl (by omega) (by omega) (by decide) (by decide) rfl rfl (Zr_le hz (by omega)) ?_
  refine wp_fld (k := 348) (n := 260) rfl (by omega) (by omega) (by decide) (by decide) rfl rfl (Zr_le hz (by omega)) ?_
  refine wp_fld (k := 349) (n := 260) rfl (by omega) (by omega) (by decide) (by decide) rfl rfl (Zr_le hz (by omega)) ?_
  refine wp_fld (k := 350) (n := 260) rfl (by omega) (by omega) (by decide) (by decide) rfl rfl (Zr_le hz (by omega)) ?_
  refine wp_fld (k := 351) (n := 260) rfl (by omega) (by omega) (by decide) (by decide) rfl rfl (Zr_le hz (by omega)) ?_
  refine wp_fld (k := 352) (n := 260) rfl (by omega) (by omega) (by decide) (by decide) rfl rfl (Zr_le hz (by omega)) ?_
  refine wp_fld (k := 353) (n := 840) rfl (by omega) (by omega) (by decide) (by decide) rfl rfl (Zr_le hz (by omega)) ?_
  refine wp_fld (k := 354) (n := 840) rfl (by omega) (by omega) (by decide) (by decide) rfl rfl (Zr_le hz (by omega)) ?_
  refine wp_fld (k := 355) (n := 64) rfl (by omega) (by omega) (by decide) (by decide) rfl rfl (Zr_le hz (by omega)) ?_
  refine wp_fld (k := 356) (n := 9) rfl (by omega) (by omega) (by decide) (by decide) rfl rfl (Zr_le hz (by omega)) ?_
  refine wp_fld (k := 357) (n := 400) rfl (by omega) (by omega) (by decide) (by decide) rfl rfl (Zr_le hz (by omega)) ?_
  refine wp_fld (k := 358) (n := 69) rfl (by omega) (by omega) (by decide) (by decide) rfl rfl (Zr_le hz (by omega)) ?_
  refine wp_fld (k := 359) (n := 69) rfl (by omega) (by omega) (by decide) (by decide) rfl rfl (Zr_le hz (by omega)) ?_
  refine wp_fld (k := 360) (n := 6) rfl (by omega) (by omega) (by decide) (by decide) rfl rfl (Zr_le hz (by omega)) ?_
  refine wp_fld (k := 361) (n := 10) rfl (by omega) (by omega) (by decide) (by decide) rfl rfl (Zr_le hz (by omega)) ?_
  refine wp_fld (k := 362) (n := 10) rfl (by omega) (by omega) (by decide) (by decide) rfl rfl (Zr_le hz (by omega)) ?_
  refine wp_fld (k := 363) (n := 2760) rfl (by omega) (by omega) (by decide) (by decide) rfl rfl (Zr_le hz (by omega)) ?_
  refine wp_fld (k := 364) (n := 64) rfl (by omega) (by omega) (by decide) (by decide) rfl rfl (Zr_le hz (by omega)) ?_
  refine wp_fld (k := 365) (n := 20) rfl (by omega) (by omega) (by decide) (by decide) rfl rfl (Zr_le hz (by omega)) ?_
  refine wp_fld (k := 366) (n := 20) rfl (by omega) (by omega) (by decide) (by decide) rfl rfl (Zr_le hz (by omega)) ?_
  refine wp_fld (k := 367) (n := 20) rfl (by omega) (by omega) (by decide) (by decide) rfl rfl (Zr_le hz (by omega)) ?_
  refine wp_fld (k := 368) (n := 3) rfl (by omega) (by omega) (by decide) (by decide) rfl rfl (Zr_le hz (by omega)) ?_
  refine wp_fld (k := 369) (n := 207) rfl (by omega) (by omega) (by decide) (by decide) rfl rfl (Zr_le hz (by omega)) ?_
  refine wp_seal rfl ?_
  rw [cS_full]
  show WP 2 56 _ _ [] (370, ns + 2000 + 2000 + 403 + 403 + 403 + 403 + 21 + 13 + 13 + 2 + 2 + 12 + 12 + 12 + 2 + 20 + 20 + 20 + 20 + 20 + 2 + 2 + 8 + 8 + 260 + 260 + 260 + 260 + 260 + 840 + 840 + 64 + 9 + 400 + 69 + 69 + 6 + 10 + 10 + 2760 + 64 + 20 + 20 + 20 + 3 + 207, SH false, mm_up Y 323 (mm_up (Y 323) 17 nM1), J) Q
  generalize hY1 : mm_up Y 323 (mm_up (Y 323) 17 nM1) = Y1
  have g1 : ∀ q, ¬ q = 323 → Y1 q = Y q := fun q hq => by rw [← hY1, up_ne hq]
  have g17 : Y1 323 17 = nM1 := by rw [← hY1]; rfl
  have gj : ∀ j, ¬ j = 17 → Y1 323 j = nI 0 := fun j hj => by rw [← hY1, up_at rfl, up_ne hj, fY 323 (by omega) (by omega)]; rfl
  rw [wp_aload]
  show WP 2 56 _ _ [.ref 323] _ _
  rw [wp_iconst, wp_call, nf_73]
  refine ⟨by show 2 ≤ 2; omega, rfl, by show 0 ≤ 8; omega, ?_⟩
  show EV 2 73 [.ref 323, .int (nI 0)] _ _
  refine k_mplain (sd := 0) (by omega) (by omega) (fun Y2 p1 p2 p3 p4 p5 => ?_)
  show WP 2 56 _ _ [] _ _
  rw [wp_aload]
  show WP 2 56 _ _ [.ref 323] _ _
  rw [wp_iconst, wp_call, nf_73]
  refine ⟨by show 2 ≤ 2; omega, rfl, by show 0 ≤ 8; omega, ?_⟩
  show EV 2 73 [.ref 323, .int (nI 1)] _ _
  refine k_mplain (sd := 1) (by omega) (by omega) (fun Y3 q1 q2 q3 q4 q5 => ?_)
  show WP 2 56 _ _ [] (370, ns + 2000 + 2000 + 403 + 403 + 403 + 403 + 21 + 13 + 13 + 2 + 2 + 12 + 12 + 12 + 2 + 20 + 20 + 20 + 20 + 20 + 2 + 2 + 8 + 8 + 260 + 260 + 260 + 260 + 260 + 840 + 840 + 64 + 9 + 400 + 69 + 69 + 6 + 10 + 10 + 2760 + 64 + 20 + 20 + 20 + 3 + 207, SH false, Y3, J) _
  rw [← mm_up_id J 330]
  refine wp_key (i := 0) (a1 := 102) (a2 := 105) (a3 := 101) (a4 := 108) (a5 := 100) (a6 := 0) (a7 := 0) (by omega) (by omega) rfl rfl rfl rfl rfl rfl rfl rfl (Or.inr (by decide)) (Or.inr (by decide)) (Or.inr (by decide)) (Or.inr (by decide)) (Or.inr (by decide)) (Or.inl rfl) (Or.inl rfl) ?_
  refine wp_key (i := 1) (a1 := 112) (a2 := 101) (a3 := 114) (a4 := 115) (a5 := 111) (a6 := 110) (a7 := 0) (by omega) (by omega) rfl rfl rfl rfl rfl rfl rfl rfl (Or.inr (by decide)) (Or.inr (by decide)) (Or.inr (by decide)) (Or.inr (by decide)) (Or.inr (by decide)) (Or.inr (by decide)) (Or.inl rfl) ?_
  refine wp_key (i := 2) (a1 := 104) (a2 := 101) (a3 := 100) (a4 := 103) (a5 := 101) (a6 := 0) (a7 := 0) (by omega) (by omega) rfl rfl rfl rfl rfl rfl rfl rfl (Or.inr (by decide)) (Or.inr (by decide)) (Or.inr (by decide)) (Or.inr (by decide)) (Or.inr (by decide)) (Or.inl rfl) (Or.inl rfl) ?_
  refine wp_key (i := 3) (a1 := 104) (a2 := 101) (a3 := 105) (a4 := 114) (a5 := 115) (a6 := 0) (a7 := 0) (by omega) (by omega) rfl rfl rfl rfl rfl rfl rfl rfl (Or.inr (by decide)) (Or.inr (by decide)) (Or.inr (by decide)) (Or.inr (by decide)) (Or.inr (by decide)) (Or.inl rfl) (Or.inl rfl) ?_
  refine wp_key (i := 4) (a1 := 103) (a2 := 114) (a3 := 111) (a4 := 119) (a5 := 115) (a6 := 0) (a7 := 0) (by omega) (by omega) rfl rfl rfl rfl rfl rfl rfl rfl (Or.inr (by decide)) (Or.inr (by decide)) (Or.inr (by decide)) (Or.inr (by decide)) (Or.inr (by decide)) (Or.inl rfl) (Or.inl rfl) ?_
  refine wp_key (i := 5) (a1 := 100) (a2 := 105) (a3 := 101) (a4 := 115) (a5 := 0) (a6 := 0) (a7 := 0) (by omega) (by omega) rfl rfl rfl rfl rfl rfl rfl rfl (Or.inr (by decide)) (Or.inr (by decide)) (Or.inr (by decide)) (Or.inr (by decide)) (Or.inl rfl) (Or.inl rfl) (Or.inl rfl) ?_
  refine wp_key (i := 6) (a1 := 102) (a2 := 97) (a3 := 108) (a4 := 108) (a5 := 115) (a6 := 0) (a7 := 0) (by omega) (by omega) rfl rfl rfl rfl rfl rfl rfl rfl (Or.inr (by decide)) (Or.inr (by decide)) (Or.inr (by decide)) (Or.inr (by decide)) (Or.inr (by decide)) (Or.inl rfl) (Or.inl rfl) ?_
  refine wp_key (i := 7) (a1 := 99) (a2 := 111) (a3 := 115) (a4 := 116) (a5 := 115) (a6 := 0) (a7 := 0) (by omega) (by omega) rfl rfl rfl rfl rfl rfl rfl rfl (Or.inr (by decide)) (Or.inr (by decide)) (Or.inr (by decide)) (Or.inr (by decide)) (Or.inr (by decide)) (Or.inl rfl) (Or.inl rfl) ?_
  refine wp_key (i := 8) (a1 := 115) (a2 := 101) (a3 := 101) (a4 := 100) (a5 := 0) (a6 := 0) (a7 := 0) (by omega) (by omega) rfl rfl rfl rfl rfl rfl rfl rfl (Or.inr (by decide)) (Or.inr (by decide)) (Or.inr (by decide)) (Or.inr (by decide)) (Or.inl rfl) (Or.inl rfl) (Or.inl rfl) ?_
  refine wp_key (i := 9) (a1 := 105) (a2 := 102) (a3 := 0) (a4 := 0) (a5 := 0) (a6 := 0) (a7 := 0) (by omega) (by omega) rfl rfl rfl rfl rfl rfl rfl rfl (Or.inr (by decide)) (Or.inr (by decide)) (Or.inl rfl) (Or.inl rfl) (Or.inl rfl) (Or.inl rfl) (Or.inl rfl) ?_
  refine wp_key (i := 10) (a1 := 116) (a2 := 104) (a3 := 101) (a4 := 110) (a5 := 0) (a6 := 0) (a7 := 0) (by omega) (by omega) rfl rfl rfl rfl rfl rfl rfl rfl (Or.inr (by decide)) (Or.inr (by decide)) (Or.inr (by decide)) (Or.inr (by decide)) (Or.inl rfl) (Or.inl rfl) (Or.inl rfl) ?_
  refine wp_key (i := 11) (a1 := 101) (a2 := 108) (a3 := 115) (a4 := 101) (a5 := 0) (a6 := 0) (a7 := 0) (by omega) (by omega) rfl rfl rfl rfl rfl rfl rfl rfl (Or.inr (by decide)) (Or.inr (by decide)) (Or.inr (by decide)) (Or.inr (by decide)) (Or.inl rfl) (Or.inl rfl) (Or.inl rfl) ?_
  refine wp_key (i := 12) (a1 := 104) (a2 := 105) (a3 := 103) (a4 := 104) (a5 := 0) (a6 := 0) (a7 := 0) (by omega) (by omega) rfl rfl rfl rfl rfl rfl rfl rfl (Or.inr (by decide)) (Or.inr (by decide)) (Or.inr (by decide)) (Or.inr (by decide)) (Or.inl rfl) (Or.inl rfl) (Or.inl rfl) ?_
  refine wp_key (i := 13) (a1 := 121) (a2 := 101) (a3 := 97) (a4 := 114) (a5 := 115) (a6 := 0) (a7 := 0) (by omega) (by omega) rfl rfl rfl rfl rfl rfl rfl rfl (Or.inr (by decide)) (Or.inr (by decide)) (Or.inr (by decide)) (Or.inr (by decide)) (Or.inr (by decide)) (Or.inl rfl) (Or.inl rfl) ?_
  refine wp_key (i := 14) (a1 := 97) (a2 := 103) (a3 := 101) (a4 := 0) (a5 := 0) (a6 := 0) (a7 := 0) (by omega) (by omega) rfl rfl rfl rfl rfl rfl rfl rfl (Or.inr (by decide)) (Or.inr (by decide)) (Or.inr (by decide)) (Or.inl rfl) (Or.inl rfl) (Or.inl rfl) (Or.inl rfl) ?_
  refine wp_key (i := 15) (a1 := 102) (a2 := 97) (a3 := 99) (a4 := 101) (a5 := 115) (a6 := 0) (a7 := 0) (by omega) (by omega) rfl rfl rfl rfl rfl rfl rfl rfl (Or.inr (by decide)) (Or.inr (by decide)) (Or.inr (by decide)) (Or.inr (by decide)) (Or.inr (by decide)) (Or.inl rfl) (Or.inl rfl) ?_
  refine wp_key (i := 16) (a1 := 119) (a2 := 104) (a3 := 105) (a4 := 99) (a5 := 104) (a6 := 0) (a7 := 0) (by omega) (by omega) rfl rfl rfl rfl rfl rfl rfl rfl (Or.inr (by decide)) (Or.inr (by decide)) (Or.inr (by decide)) (Or.inr (by decide)) (Or.inr (by decide)) (Or.inl rfl) (Or.inl rfl) ?_
  refine wp_key (i := 17) (a1 := 111) (a2 := 117) (a3 := 116) (a4 := 101) (a5 := 114) (a6 := 0) (a7 := 0) (by omega) (by omega) rfl rfl rfl rfl rfl rfl rfl rfl (Or.inr (by decide)) (Or.inr (by decide)) (Or.inr (by decide)) (Or.inr (by decide)) (Or.inr (by decide)) (Or.inl rfl) (Or.inl rfl) ?_
  refine wp_key (i := 18) (a1 := 105) (a2 := 110) (a3 := 110) (a4 := 101) (a5 := 114) (a6 := 0) (a7 := 0) (by omega) (by omega) rfl rfl rfl rfl rfl rfl rfl rfl (Or.inr (by decide)) (Or.inr (by decide)) (Or.inr (by decide)) (Or.inr (by decide)) (Or.inr (by decide)) (Or.inl rfl) (Or.inl rfl) ?_
  refine wp_key (i := 19) (a1 := 99) (a2 := 108) (a3 := 105) (a4 := 112) (a5 := 112) (a6 := 101) (a7 := 100) (by omega) (by omega) rfl rfl rfl rfl rfl rfl rfl rfl (Or.inr (by decide)) (Or.inr (by decide)) (Or.inr (by decide)) (Or.inr (by decide)) (Or.inr (by decide)) (Or.inr (by decide)) (Or.inr (by decide)) ?_
  refine wp_key (i := 20) (a1 := 103) (a2 := 97) (a3 := 112) (a4 := 115) (a5 := 0) (a6 := 0) (a7 := 0) (by omega) (by omega) rfl rfl rfl rfl rfl rfl rfl rfl (Or.inr (by decide)) (Or.inr (by decide)) (Or.inr (by decide)) (Or.inr (by decide)) (Or.inl rfl) (Or.inl rfl) (Or.inl rfl) ?_
  show WP 2 56 _ _ [] (370, ns + 2000 + 2000 + 403 + 403 + 403 + 403 + 21 + 13 + 13 + 2 + 2 + 12 + 12 + 12 + 2 + 20 + 20 + 20 + 20 + 20 + 2 + 2 + 8 + 8 + 260 + 260 + 260 + 260 + 260 + 840 + 840 + 64 + 9 + 400 + 69 + 69 + 6 + 10 + 10 + 2760 + 64 + 20 + 20 + 20 + 3 + 207, SH false, Y3, mm_up J 330 (mkeys (J 330))) _
  have t1 : ∀ q, ¬ (q = 333 ∨ q = 334 ∨ q = 338 ∨ q = 344 ∨ q = 345 ∨ q = 336 ∨ q = 337 ∨ q = 346 ∨ q = 347) → Y3 q = Y1 q := fun q hq => by rw [q1 q hq, p1 q hq]
  have lh : ∀ q z, LH 1 q z → Y3 q z = Y2 q z := q2.2.2
  have m0 : RMc Y3 0 (fun _ => 0) := by
    obtain ⟨a0, a1, a2, a3, a4⟩ := p3
    exact ⟨by rw [lh _ _ (by unfold LH; omega)]; exact a0, by rw [lh _ _ (by unfold LH; omega)]; exact a1, by rw [lh _ _ (by unfold LH; omega)]; exact a2, by rw [lh _ _ (by unfold LH; omega)]; exact a3, by rw [lh _ _ (by unfold LH; omega)]; exact a4⟩
  have t18 : Y3 323 18 = nI 0 := by rw [t1 323 (by omega)]; exact gj 18 (by decide)
  rw [wp_aload]
  show WP 2 56 _ _ [.ref 323] _ _
  rw [wp_call, nf_99]
  refine ⟨by show 1 ≤ 1; omega, rfl, by show 0 ≤ 8; omega, ?_⟩
  show EV 2 99 [.ref 323] _ _
  refine k_mbegins (lv := 0) (P := 0) (H := 0) (F := 0) ⟨t18, by omega, m0.2.1, by omega, m0.2.2.1, by omega, m0.1, by omega⟩ (by omega) ?_
  show WP 2 56 _ _ [] _ _
  generalize hM : mm_up (mm_up Y3 323 (mm_up (mm_up (Y3 323) 54 (Y3 345 0)) 55 (nI 0))) 359 (bgR (Y3 359) (fun i => Y3 335 (6 * 0 + i)) (fun i => Y3 341 (10 * 0 + i)) (fun i => Y3 342 (10 * 0 + i)) (fun i => Y3 343 (10 * 0 + i)) 0 0) = M
  have k1 : ∀ q, ¬ q = 323 → ¬ q = 359 → M q = Y3 q := fun q h1 h2 => by rw [← hM, up_ne h2, up_ne h1]
  have k2 : ∀ j, ¬ j = 54 → ¬ j = 55 → M 323 j = Y3 323 j := fun j h1 h2 => by
    rw [← hM]
    show mm_up (mm_up (Y3 323) 54 (Y3 345 0)) 55 (nI 0) j = _
    rw [up_ne h2, up_ne h1]
  have k3 : M 359 = bgR (Y3 359) (fun i => Y3 335 (6 * 0 + i)) (fun i => Y3 341 (10 * 0 + i)) (fun i => Y3 342 (10 * 0 + i)) (fun i => Y3 343 (10 * 0 + i)) 0 0 := by rw [← hM]; rfl
  have zq : ∀ q, ¬ q = 3 → ¬ (9 ≤ q ∧ q ≤ 34) → ¬ q = 323 → ¬ (q = 333 ∨ q = 334 ∨ q = 338 ∨ q = 344 ∨ q = 345 ∨ q = 336 ∨ q = 337 ∨ q = 346 ∨ q = 347) → Y3 q = fun _ => 0 := fun q h1 h2 h3 h4 => by rw [t1 q h4, g1 q h3]; exact fY q h1 h2
  have zrow : ∀ k, 69 ≤ k → Y3 359 k = nI 0 := fun k _ => by rw [zq _ (by decide) (by decide) (by decide) (by decide)]; rfl
  have hO : ∀ k, 69 ≤ k → M 359 k = M 358 k := fun k hk => by
    rw [k3, bg_9 (by omega) (by omega) hk, zrow k hk, k1 358 (by decide) (by decide), zq 358 (by decide) (by decide) (by decide) (by decide)]
    rfl
  rw [wp_aload]
  show WP 2 56 _ _ [.ref 323] _ _
  rw [wp_call, nf_100]
  refine ⟨by show 1 ≤ 1; omega, rfl, by show 0 ≤ 8; omega, ?_⟩
  show EV 2 100 [.ref 323] _ _
  rw [e_keepsRow hO (by omega)]
  show WP 2 56 _ _ [] _ _
  rw [wp_vret]
  generalize hZ : mm_up M 358 (M 359) = Z
  have j1 : ∀ q, ¬ q = 323 → ¬ q = 358 → ¬ q = 359 → Z q = Y3 q := fun q h1 h2 h3 => by rw [← hZ, up_ne h2, k1 q h1 h3]
  have jz : ∀ q, ¬ q = 3 → ¬ (9 ≤ q ∧ q ≤ 34) → ¬ q = 323 → ¬ (q = 333 ∨ q = 334 ∨ q = 338 ∨ q = 344 ∨ q = 345 ∨ q = 336 ∨ q = 337 ∨ q = 346 ∨ q = 347) → ¬ q = 358 → ¬ q = 359 → Z q = fun _ => 0 := fun q h1 h2 h3 h4 h5 h6 => by rw [j1 q h3 h5 h6]; exact zq q h1 h2 h3 h4
  have j2 : ∀ j, ¬ j = 17 → ¬ j = 54 → ¬ j = 55 → Z 323 j = nI 0 := fun j h1 h2 h3 => by rw [← hZ, up_ne (by decide), k2 j h2 h3, t1 323 (by omega)]; exact gj j h1
  have j17 : Z 323 17 = nM1 := by rw [← hZ, up_ne (by decide), k2 17 (by decide) (by decide), t1 323 (by omega)]; exact g17
  have jn : Z 358 = bgR (Y3 359) (fun i => Z 335 (6 * 0 + i)) (fun i => Z 341 (10 * 0 + i)) (fun i => Z 342 (10 * 0 + i)) (fun i => Z 343 (10 * 0 + i)) 0 0 := by
    rw [j1 335 (by decide) (by decide) (by decide), j1 341 (by decide) (by decide) (by decide), j1 342 (by decide) (by decide) (by decide), j1 343 (by decide) (by decide) (by decide), ← k3, ← hZ, up_at rfl]
  have jr : ∀ k, 69 ≤ k → Z 359 k = nI 0 := fun k hk => by
    rw [← hZ, up_ne (by decide), k3, bg_9 (by omega) (by omega) hk]
    exact zrow k hk
  have lo : ∀ q, q < 323 → Z q = Y q := fun q hq => by rw [j1 q (by omega) (by omega) (by omega), t1 q (by omega), g1 q (by omega)]
  obtain ⟨d1, d2, d3, d4⟩ := r1
  have lh2 : ∀ q z, (333 ≤ q ∧ q ≤ 354) → LH 1 q z → Z q z = Y2 q z := fun q z h1 h2 => by rw [j1 q (by omega) (by omega) (by omega)]; exact lh q z h2
  have zz : ∀ q k, ¬ q = 3 → ¬ (9 ≤ q ∧ q ≤ 34) → ¬ q = 323 → ¬ (q = 333 ∨ q = 334 ∨ q = 338 ∨ q = 344 ∨ q = 345 ∨ q = 336 ∨ q = 337 ∨ q = 346 ∨ q = 347) → ¬ q = 358 → ¬ q = 359 → Z q k = nI 0 := fun q k h1 h2 h3 h4 h5 h6 => by rw [jz q h1 h2 h3 h4 h5 h6]; rfl
  have x2 : RXr Z 9 TS0.1 TS0.2.2.2.1 := RXr_f (d3 rfl) (fun q h1 h2 => lo q (by omega)) rfl rfl
  have x3 : RXl Z 9 TS0.2.2.2.2 400 := RXl_f d4 (fun q h1 h2 => lo q (by omega)) (by omega)
  refine hK Z _ ⟨_, _, _, _, _, _, _, _, _, _, _, _, _, _, _, _, IVb_new (S := TS0) (sd := 0) (nxt := 0) (f := Y3 359) (by omega) (by decide) (by decide) (by decide) rfl TS0_ro TS0_lo ?_ x2 x3 (j2 _ (by decide) (by decide) (by decide)) ?_ ⟨fun i hi => absurd hi (Nat.not_lt_zero _), fun i hi => absurd hi (Nat.not_lt_zero _), fun i hi => ?_⟩ ⟨0, 0, by omega, by omega, by omega, by omega, fun k hk => ⟨fun _ => ?_, fun x hx => by simp [TS0] at hx⟩⟩ ?_ ?_ jr zrow jn ?_ ?_ ?_ ?_ (fun i hi => absurd hi (Nat.not_lt_zero _)) (fun i hi => absurd hi (Nat.not_lt_zero _)) (fun i hi => absurd hi (Nat.not_lt_zero _)) (fun i _ _ h0 => absurd h0 (Nat.not_lt_zero _)) (by omega) ?_ ?_ (j2 _ (by decide) (by decide) (by decide)) ?_ (j2 _ (by decide) (by decide) (by decide)) ?_ (j2 _ (by decide) (by decide) (by decide)) ?_ ?_ ⟨?_, ?_⟩ ?_ ?_⟩
  · unfold RXc
    rw [lo _ (by decide)]
    exact d1
  · obtain ⟨a0, a1, a2, a3, a4⟩ := m0
    exact ⟨by rw [j1 _ (by decide) (by decide) (by decide)]; exact a0, by rw [j1 _ (by decide) (by decide) (by decide)]; exact a1, by rw [j1 _ (by decide) (by decide) (by decide)]; exact a2, by rw [j1 _ (by decide) (by decide) (by decide)]; exact a3, by rw [j1 _ (by decide) (by decide) (by decide)]; exact a4⟩
  · rw [lh2 _ _ (by decide) (by unfold LH; omega), lh2 _ _ (by decide) (by unfold LH; omega)]
    exact p4 i hi
  · rw [lh2 _ _ (by decide) (by unfold LH; omega), lh2 _ _ (by decide) (by unfold LH; omega)]
    exact p5 k hk
  · exact fun k _ => zz 49 k (by decide) (by decide) (by decide) (by decide) (by decide) (by decide)
  · exact fun k _ => zz _ k (by decide) (by decide) (by decide) (by decide) (by decide) (by decide)
  · exact zz 35 0 (by decide) (by decide) (by decide) (by decide) (by decide) (by decide)
  · exact zz 35 1 (by decide) (by decide) (by decide) (by decide) (by decide) (by decide)
  · exact zz 35 2 (by decide) (by decide) (by decide) (by decide) (by decide) (by decide)
  · exact zz 35 3 (by decide) (by decide) (by decide) (by decide) (by decide) (by decide)
  · exact zz 57 1 (by decide) (by decide) (by decide) (by decide) (by decide) (by decide)
  · exact zz 57 2 (by decide) (by decide) (by decide) (by decide) (by decide) (by decide)
  · exact zz 299 4 (by decide) (by decide) (by decide) (by decide) (by decide) (by decide)
  · exact zz 1 1 (by decide) (by decide) (by decide) (by decide) (by decide) (by decide)
  · rw [jz 2 (by decide) (by decide) (by decide) (by decide) (by decide) (by decide), jz 324 (by decide) (by decide) (by decide) (by decide) (by decide) (by decide)]
  · rw [lo 3 (by decide), f3]
    exact j17.symm
  · rw [up_ne (by decide)]; exact hJ8
  · rw [up_at rfl]; exact mkeys_ok
  · exact zz 0 12 (by decide) (by decide) (by decide) (by decide) (by decide) (by decide)
  · exact fun k _ => zz _ k (by decide) (by decide) (by decide) (by decide) (by decide) (by decide)
end Sf
