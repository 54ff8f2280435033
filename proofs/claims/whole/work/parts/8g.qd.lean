/-! ===== The reference: noted, gone on, a number within bounds ===== -/
/-- noted, if it is so -/
def wrM (Y : Nat → Nat → Int32) (t v : Nat) (c : Prop) [Decidable c] : Nat → Nat → Int32 := if c ∧ Y 323 15 = nI 0 then mm_up Y 323 (mm_up (mm_up (Y 323) 15 (nI v)) 16 (Y 327 t)) else Y
/-- one token on, if there is room -/
def goM (Y : Nat → Nat → Int32) (t : Nat) : Nat → Nat → Int32 := if t < 400 then mm_up Y 323 (mm_up (Y 323) 11 (nI (t + 1))) else mm_up Y 323 (mm_up (mm_up (Y 323) 13 (nI 2)) 14 (Y 327 400))
section Qd
variable {w : Bool} {nx ns : Nat} {I X Y : Nat → Nat → Int32} {J : Nat → Nat → Int64} {n k t p z m fv : Nat} {b : Nat → Nat} {x : Int64}
theorem wrM_t {v : Nat} {c : Prop} [Decidable c] (hc : c) : wrM Y t v c = wrM Y t v True := by
  unfold wrM
  by_cases h4 : Y 323 15 = nI 0
  · rw [if_pos ⟨hc, h4⟩, if_pos ⟨trivial, h4⟩]
  · rw [if_neg (fun h => h4 h.2), if_neg (fun h => h4 h.2)]
theorem wrM_f {v : Nat} {c : Prop} [Decidable c] (hc : ¬ c) : wrM Y t v c = Y := by
  unfold wrM
  rw [if_neg (fun h => hc h.1)]
theorem wrM_fl {v : Nat} {c : Prop} [Decidable c] : wrM Y t v c 323 13 = Y 323 13 := by
  unfold wrM
  split
  · rfl
  · rfl
theorem wrM_tt {v : Nat} {c : Prop} [Decidable c] : wrM Y t v c 323 11 = Y 323 11 := by
  unfold wrM
  split
  · rfl
  · rfl
theorem wrM_o {v : Nat} {c : Prop} [Decidable c] {q : Nat} (hq : ¬ q = 323) : wrM Y t v c q = Y q := by
  unfold wrM
  split
  · exact up_ne hq
  · rfl
theorem c_mwrong {v : Nat} (h13 : Y 323 13 = nI 0) (hO : ¬ Y 323 15 = nI 0 → Y 323 16 < Y 327 t) (ht : t ≤ 400) : RT 1 70 [.ref 323, .int (nI v), .int (nI t)] (nx, ns, SH w, Y, J) none (nx, ns, SH w, wrM Y t v True, J) := by
  unfold wrM
  by_cases h4 : Y 323 15 = nI 0
  · rw [if_pos ⟨trivial, h4⟩]; exact c_mwrong0 h13 h4 ht
  · rw [if_neg (fun h => h4 h.2)]; exact c_mwrong1 h13 h4 (hO h4) ht
theorem e_mwrong {v : Nat} (h13 : Y 323 13 = nI 0) (hO : ¬ Y 323 15 = nI 0 → Y 323 16 < Y 327 t) (ht : t ≤ 400) {dd : Nat} {QQ : Option Value → mm_M → Prop} (hdd : 1 ≤ dd) : EV dd 70 [.ref 323, .int (nI v), .int (nI t)] (nx, ns, SH w, Y, J) QQ ↔ QQ none (nx, ns, SH w, wrM Y t v True, J) := (c_mwrong h13 hO ht).ev hdd
theorem c_mgo (h13 : Y 323 13 = nI 0) (h11 : Y 323 11 = nI t) (ht : t ≤ 400) : RT 2 71 [.ref 323] (nx, ns, SH w, Y, J) none (nx, ns, SH w, goM Y t, J) := by
  unfold goM
  by_cases h4 : t < 400
  · rw [if_pos h4]; exact c_mgoes1 h11 h4
  · rw [if_neg h4]
    have et : t = 400 := by omega
    subst et
    exact c_mgoes0 h13 h11
theorem e_mgo (h13 : Y 323 13 = nI 0) (h11 : Y 323 11 = nI t) (ht : t ≤ 400) {dd : Nat} {QQ : Option Value → mm_M → Prop} (hdd : 2 ≤ dd) : EV dd 71 [.ref 323] (nx, ns, SH w, Y, J) QQ ↔ QQ none (nx, ns, SH w, goM Y t, J) := (c_mgo h13 h11 ht).ev hdd
/-- a number, noted where it is above -/
theorem c_mbound1 {v hi : Nat} (h13 : Y 323 13 = nI 0) (h11 : Y 323 11 = nI t) (ht : t ≤ 400) (h5 : Y 326 t = nI (rk 22)) (hv : Y 328 t = nI v) (hv2 : v < 2 ^ 30) (hi2 : hi < 2 ^ 30) (hO : ¬ Y 323 15 = nI 0 → Y 323 16 < Y 327 t) : RT 3 81 [.ref 323, .int (nI 0), .int (nI hi)] (nx, ns, SH w, Y, J) (some (.int (nI v))) (nx, ns, SH w, goM (wrM Y t 5 (hi < v)) t, J) := by
  refine EV_of (show 3 ≤ 4 from by decide) ?_; show WP 2 81 (mm_Cd 81 0) [some (.ref 323), some (.int (nI 0)), some (.int (nI hi)), none] [] _ _
  by_cases c : hi < v
  · have c2 : ¬ v ≤ hi := by omega
    rw [wrM_t c]
    simp (disch := first | decide | omega) only [wp_iload, wp_lload, wp_aload, wp_istore, wp_lstore, wp_astore, wp_iinc, wp_iconst, wp_lconst, wp_sconst, wp_pop_int, wp_dup_int, wp_pop_ref, wp_dup_ref, wp_dup2_ri, wp_ibin, wp_idiv, wp_irem, wp_lbin, wp_lshl, wp_lcmp, wp_i2l, wp_l2i, wp_i2b, wp_i2c, wp_max, wp_min, wp_23, wp_24, wp_25, wp_26, wp_27, wp_28, wp_29, wp_30, wp_31, wp_32, wp_33, wp_34, wp_35, wp_36, wp_37, wp_38, wp_39, wp_40, wp_41, wp_42, wp_goto, wp_jmp, wp_sw_in, wp_sw_in2, wp_if0, wp_icmp0, wp_if1, wp_icmp1, wp_if2, wp_icmp2, wp_if3, wp_icmp3, wp_if4, wp_icmp4, wp_if5, wp_icmp5, wp_iret, wp_zret, wp_lret, wp_vret, wp_call, ms_23, ms_24, ms_25, ms_26, ms_27, ms_28, ms_29, ms_30, ms_31, ms_32, ms_33, ms_34, ms_35, ms_39, ms_40, ms_41, ms_42, mm_go_some, mm_go_none, mm_go_ite, mm_go_ite2, List.getElem?_cons_zero, List.getElem?_cons_succ, List.length_cons, List.length_nil, mm_sto1, mm_kill, mm_ibin, List.set_cons_zero, List.set_cons_succ, Value.category, ↓reduceIte, Option.some.injEq, mm_in_iff, List.take_succ_cons, List.take_zero, List.drop_succ_cons, List.drop_zero, List.reverse_cons, List.reverse_nil, List.nil_append, List.cons_append, List.map_cons, List.map_nil, List.sum_cons, List.sum_nil, mm_rc, Option.toList_some, Option.toList_none, List.append_nil, Int32.reduceOfInt, Int64.reduceOfInt, Nat.reduceEqDiff, Nat.reduceLT, Nat.reduceMul, one_two, Nat.not_lt_zero, not_false_eq_true, not_true_eq_false, if_false, if_true, true_or, or_true, false_or, or_false, true_and, and_true, Nat.reduceLeDiff, Nat.reduceAdd, eq_self_iff_true, decide_true, li_0, li_1, li_2, li_3, li_4, li_5, li_6, li_7, li_8, li_9, li_10, li_11, li_12, li_13, li_14, li_15, li_16, li_17, li_18, li_19, li_20, li_21, li_22, li_23, li_24, li_25, li_26, li_27, li_28, li_29, li_30, li_31, li_32, li_33, li_36, li_38, li_40, li_41, li_42, li_43, li_45, li_47, li_48, li_57, li_58, li_59, li_60, li_61, li_63, li_64, li_68, li_69, li_97, li_99, li_100, li_101, li_102, li_103, li_104, li_105, li_108, li_110, li_111, li_112, li_114, li_115, li_116, li_117, li_119, li_121, li_122, li_130, li_155, li_199, li_207, li_255, li_260, li_400, li_401, li_403, li_404, li_420, li_840, li_2000, li_2691, li_2760, li_9999, li_12345, li_252645135, li_858993459, li_1103515245, li_1431655765, lm_1, lm_2, nM1_lt, nM2_lt, nI_nM1, nI_nM2, nM1_nI, nM2_nI, nI_le_nM, nI_le_nM2, nI_lt_nM, nI_lt_nM2, nM12, nM21, nI_add, pk_mul, nI_leI, nI_ltI, nI_eq, nI_clamp, vp_in_nI, mm_up2_eq, mm_up_up, up_ne, up_at, mm_up_sw, Nat.add_assoc, SH_323, SH_324, SH_325, SH_326, SH_327, SH_328, SH_329, SH_330, SH_331, SH_332, SH_333, SH_334, SH_335, SH_336, SH_337, SH_338, SH_339, SH_340, SH_341, SH_342, SH_343, SH_344, SH_345, SH_346, SH_347, SH_348, SH_349, SH_350, SH_351, SH_352, SH_353, SH_354, SH_355, SH_356, SH_357, SH_358, SH_359, SH_360, SH_361, SH_362, SH_363, SH_364, SH_365, SH_366, SH_367, SH_368, SH_369, cd_81_0, kb_81_0, cd_81_1, kb_81_1, cd_81_3, kb_81_3, cd_81_4, kb_81_4, cd_81_5, kb_81_5, cd_81_6, kb_81_6, h13, nf_68, nf_70, nf_71, e_mis (k := 22) (kk := 2) (z := 22) rfl (by decide) (by decide) h13 h11 ht h5, h11, hv, c2, e_mwrong h13 hO ht, e_mgo (wrM_fl.trans h13) (wrM_tt.trans h11) ht]
  · have c2 : v ≤ hi := by omega
    rw [wrM_f c]
    simp (disch := first | decide | omega) only [wp_iload, wp_lload, wp_aload, wp_istore, wp_lstore, wp_astore, wp_iinc, wp_iconst, wp_lconst, wp_sconst, wp_pop_int, wp_dup_int, wp_pop_ref, wp_dup_ref, wp_dup2_ri, wp_ibin, wp_idiv, wp_irem, wp_lbin, wp_lshl, wp_lcmp, wp_i2l, wp_l2i, wp_i2b, wp_i2c, wp_max, wp_min, wp_23, wp_24, wp_25, wp_26, wp_27, wp_28, wp_29, wp_30, wp_31, wp_32, wp_33, wp_34, wp_35, wp_36, wp_37, wp_38, wp_39, wp_40, wp_41, wp_42, wp_goto, wp_jmp, wp_sw_in, wp_sw_in2, wp_if0, wp_icmp0, wp_if1, wp_icmp1, wp_if2, wp_icmp2, wp_if3, wp_icmp3, wp_if4, wp_icmp4, wp_if5, wp_icmp5, wp_iret, wp_zret, wp_lret, wp_vret, wp_call, ms_23, ms_24, ms_25, ms_26, ms_27, ms_28, ms_29, ms_30, ms_31, ms_32, ms_33, ms_34, ms_35, ms_39, ms_40, ms_41, ms_42, mm_go_some, mm_go_none, mm_go_ite, mm_go_ite2, List.getElem?_cons_zero, List.getElem?_cons_succ, List.length_cons, List.length_nil, mm_sto1, mm_kill, mm_ibin, List.set_cons_zero, List.set_cons_succ, Value.category, ↓reduceIte, Option.some.injEq, mm_in_iff, List.take_succ_cons, List.take_zero, List.drop_succ_cons, List.drop_zero, List.reverse_cons, List.reverse_nil, List.nil_append, List.cons_append, List.map_cons, List.map_nil, List.sum_cons, List.sum_nil, mm_rc, Option.toList_some, Option.toList_none, List.append_nil, Int32.reduceOfInt, Int64.reduceOfInt, Nat.reduceEqDiff, Nat.reduceLT, Nat.reduceMul, one_two, Nat.not_lt_zero, not_false_eq_true, not_true_eq_false, if_false, if_true, true_or, or_true, false_or, or_false, true_and, and_true, Nat.reduceLeDiff, Nat.reduceAdd, eq_self_iff_true, decide_true, li_0, li_1, li_2, li_3, li_4, li_5, li_6, li_7, li_8, li_9, li_10, li_11, li_12, li_13, li_14, li_15, li_16, li_17, li_18, li_19, li_20, li_21, li_22, li_23, li_24, li_25, li_26, li_27, li_28, li_29, li_30, li_31, li_32, li_33, li_36, li_38, li_40, li_41, li_42, li_43, li_45, li_47, li_48, li_57, li_58, li_59, li_60, li_61, li_63, li_64, li_68, li_69, li_97, li_99, li_100, li_101, li_102, li_103, li_104, li_105, li_108, li_110, li_111, li_112, li_114, li_115, li_116, li_117, li_119, li_121, li_122, li_130, li_155, li_199, li_207, li_255, li_260, li_400, li_401, li_403, li_404, li_420, li_840, li_2000, li_2691, li_2760, li_9999, li_12345, li_252645135, li_858993459, li_1103515245, li_1431655765, lm_1, lm_2, nM1_lt, nM2_lt, nI_nM1, nI_nM2, nM1_nI, nM2_nI, nI_le_nM, nI_le_nM2, nI_lt_nM, nI_lt_nM2, nM12, nM21, nI_add, pk_mul, nI_leI, nI_ltI, nI_eq, nI_clamp, vp_in_nI, mm_up2_eq, mm_up_up, up_ne, up_at, mm_up_sw, Nat.add_assoc, SH_323, SH_324, SH_325, SH_326, SH_327, SH_328, SH_329, SH_330, SH_331, SH_332, SH_333, SH_334, SH_335, SH_336, SH_337, SH_338, SH_339, SH_340, SH_341, SH_342, SH_343, SH_344, SH_345, SH_346, SH_347, SH_348, SH_349, SH_350, SH_351, SH_352, SH_353, SH_354, SH_355, SH_356, SH_357, SH_358, SH_359, SH_360, SH_361, SH_362, SH_363, SH_364, SH_365, SH_366, SH_367, SH_368, SH_369, cd_81_0, kb_81_0, cd_81_1, kb_81_1, cd_81_3, kb_81_3, cd_81_4, kb_81_4, cd_81_6, kb_81_6, h13, nf_68, nf_71, e_mis (k := 22) (kk := 2) (z := 22) rfl (by decide) (by decide) h13 h11 ht h5, h11, hv, c2, e_mgo h13 h11 ht]
theorem e_mbound1 {v hi : Nat} (h13 : Y 323 13 = nI 0) (h11 : Y 323 11 = nI t) (ht : t ≤ 400) (h5 : Y 326 t = nI (rk 22)) (hv : Y 328 t = nI v) (hv2 : v < 2 ^ 30) (hi2 : hi < 2 ^ 30) (hO : ¬ Y 323 15 = nI 0 → Y 323 16 < Y 327 t) {dd : Nat} {QQ : Option Value → mm_M → Prop} (hdd : 3 ≤ dd) : EV dd 81 [.ref 323, .int (nI 0), .int (nI hi)] (nx, ns, SH w, Y, J) QQ ↔ QQ (some (.int (nI v))) (nx, ns, SH w, goM (wrM Y t 5 (hi < v)) t, J) := (c_mbound1 h13 h11 ht h5 hv hv2 hi2 hO).ev hdd
end Qd
