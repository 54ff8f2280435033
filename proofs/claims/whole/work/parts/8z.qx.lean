/-! ===== The reference: tokens of statements ===== -/
/-- its names are those told -/
def RMn (Y : Nat → Nat → Int32) (J : Nat → Nat → Int64) (S : TS) : Prop := ∃ A : Nat → Nat, Y 323 20 = nI (S.1 0 + S.1 1) ∧ (∀ i, i < S.1 0 + S.1 1 → Y 332 i = nI (A i) ∧ A i < 20) ∧ ∀ y, ltok y → knw (J 331) A (lN (enc 27 y)) 0 (S.1 0 + S.1 1) 0 = lk S.2.1 y (S.1 0) ∧ knw (J 331) A (lN (enc 27 y)) 10 (S.1 0 + S.1 1) 0 = lk S.2.2.1 y (S.1 1) ∧ (isIn (J 331) (lN (enc 27 y)) (S.1 0 + S.1 1) 0 = true ↔ (lk S.2.1 y (S.1 0)).isSome = true ∨ (lk S.2.2.1 y (S.1 1)).isSome = true)
/-- a fault is there: what may have changed -/
def FQ (Y Z : Nat → Nat → Int32) (fv pl : Nat) : Prop := (∀ q, ¬ q = 323 → Z q = Y q) ∧ (∀ j, ¬ (11 ≤ j ∧ j ≤ 16) → Z 323 j = Y 323 j) ∧ Z 323 13 = nI fv ∧ Z 323 14 = nI pl
section Qx
variable {w : Bool} {nx ns : Nat} {X Y Z : Nat → Nat → Int32} {J J' : Nat → Nat → Int64} {n a v q sd fv : Nat} {b c : Nat → Nat} {S : TS} {Kc : Option Value → mm_M → Prop}
theorem c_mknownF {x : Int32} (hfv : 0 < fv) (hfv2 : fv < 10) (h13 : Z 323 13 = nI fv) : RT 3 80 [.ref 323, .int x] (nx, ns, SH w, Z, J) (some (.int nM1)) (nx, ns, SH w, Z, J) := by
  refine EV_of (show 2 ≤ 4 from by decide) ?_; show WP 2 80 (mm_Cd 80 0) [some (.ref 323), some (.int x), none, none] [] _ _
  have c9 : ¬ fv ≤ 0 := by omega
  simp (disch := first | decide | omega) only [wp_iload, wp_lload, wp_aload, wp_istore, wp_lstore, wp_astore, wp_iinc, wp_iconst, wp_lconst, wp_sconst, wp_pop_int, wp_dup_int, wp_pop_ref, wp_dup_ref, wp_dup2_ri, wp_ibin, wp_idiv, wp_irem, wp_lbin, wp_lshl, wp_lcmp, wp_i2l, wp_l2i, wp_i2b, wp_i2c, wp_max, wp_min, wp_23, wp_24, wp_25, wp_26, wp_27, wp_28, wp_29, wp_30, wp_31, wp_32, wp_33, wp_34, wp_35, wp_36, wp_37, wp_38, wp_39, wp_40, wp_41, wp_42, wp_goto, wp_jmp, wp_sw_in, wp_sw_in2, wp_if0, wp_icmp0, wp_if1, wp_icmp1, wp_if2, wp_icmp2, wp_if3, wp_icmp3, wp_if4, wp_icmp4, wp_if5, wp_icmp5, wp_iret, wp_zret, wp_lret, wp_vret, wp_call, ms_23, ms_24, ms_25, ms_26, ms_27, ms_28, ms_29, ms_30, ms_31, ms_32, ms_33, ms_34, ms_35, ms_39, ms_40, ms_41, ms_42, mm_go_some, mm_go_none, mm_go_ite, mm_go_ite2, List.getElem?_cons_zero, List.getElem?_cons_succ, List.length_cons, List.length_nil, mm_sto1, mm_kill, mm_ibin, List.set_cons_zero, List.set_cons_succ, Value.category, ↓reduceIte, Option.some.injEq, mm_in_iff, List.take_succ_cons, List.take_zero, List.drop_succ_cons, List.drop_zero, List.reverse_cons, List.reverse_nil, List.nil_append, List.cons_append, List.map_cons, List.map_nil, List.sum_cons, List.sum_nil, mm_rc, Option.toList_some, Option.toList_none, List.append_nil, Int32.reduceOfInt, Int64.reduceOfInt, Nat.reduceEqDiff, Nat.reduceLT, Nat.reduceMul, one_two, Nat.not_lt_zero, not_false_eq_true, not_true_eq_false, if_false, if_true, true_or, or_true, false_or, or_false, true_and, and_true, Nat.reduceLeDiff, Nat.reduceAdd, eq_self_iff_true, decide_true, li_0, li_1, li_2, li_3, li_4, li_5, li_6, li_7, li_8, li_9, li_10, li_11, li_12, li_13, li_14, li_15, li_16, li_17, li_18, li_19, li_20, li_21, li_22, li_23, li_24, li_25, li_26, li_27, li_28, li_29, li_30, li_31, li_32, li_33, li_36, li_38, li_40, li_41, li_42, li_43, li_45, li_47, li_48, li_57, li_58, li_59, li_60, li_61, li_63, li_64, li_68, li_69, li_97, li_99, li_100, li_101, li_102, li_103, li_104, li_105, li_108, li_110, li_111, li_112, li_114, li_115, li_116, li_117, li_119, li_121, li_122, li_130, li_155, li_199, li_207, li_255, li_260, li_400, li_401, li_403, li_404, li_420, li_840, li_2000, li_2691, li_2760, li_9999, li_12345, li_252645135, li_858993459, li_1103515245, li_1431655765, lm_1, lm_2, nM1_lt, nM2_lt, nI_nM1, nI_nM2, nM1_nI, nM2_nI, nI_le_nM, nI_le_nM2, nI_lt_nM, nI_lt_nM2, nM12, nM21, nI_add, pk_mul, nI_leI, nI_ltI, nI_eq, nI_clamp, vp_in_nI, mm_up2_eq, mm_up_up, up_ne, up_at, mm_up_sw, Nat.add_assoc, SH_323, SH_324, SH_325, SH_326, SH_327, SH_328, SH_329, SH_330, SH_331, SH_332, SH_333, SH_334, SH_335, SH_336, SH_337, SH_338, SH_339, SH_340, SH_341, SH_342, SH_343, SH_344, SH_345, SH_346, SH_347, SH_348, SH_349, SH_350, SH_351, SH_352, SH_353, SH_354, SH_355, SH_356, SH_357, SH_358, SH_359, SH_360, SH_361, SH_362, SH_363, SH_364, SH_365, SH_366, SH_367, SH_368, SH_369, cd_80_0, kb_80_0, cd_80_1, kb_80_1, nf_72, e_mmustF (k := nI 1) hfv hfv2 h13, h13, c9]
theorem e_mknownF {x : Int32} (hfv : 0 < fv) (hfv2 : fv < 10) (h13 : Z 323 13 = nI fv) {dd : Nat} {QQ : Option Value → mm_M → Prop} (hdd : 3 ≤ dd) : EV dd 80 [.ref 323, .int x] (nx, ns, SH w, Z, J) QQ ↔ QQ (some (.int nM1)) (nx, ns, SH w, Z, J) := (c_mknownF hfv hfv2 h13).ev hdd
theorem c_mtoldHeirF {x : Int32} (hfv : 0 < fv) (hfv2 : fv < 10) (h13 : Z 323 13 = nI fv) : RT 4 83 [.ref 323, .int x] (nx, ns, SH w, Z, J) (some (.int nM1)) (nx, ns, SH w, Z, J) := by
  refine EV_of (show 2 ≤ 4 from by decide) ?_; show WP 3 83 (mm_Cd 83 0) [some (.ref 323), some (.int x), none, none] [] _ _
  have c9 : ¬ fv = 0 := by omega
  simp (disch := first | decide | omega) only [wp_iload, wp_lload, wp_aload, wp_istore, wp_lstore, wp_astore, wp_iinc, wp_iconst, wp_lconst, wp_sconst, wp_pop_int, wp_dup_int, wp_pop_ref, wp_dup_ref, wp_dup2_ri, wp_ibin, wp_idiv, wp_irem, wp_lbin, wp_lshl, wp_lcmp, wp_i2l, wp_l2i, wp_i2b, wp_i2c, wp_max, wp_min, wp_23, wp_24, wp_25, wp_26, wp_27, wp_28, wp_29, wp_30, wp_31, wp_32, wp_33, wp_34, wp_35, wp_36, wp_37, wp_38, wp_39, wp_40, wp_41, wp_42, wp_goto, wp_jmp, wp_sw_in, wp_sw_in2, wp_if0, wp_icmp0, wp_if1, wp_icmp1, wp_if2, wp_icmp2, wp_if3, wp_icmp3, wp_if4, wp_icmp4, wp_if5, wp_icmp5, wp_iret, wp_zret, wp_lret, wp_vret, wp_call, ms_23, ms_24, ms_25, ms_26, ms_27, ms_28, ms_29, ms_30, ms_31, ms_32, ms_33, ms_34, ms_35, ms_39, ms_40, ms_41, ms_42, mm_go_some, mm_go_none, mm_go_ite, mm_go_ite2, List.getElem?_cons_zero, List.getElem?_cons_succ, List.length_cons, List.length_nil, mm_sto1, mm_kill, mm_ibin, List.set_cons_zero, List.set_cons_succ, Value.category, ↓reduceIte, Option.some.injEq, mm_in_iff, List.take_succ_cons, List.take_zero, List.drop_succ_cons, List.drop_zero, List.reverse_cons, List.reverse_nil, List.nil_append, List.cons_append, List.map_cons, List.map_nil, List.sum_cons, List.sum_nil, mm_rc, Option.toList_some, Option.toList_none, List.append_nil, Int32.reduceOfInt, Int64.reduceOfInt, Nat.reduceEqDiff, Nat.reduceLT, Nat.reduceMul, one_two, Nat.not_lt_zero, not_false_eq_true, not_true_eq_false, if_false, if_true, true_or, or_true, false_or, or_false, true_and, and_true, Nat.reduceLeDiff, Nat.reduceAdd, eq_self_iff_true, decide_true, li_0, li_1, li_2, li_3, li_4, li_5, li_6, li_7, li_8, li_9, li_10, li_11, li_12, li_13, li_14, li_15, li_16, li_17, li_18, li_19, li_20, li_21, li_22, li_23, li_24, li_25, li_26, li_27, li_28, li_29, li_30, li_31, li_32, li_33, li_36, li_38, li_40, li_41, li_42, li_43, li_45, li_47, li_48, li_57, li_58, li_59, li_60, li_61, li_63, li_64, li_68, li_69, li_97, li_99, li_100, li_101, li_102, li_103, li_104, li_105, li_108, li_110, li_111, li_112, li_114, li_115, li_116, li_117, li_119, li_121, li_122, li_130, li_155, li_199, li_207, li_255, li_260, li_400, li_401, li_403, li_404, li_420, li_840, li_2000, li_2691, li_2760, li_9999, li_12345, li_252645135, li_858993459, li_1103515245, li_1431655765, lm_1, lm_2, nM1_lt, nM2_lt, nI_nM1, nI_nM2, nM1_nI, nM2_nI, nI_le_nM, nI_le_nM2, nI_lt_nM, nI_lt_nM2, nM12, nM21, nI_add, pk_mul, nI_leI, nI_ltI, nI_eq, nI_clamp, vp_in_nI, mm_up2_eq, mm_up_up, up_ne, up_at, mm_up_sw, Nat.add_assoc, SH_323, SH_324, SH_325, SH_326, SH_327, SH_328, SH_329, SH_330, SH_331, SH_332, SH_333, SH_334, SH_335, SH_336, SH_337, SH_338, SH_339, SH_340, SH_341, SH_342, SH_343, SH_344, SH_345, SH_346, SH_347, SH_348, SH_349, SH_350, SH_351, SH_352, SH_353, SH_354, SH_355, SH_356, SH_357, SH_358, SH_359, SH_360, SH_361, SH_362, SH_363, SH_364, SH_365, SH_366, SH_367, SH_368, SH_369, cd_83_0, kb_83_0, cd_83_4, kb_83_4, nf_80, e_mknownF hfv hfv2 h13, h13, c9]
theorem e_mtoldHeirF {x : Int32} (hfv : 0 < fv) (hfv2 : fv < 10) (h13 : Z 323 13 = nI fv) {dd : Nat} {QQ : Option Value → mm_M → Prop} (hdd : 4 ≤ dd) : EV dd 83 [.ref 323, .int x] (nx, ns, SH w, Z, J) QQ ↔ QQ (some (.int nM1)) (nx, ns, SH w, Z, J) := (c_mtoldHeirF hfv hfv2 h13).ev hdd
theorem fq_mu {k : Nat} (hX : Y 323 13 = nI 0) (hM : CMk Y J b n a) (ha : a ≤ 400) (h : ¬ (pTk (tkK b n) k a).1 = 0) : FQ Y (muM (RS b n Y a c) (tkK b n a) k a) (pTk (tkK b n) k a).1 (tkp b n a) := by
  have g6 : RS b n Y a c 327 a = nI (tkp b n a) := hM.2.1
  rw [pTk_ne h]
  unfold muM goM
  by_cases d : tkK b n a = k
  · have d4 : ¬ a < 400 := fun e => h (pTk_0.mpr ⟨d, e⟩)
    have e4 : a = 400 := by omega
    rw [if_pos d, if_neg d4, if_pos d]
    refine ⟨fun q hq => ?_, fun j hj => ?_, rfl, ?_⟩
    · rw [up_ne hq]; exact RS_o hq
    · rw [up_at rfl, up_ne (by omega), up_ne (by omega)]; exact RS_j (by omega) (by omega) (by omega)
    · rw [up_at rfl, up_at rfl, ← e4]; exact g6
  · rw [if_neg d, if_neg d]
    refine ⟨fun q hq => ?_, fun j hj => ?_, rfl, ?_⟩
    · rw [up_ne hq]; exact RS_o hq
    · rw [up_at rfl, up_ne (by omega), up_ne (by omega)]; exact RS_j (by omega) (by omega) (by omega)
    · rw [up_at rfl, up_at rfl]; exact g6
theorem km_must {k kk : Nat} (hk : rk k = kk) (hk2 : k ≤ 33) (hX : Y 323 13 = nI 0) (hC : CUM Y J b n) (ha : a ≤ 400) (hpre : ∀ j, j < a → tkK b n j < 32) {dd : Nat} (hd : 3 ≤ dd) (hS : (pTk (tkK b n) k a).1 = 0 → Kc none (nx, ns, SH w, RS b n Y (a + 1) c, J)) (hF : ¬ (pTk (tkK b n) k a).1 = 0 → ∀ Z, FQ Y Z (pTk (tkK b n) k a).1 (tkp b n a) → Kc none (nx, ns, SH w, Z, J)) : EV dd 72 [.ref 323, .int (nI kk)] (nx, ns, SH w, RS b n Y a c, J) Kc := by
  have hM := CUM_at hC ha hpre
  rw [e_mmust2 (Y := RS b n Y a c) hk hk2 (z := tkK b n a) tkK_lt hX RS_t ha hM.1 hd]
  by_cases d : (pTk (tkK b n) k a).1 = 0
  · obtain ⟨d1, d2⟩ := pTk_0.mp d
    rw [muM_1 d1 d2]
    have := @RS_go Y n a b c (a + 1)
    rw [show mm_up (RS b n Y a c) 323 (mm_up (RS b n Y a c 323) 11 (nI (a + 1))) = RS b n Y (a + 1) c from this]
    exact hS d
  · exact hF d _ (fq_mu hX hM ha d)
theorem km_known {bs : Nat} {f : Nat → List Nat} {m : Nat} (hbs : (bs = 0 ∧ f = S.2.1 ∧ m = S.1 0) ∨ (bs = 10 ∧ f = S.2.2.1 ∧ m = S.1 1)) (hn : n ≤ 2000) (hN : RMn Y J S) (h13 : S.1 0 + S.1 1 ≤ 13) (hc : c 5 < 100) (hq : c 5 = 0 ∨ c 6 < a) (hX : Y 323 13 = nI 0) (hC : CUM Y J b n) (ha : a ≤ 400) (hpre : ∀ j, j < a → tkK b n j < 32) {dd : Nat} (hd : 4 ≤ dd) (hS : (pTk (tkK b n) 21 a).1 = 0 → Kc (some (.int (knA (lk f (tkL b n a) m)))) (nx, ns, SH w, RS b n Y (a + 1) (nt c 4 a (lk f (tkL b n a) m = none)), J)) (hF : ¬ (pTk (tkK b n) 21 a).1 = 0 → ∀ Z, FQ Y Z (pTk (tkK b n) 21 a).1 (tkp b n a) → Kc (some (.int nM1)) (nx, ns, SH w, Z, J)) : EV dd 80 [.ref 323, .int (nI bs)] (nx, ns, SH w, RS b n Y a c, J) Kc := by
  have hM := CUM_at hC ha hpre
  by_cases d : (pTk (tkK b n) 21 a).1 = 0
  · obtain ⟨d1, d2⟩ := pTk_0.mp d
    obtain ⟨A, n1, n2, n3⟩ := hN
    have hy := tkL_ok (b := b) (n := n) (a := a) (by omega)
    have ev : J 329 a = lN (enc 27 (tkL b n a)) := hM.2.2.2 (by omega)
    have ek : knw (J 331) A (J 329 a) bs (S.1 0 + S.1 1) 0 = lk f (tkL b n a) m := by
      rw [ev]
      rcases hbs with ⟨rfl, rfl, rfl⟩ | ⟨rfl, rfl, rfl⟩
      · exact (n3 _ hy).1
      · exact (n3 _ hy).2.1
    have hk5 : RS b n Y a c 326 a = nI (rk 21) := by rw [← d1]; exact hM.1
    rw [e_mknown1 (Y := RS b n Y a c) (bs := bs) (m := S.1 0 + S.1 1) (A := A) (by omega) d2 hX RS_t hk5 n1 h13 n2 (hOw_of hn hpre hc hq hM.2.1) hd, ek]
    have := @RS_go Y n a b c (a + 1)
    rw [show mm_up (RS b n Y a c) 323 (mm_up (RS b n Y a c 323) 11 (nI (a + 1))) = RS b n Y (a + 1) c from this, RS_wr (by decide) hc hM.2.1]
    exact hS d
  · rw [e_mknown0 (Y := RS b n Y a c) (bs := bs) (z := tkK b n a) tkK_lt (fun e => d (pTk_0.mpr e)) ha hX RS_t hM.1 hd]
    exact hF d _ (fq_mu hX hM ha d)
theorem km_named (hn : n ≤ 2000) (hN : RMn Y J S) (h13 : S.1 0 + S.1 1 ≤ 13) (hc : c 5 < 100) (hq : c 5 = 0 ∨ c 6 < a) (hX : Y 323 13 = nI 0) (hC : CUM Y J b n) (ha : a ≤ 400) (hpre : ∀ j, j < a → tkK b n j < 32) {dd : Nat} (hd : 4 ≤ dd) (hS : (pTk (tkK b n) 21 a).1 = 0 → Kc (some (.int (nI a))) (nx, ns, SH w, RS b n Y (a + 1) (nt c 3 a ((lk S.2.1 (tkL b n a) (S.1 0)).isSome = true ∨ (lk S.2.2.1 (tkL b n a) (S.1 1)).isSome = true)), J)) (hF : ¬ (pTk (tkK b n) 21 a).1 = 0 → ∀ Z, FQ Y Z (pTk (tkK b n) 21 a).1 (tkp b n a) → Kc (some (.int (nI a))) (nx, ns, SH w, Z, J)) : EV dd 78 [.ref 323] (nx, ns, SH w, RS b n Y a c, J) Kc := by
  have hM := CUM_at hC ha hpre
  obtain ⟨A, n1, n2, n3⟩ := hN
  by_cases d : (pTk (tkK b n) 21 a).1 = 0
  · obtain ⟨d1, d2⟩ := pTk_0.mp d
    have hy := tkL_ok (b := b) (n := n) (a := a) (by omega)
    have ev : J 329 a = lN (enc 27 (tkL b n a)) := hM.2.2.2 (by omega)
    have hk5 : RS b n Y a c 326 a = nI (rk 21) := by rw [← d1]; exact hM.1
    rw [e_mnamed1 (Y := RS b n Y a c) (m := S.1 0 + S.1 1) d2 hX RS_t hk5 n1 h13 (hOw_of hn hpre hc hq hM.2.1) hd]
    have := @RS_go Y n a b c (a + 1)
    rw [show mm_up (RS b n Y a c) 323 (mm_up (RS b n Y a c 323) 11 (nI (a + 1))) = RS b n Y (a + 1) c from this, RS_wr (by decide) hc hM.2.1, ev]
    have e : nt c 3 a (isIn (J 331) (lN (enc 27 (tkL b n a))) (S.1 0 + S.1 1) 0 = true) = nt c 3 a ((lk S.2.1 (tkL b n a) (S.1 0)).isSome = true ∨ (lk S.2.2.1 (tkL b n a) (S.1 1)).isSome = true) := by
      unfold nt
      simp only [(n3 _ hy).2.2]
    rw [e]
    exact hS d
  · rw [e_mnamed0 (Y := RS b n Y a c) (m := S.1 0 + S.1 1) (z := tkK b n a) tkK_lt (fun e => d (pTk_0.mpr e)) ha hX RS_t hM.1 n1 h13 hd]
    exact hF d _ (fq_mu hX hM ha d)
theorem km_bound {hi : Nat} (hhi : hi < 2 ^ 30) (hn : n ≤ 2000) (hc : c 5 < 100) (hq : c 5 = 0 ∨ c 6 < a) (hX : Y 323 13 = nI 0) (hC : CUM Y J b n) (ha : a ≤ 400) (hpre : ∀ j, j < a → tkK b n j < 32) {dd : Nat} (hd : 3 ≤ dd) (hS : (pTk (tkK b n) 22 a).1 = 0 → Kc (some (.int (nI (tkV b n a)))) (nx, ns, SH w, RS b n Y (a + 1) (nt c 5 a (hi < tkV b n a)), J)) (hF : ¬ (pTk (tkK b n) 22 a).1 = 0 → ∀ Z x, FQ Y Z (pTk (tkK b n) 22 a).1 (tkp b n a) → Kc (some (.int x)) (nx, ns, SH w, Z, J)) : EV dd 81 [.ref 323, .int (nI 0), .int (nI hi)] (nx, ns, SH w, RS b n Y a c, J) Kc := by
  have hM := CUM_at hC ha hpre
  by_cases d : tkK b n a = 22
  · have hv := tkV_lt d
    have ev : RS b n Y a c 328 a = nI (tkV b n a) := hM.2.2.1 d
    have hk5 : RS b n Y a c 326 a = nI (rk 22) := by rw [← d]; exact hM.1
    rw [e_mbound1 (Y := RS b n Y a c) (v := tkV b n a) (hi := hi) hX RS_t ha hk5 ev (by omega) hhi (hOw_of hn hpre hc hq hM.2.1) hd, RS_wr (by decide) hc hM.2.1]
    unfold goM
    by_cases d2 : a < 400
    · rw [if_pos d2]
      have := @RS_go Y n a b (nt c 5 a (hi < tkV b n a)) (a + 1)
      rw [show mm_up (RS b n Y a (nt c 5 a (hi < tkV b n a))) 323 (mm_up (RS b n Y a (nt c 5 a (hi < tkV b n a)) 323) 11 (nI (a + 1))) = RS b n Y (a + 1) (nt c 5 a (hi < tkV b n a)) from this]
      exact hS (pTk_0.mpr ⟨d, d2⟩)
    · rw [if_neg d2]
      have e4 : a = 400 := by omega
      have h0 : ¬ (pTk (tkK b n) 22 a).1 = 0 := fun e => d2 (pTk_0.mp e).2
      refine hF h0 _ _ ⟨fun q hq => ?_, fun j hj => ?_, ?_, ?_⟩
      · rw [up_ne hq]; exact RS_o hq
      · rw [up_at rfl, up_ne (by omega), up_ne (by omega)]; exact RS_j (by omega) (by omega) (by omega)
      · rw [pTk_ne h0, if_pos d]; rfl
      · rw [up_at rfl, up_at rfl, ← e4]; exact hM.2.1
  · have h0 : ¬ (pTk (tkK b n) 22 a).1 = 0 := fun e => d (pTk_0.mp e).1
    rw [e_mbound0 (Y := RS b n Y a c) (z := tkK b n a) tkK_lt d hX RS_t ha hM.1 (by omega)]
    refine hF h0 _ _ ⟨fun q hq => ?_, fun j hj => ?_, ?_, ?_⟩
    · rw [up_ne hq]; exact RS_o hq
    · rw [up_at rfl, up_ne (by omega), up_ne (by omega)]; exact RS_j (by omega) (by omega) (by omega)
    · rw [pTk_ne h0, if_neg d]; rfl
    · rw [up_at rfl, up_at rfl]; exact hM.2.1
end Qx
