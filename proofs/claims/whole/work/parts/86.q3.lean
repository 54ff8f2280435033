/-! ===== The reference: a law ===== -/
/-- its branches: how many, and their rows -/
def BB (X : Nat → Nat → Int32) (br : Nat) (ht tf tm tt te : Nat → Int32) : Nat → Nat → Int32 := mm_up (mm_up (mm_up (mm_up (mm_up (mm_up X 323 (mm_up (X 323) 38 (nI br))) 348 ht) 349 tf) 350 tm) 351 tt) 352 te
/-- branches are written from D / 4 on, 130 of them -/
def BF (D : Nat) (X : Nat → Nat → Int32) (br : Nat) (ht tf tm tt te : Nat → Int32) : Prop := D ≤ 4 * br ∧ ∀ z, 4 * z < D ∨ D + 520 ≤ 4 * z → ht z = X 348 z ∧ tf z = X 349 z ∧ tm z = X 350 z ∧ tt z = X 351 z ∧ te z = X 352 z
theorem BF_up {D : Nat} {X : Nat → Nat → Int32} {br br2 : Nat} {ht tf tm tt te ht' tf' tm' tt' te' : Nat → Int32} (h : BF D X br ht tf tm tt te) (hb : 4 * br < D + 520) (hb2 : br ≤ br2) (hz : ∀ z, ¬ z = br → ht' z = ht z ∧ tf' z = tf z ∧ tm' z = tm z ∧ tt' z = tt z ∧ te' z = te z) : BF D X br2 ht' tf' tm' tt' te' := by
  have h0 := h.1
  refine ⟨by omega, fun z hq => ?_⟩
  obtain ⟨a1, a2, a3, a4, a5⟩ := h.2 z hq
  obtain ⟨b1, b2, b3, b4, b5⟩ := hz z (by omega)
  exact ⟨b1.trans a1, b2.trans a2, b3.trans a3, b4.trans a4, b5.trans a5⟩
def FMl (C D : Nat) (X Y : Nat → Nat → Int32) : Prop := (∀ b, ¬ b = 323 → ¬ (348 ≤ b ∧ b ≤ 355) → Y b = X b) ∧ (∀ j, ¬ (11 ≤ j ∧ j ≤ 14) → ¬ j = 38 → ¬ j = 44 → ¬ j = 48 → Y 323 j = X 323 j) ∧ (∀ z, z < C ∨ C + 420 ≤ z → Y 353 z = X 353 z ∧ Y 354 z = X 354 z) ∧ ∀ z, 4 * z < D ∨ D + 520 ≤ 4 * z → Y 348 z = X 348 z ∧ Y 349 z = X 349 z ∧ Y 350 z = X 350 z ∧ Y 351 z = X 351 z ∧ Y 352 z = X 352 z
/-- the branches of a law, from br on, its codes from cd on -/
def BR (ht tf tm tt te : Nat → Int32) : Nat → Nat → List PI → PC → Prop
  | br, cd, [], c => ht br = nI 0 ∧ tt br = nI cd ∧ te br = nI (cd + c.length)
  | br, cd, t :: l, c => ht br = nI 1 ∧ tf br = nI cd ∧ tm br = nI (cd + t.1.length) ∧ tt br = nI (cd + t.1.length + t.2.1.length) ∧ te br = nI (cd + t.1.length + t.2.1.length + t.2.2.length) ∧ BR ht tf tm tt te (br + 1) (cd + t.1.length + t.2.1.length + t.2.2.length) l c
def flc : List PI → PC → PC
  | [], c => c
  | t :: l, c => t.1 ++ (t.2.1 ++ (t.2.2 ++ flc l c))
section Q3
variable {w : Bool} {nx ns : Nat} {I X Y : Nat → Nat → Int32} {J : Nat → Nat → Int64} {t op cd wt n fv br : Nat} {b : Nat → Nat} {c1 c2 wr ht tf tm tt te : Nat → Int32} {C D : Nat}
theorem BB_br : RP (BB X br ht tf tm tt te) t op cd wt c1 c2 wr 323 38 = nI br := rfl
theorem BB_ht : RP (BB X br ht tf tm tt te) t op cd wt c1 c2 wr 348 = ht := rfl
theorem BB_tf : RP (BB X br ht tf tm tt te) t op cd wt c1 c2 wr 349 = tf := rfl
theorem BB_tm : RP (BB X br ht tf tm tt te) t op cd wt c1 c2 wr 350 = tm := rfl
theorem BB_tt : RP (BB X br ht tf tm tt te) t op cd wt c1 c2 wr 351 = tt := rfl
theorem BB_te : RP (BB X br ht tf tm tt te) t op cd wt c1 c2 wr 352 = te := rfl
theorem BB_uht {f : Nat → Int32} : mm_up (RP (BB X br ht tf tm tt te) t op cd wt c1 c2 wr) 348 f = RP (BB X br f tf tm tt te) t op cd wt c1 c2 wr := by
  funext z
  by_cases h : z = 348
  · subst h; rfl
  · rw [up_ne h]
    unfold RP BB
    simp only [mm_up_app, h, if_false]
    first | rfl | (by_cases h2 : z = 323 <;> simp [h2])
theorem BB_utf {f : Nat → Int32} : mm_up (RP (BB X br ht tf tm tt te) t op cd wt c1 c2 wr) 349 f = RP (BB X br ht f tm tt te) t op cd wt c1 c2 wr := by
  funext z
  by_cases h : z = 349
  · subst h; rfl
  · rw [up_ne h]
    unfold RP BB
    simp only [mm_up_app, h, if_false]
    first | rfl | (by_cases h2 : z = 323 <;> simp [h2])
theorem BB_utm {f : Nat → Int32} : mm_up (RP (BB X br ht tf tm tt te) t op cd wt c1 c2 wr) 350 f = RP (BB X br ht tf f tt te) t op cd wt c1 c2 wr := by
  funext z
  by_cases h : z = 350
  · subst h; rfl
  · rw [up_ne h]
    unfold RP BB
    simp only [mm_up_app, h, if_false]
    first | rfl | (by_cases h2 : z = 323 <;> simp [h2])
theorem BB_utt {f : Nat → Int32} : mm_up (RP (BB X br ht tf tm tt te) t op cd wt c1 c2 wr) 351 f = RP (BB X br ht tf tm f te) t op cd wt c1 c2 wr := by
  funext z
  by_cases h : z = 351
  · subst h; rfl
  · rw [up_ne h]
    unfold RP BB
    simp only [mm_up_app, h, if_false]
    first | rfl | (by_cases h2 : z = 323 <;> simp [h2])
theorem BB_ute {f : Nat → Int32} : mm_up (RP (BB X br ht tf tm tt te) t op cd wt c1 c2 wr) 352 f = RP (BB X br ht tf tm tt f) t op cd wt c1 c2 wr := by
  funext z
  by_cases h : z = 352
  · subst h; rfl
  · rw [up_ne h]
    unfold RP BB
    simp only [mm_up_app, h, if_false]
    first | rfl | (by_cases h2 : z = 323 <;> simp [h2])
theorem BB_ubr {x : Nat} : mm_up (RP (BB X br ht tf tm tt te) t op cd wt c1 c2 wr) 323 (mm_up (RP (BB X br ht tf tm tt te) t op cd wt c1 c2 wr 323) 38 (nI x)) = RP (BB X x ht tf tm tt te) t op cd wt c1 c2 wr := by
  funext z
  by_cases h : z = 323
  · subst h
    rw [up_at rfl]
    funext k
    show mm_up (mm_up (mm_up (mm_up (mm_up (mm_up (X 323) 38 (nI br)) 11 (nI t)) 12 (nI op)) 44 (nI cd)) 48 (nI wt)) 38 (nI x) k = mm_up (mm_up (mm_up (mm_up (mm_up (X 323) 38 (nI x)) 11 (nI t)) 12 (nI op)) 44 (nI cd)) 48 (nI wt) k
    simp only [mm_up_app]
    by_cases h1 : k = 38
    · subst h1; rfl
    · simp only [h1, if_false]
  · rw [up_ne h]
    unfold RP BB
    simp only [mm_up_app, h, if_false]
theorem BB_fl : BB X br ht tf tm tt te 323 13 = X 323 13 := rfl
theorem BB_cum (h : CUM X J b n) : CUM (BB X br ht tf tm tt te) J b n := h
theorem BB_fm (h : FMx C (BB X br ht tf tm tt te) Y) (hb : BF D X br ht tf tm tt te) : FMl C D X Y := by
  refine ⟨fun b h1 h2 => ?_, fun j h1 h2 h3 h4 => ?_, h.2.2, fun z hz => ?_⟩
  · rw [h.1 b h1 (by omega)]
    unfold BB
    rw [up_ne (by omega), up_ne (by omega), up_ne (by omega), up_ne (by omega), up_ne (by omega), up_ne h1]
  · rw [h.2.1 j h1 h3 h4]
    show mm_up (X 323) 38 (nI br) j = X 323 j
    rw [up_ne h2]
  · rw [h.1 348 (by omega) (by omega), h.1 349 (by omega) (by omega), h.1 350 (by omega) (by omega), h.1 351 (by omega) (by omega), h.1 352 (by omega) (by omega)]
    exact hb.2 z hz
theorem c_mexprF (hfv : 0 < fv) (hfv2 : fv < 10) (h13 : Y 323 13 = nI fv) : RT 1 89 [.ref 323] (nx, ns, SH w, Y, J) none (nx, ns, SH w, mm_up Y 323 (mm_up (Y 323) 48 (nI 0)), J) := by
  refine EV_of (show 1 ≤ 3 from by decide) ?_; show WP 0 89 (mm_Cd 89 0) [some (.ref 323), none, none] [] _ _
  have c : ¬ fv = 0 := by omega
  simp (disch := first | decide | omega) only [wp_iload, wp_lload, wp_aload, wp_istore, wp_lstore, wp_astore, wp_iinc, wp_iconst, wp_lconst, wp_sconst, wp_pop_int, wp_dup_int, wp_pop_ref, wp_dup_ref, wp_dup2_ri, wp_ibin, wp_idiv, wp_irem, wp_lbin, wp_lshl, wp_lcmp, wp_i2l, wp_l2i, wp_i2b, wp_i2c, wp_max, wp_min, wp_23, wp_24, wp_25, wp_26, wp_27, wp_28, wp_29, wp_30, wp_31, wp_32, wp_33, wp_34, wp_35, wp_36, wp_37, wp_38, wp_39, wp_40, wp_41, wp_42, wp_goto, wp_jmp, wp_sw_in, wp_sw_in2, wp_if0, wp_icmp0, wp_if1, wp_icmp1, wp_if2, wp_icmp2, wp_if3, wp_icmp3, wp_if4, wp_icmp4, wp_if5, wp_icmp5, wp_iret, wp_zret, wp_lret, wp_vret, wp_call, ms_23, ms_24, ms_25, ms_26, ms_27, ms_28, ms_29, ms_30, ms_31, ms_32, ms_33, ms_34, ms_35, ms_39, ms_40, ms_41, ms_42, mm_go_some, mm_go_none, mm_go_ite, mm_go_ite2, List.getElem?_cons_zero, List.getElem?_cons_succ, List.length_cons, List.length_nil, mm_sto1, mm_kill, mm_ibin, List.set_cons_zero, List.set_cons_succ, Value.category, ↓reduceIte, Option.some.injEq, mm_in_iff, List.take_succ_cons, List.take_zero, List.drop_succ_cons, List.drop_zero, List.reverse_cons, List.reverse_nil, List.nil_append, List.cons_append, List.map_cons, List.map_nil, List.sum_cons, List.sum_nil, mm_rc, Option.toList_some, Option.toList_none, List.append_nil, Int32.reduceOfInt, Int64.reduceOfInt, Nat.reduceEqDiff, Nat.reduceLT, Nat.reduceMul, one_two, Nat.not_lt_zero, not_false_eq_true, not_true_eq_false, if_false, if_true, true_or, or_true, false_or, or_false, true_and, and_true, Nat.reduceLeDiff, Nat.reduceAdd, eq_self_iff_true, decide_true, li_0, li_1, li_2, li_3, li_4, li_5, li_6, li_7, li_8, li_9, li_10, li_11, li_12, li_13, li_14, li_15, li_16, li_17, li_18, li_19, li_20, li_21, li_22, li_23, li_24, li_25, li_26, li_27, li_28, li_29, li_30, li_31, li_32, li_33, li_36, li_38, li_40, li_41, li_42, li_43, li_45, li_47, li_48, li_57, li_58, li_59, li_60, li_61, li_63, li_64, li_68, li_69, li_97, li_99, li_100, li_101, li_102, li_103, li_104, li_105, li_108, li_110, li_111, li_112, li_114, li_115, li_116, li_117, li_119, li_121, li_122, li_130, li_155, li_199, li_207, li_255, li_260, li_400, li_401, li_403, li_404, li_420, li_840, li_2000, li_2691, li_2760, li_9999, li_12345, li_252645135, li_858993459, li_1103515245, li_1431655765, lm_1, lm_2, nM1_lt, nM2_lt, nI_nM1, nI_nM2, nM1_nI, nM2_nI, nI_le_nM, nI_le_nM2, nI_lt_nM, nI_lt_nM2, nM12, nM21, nI_add, pk_mul, nI_leI, nI_ltI, nI_eq, nI_clamp, vp_in_nI, mm_up2_eq, mm_up_up, up_ne, up_at, mm_up_sw, Nat.add_assoc, SH_323, SH_324, SH_325, SH_326, SH_327, SH_328, SH_329, SH_330, SH_331, SH_332, SH_333, SH_334, SH_335, SH_336, SH_337, SH_338, SH_339, SH_340, SH_341, SH_342, SH_343, SH_344, SH_345, SH_346, SH_347, SH_348, SH_349, SH_350, SH_351, SH_352, SH_353, SH_354, SH_355, SH_356, SH_357, SH_358, SH_359, SH_360, SH_361, SH_362, SH_363, SH_364, SH_365, SH_366, SH_367, SH_368, SH_369, cd_89_0, kb_89_0, cd_89_1, kb_89_1, cd_89_2, kb_89_2, cd_89_27, kb_89_27, h13, c, bt_one0]
theorem e_mexprF (hfv : 0 < fv) (hfv2 : fv < 10) (h13 : Y 323 13 = nI fv) {dd : Nat} {QQ : Option Value → mm_M → Prop} (hdd : 1 ≤ dd) : EV dd 89 [.ref 323] (nx, ns, SH w, Y, J) QQ ↔ QQ none (nx, ns, SH w, mm_up Y 323 (mm_up (Y 323) 48 (nI 0)), J) := (c_mexprF hfv hfv2 h13).ev hdd
theorem c_mtermF (hfv : 0 < fv) (hfv2 : fv < 10) (h13 : Y 323 13 = nI fv) (h38 : Y 323 38 = nI br) (hbr : br < 260) : RT 1 86 [.ref 323] (nx, ns, SH w, Y, J) none (nx, ns, SH w, mm_up (mm_up (mm_up Y 323 (mm_up (Y 323) 38 (nI (br + 1)))) 351 (mm_up (Y 351) br (Y 323 44))) 352 (mm_up (Y 352) br (Y 323 44)), J) := by
  refine EV_of (show 1 ≤ 1 from by decide) ?_; show WP 0 86 (mm_Cd 86 0) [some (.ref 323)] [] _ _
  have c : ¬ fv = 0 := by omega
  simp (disch := first | decide | omega) only [wp_iload, wp_lload, wp_aload, wp_istore, wp_lstore, wp_astore, wp_iinc, wp_iconst, wp_lconst, wp_sconst, wp_pop_int, wp_dup_int, wp_pop_ref, wp_dup_ref, wp_dup2_ri, wp_ibin, wp_idiv, wp_irem, wp_lbin, wp_lshl, wp_lcmp, wp_i2l, wp_l2i, wp_i2b, wp_i2c, wp_max, wp_min, wp_23, wp_24, wp_25, wp_26, wp_27, wp_28, wp_29, wp_30, wp_31, wp_32, wp_33, wp_34, wp_35, wp_36, wp_37, wp_38, wp_39, wp_40, wp_41, wp_42, wp_goto, wp_jmp, wp_sw_in, wp_sw_in2, wp_if0, wp_icmp0, wp_if1, wp_icmp1, wp_if2, wp_icmp2, wp_if3, wp_icmp3, wp_if4, wp_icmp4, wp_if5, wp_icmp5, wp_iret, wp_zret, wp_lret, wp_vret, wp_call, ms_23, ms_24, ms_25, ms_26, ms_27, ms_28, ms_29, ms_30, ms_31, ms_32, ms_33, ms_34, ms_35, ms_39, ms_40, ms_41, ms_42, mm_go_some, mm_go_none, mm_go_ite, mm_go_ite2, List.getElem?_cons_zero, List.getElem?_cons_succ, List.length_cons, List.length_nil, mm_sto1, mm_kill, mm_ibin, List.set_cons_zero, List.set_cons_succ, Value.category, ↓reduceIte, Option.some.injEq, mm_in_iff, List.take_succ_cons, List.take_zero, List.drop_succ_cons, List.drop_zero, List.reverse_cons, List.reverse_nil, List.nil_append, List.cons_append, List.map_cons, List.map_nil, List.sum_cons, List.sum_nil, mm_rc, Option.toList_some, Option.toList_none, List.append_nil, Int32.reduceOfInt, Int64.reduceOfInt, Nat.reduceEqDiff, Nat.reduceLT, Nat.reduceMul, one_two, Nat.not_lt_zero, not_false_eq_true, not_true_eq_false, if_false, if_true, true_or, or_true, false_or, or_false, true_and, and_true, Nat.reduceLeDiff, Nat.reduceAdd, eq_self_iff_true, decide_true, li_0, li_1, li_2, li_3, li_4, li_5, li_6, li_7, li_8, li_9, li_10, li_11, li_12, li_13, li_14, li_15, li_16, li_17, li_18, li_19, li_20, li_21, li_22, li_23, li_24, li_25, li_26, li_27, li_28, li_29, li_30, li_31, li_32, li_33, li_36, li_38, li_40, li_41, li_42, li_43, li_45, li_47, li_48, li_57, li_58, li_59, li_60, li_61, li_63, li_64, li_68, li_69, li_97, li_99, li_100, li_101, li_102, li_103, li_104, li_105, li_108, li_110, li_111, li_112, li_114, li_115, li_116, li_117, li_119, li_121, li_122, li_130, li_155, li_199, li_207, li_255, li_260, li_400, li_401, li_403, li_404, li_420, li_840, li_2000, li_2691, li_2760, li_9999, li_12345, li_252645135, li_858993459, li_1103515245, li_1431655765, lm_1, lm_2, nM1_lt, nM2_lt, nI_nM1, nI_nM2, nM1_nI, nM2_nI, nI_le_nM, nI_le_nM2, nI_lt_nM, nI_lt_nM2, nM12, nM21, nI_add, pk_mul, nI_leI, nI_ltI, nI_eq, nI_clamp, vp_in_nI, mm_up2_eq, mm_up_up, up_ne, up_at, mm_up_sw, Nat.add_assoc, SH_323, SH_324, SH_325, SH_326, SH_327, SH_328, SH_329, SH_330, SH_331, SH_332, SH_333, SH_334, SH_335, SH_336, SH_337, SH_338, SH_339, SH_340, SH_341, SH_342, SH_343, SH_344, SH_345, SH_346, SH_347, SH_348, SH_349, SH_350, SH_351, SH_352, SH_353, SH_354, SH_355, SH_356, SH_357, SH_358, SH_359, SH_360, SH_361, SH_362, SH_363, SH_364, SH_365, SH_366, SH_367, SH_368, SH_369, cd_86_0, kb_86_0, cd_86_2, kb_86_2, h13, h38, c]
theorem e_mtermF (hfv : 0 < fv) (hfv2 : fv < 10) (h13 : Y 323 13 = nI fv) (h38 : Y 323 38 = nI br) (hbr : br < 260) {dd : Nat} {QQ : Option Value → mm_M → Prop} (hdd : 1 ≤ dd) : EV dd 86 [.ref 323] (nx, ns, SH w, Y, J) QQ ↔ QQ none (nx, ns, SH w, mm_up (mm_up (mm_up Y 323 (mm_up (Y 323) 38 (nI (br + 1)))) 351 (mm_up (Y 351) br (Y 323 44))) 352 (mm_up (Y 352) br (Y 323 44)), J) := (c_mtermF hfv hfv2 h13 h38 hbr).ev hdd
/-- a token is taken by the reference -/
theorem k_mmust {k kk a : Nat} (hk : rk k = kk) (hk2 : k ≤ 33) (hX : X 323 13 = nI 0) (hC : CUM X J b n) (ha : a ≤ 400) (hpre : ∀ j, j < a → tkK b n j < 32) (hcf : CFc C X cd c1 c2) {dd : Nat} (hd : 3 ≤ dd) {Kc : Option Value → mm_M → Prop} (hS : (pTk (tkK b n) k a).1 = 0 → Kc none (nx, ns, SH w, RP X (a + 1) op cd wt c1 c2 wr, J)) (hF : ¬ (pTk (tkK b n) k a).1 = 0 → ∀ Y, FMx C X Y → Y 323 13 = nI (pTk (tkK b n) k a).1 → Y 323 14 = nI (tkp b n a) → Kc none (nx, ns, SH w, Y, J)) : EV dd 72 [.ref 323, .int (nI kk)] (nx, ns, SH w, RP X a op cd wt c1 c2 wr, J) Kc := by
  refine EV_up hd ?_
  obtain ⟨g5, g6, -, -⟩ := hC a ha (fun j hj => by have := hpre j hj; omega)
  have e14 : ∀ {t op cd wt : Nat} {r1 r2 r3 : Nat → Int32}, RP X t op cd wt r1 r2 r3 327 a = nI (tkp b n a) := g6
  have isx := fun (dd : Nat) (QQ : Option Value → mm_M → Prop) (hdd : 1 ≤ dd) => @e_ism w nx ns X J op cd wt n b c1 c2 wr hX hC a k kk ha hpre hk hk2 dd QQ hdd
  refine EV_of (show 2 ≤ 2 from by decide) ?_; show WP 2 72 (mm_Cd 72 0) [some (.ref 323), some (.int (nI kk))] [] _ _
  by_cases c : tkK b n a = k
  · by_cases d : a < 400
    · have h0 : (pTk (tkK b n) k a).1 = 0 := pTk_0.mpr ⟨c, d⟩
      simp (disch := first | decide | omega) only [wp_iload, wp_lload, wp_aload, wp_istore, wp_lstore, wp_astore, wp_iinc, wp_iconst, wp_lconst, wp_sconst, wp_pop_int, wp_dup_int, wp_pop_ref, wp_dup_ref, wp_dup2_ri, wp_ibin, wp_idiv, wp_irem, wp_lbin, wp_lshl, wp_lcmp, wp_i2l, wp_l2i, wp_i2b, wp_i2c, wp_max, wp_min, wp_23, wp_24, wp_25, wp_26, wp_27, wp_28, wp_29, wp_30, wp_31, wp_32, wp_33, wp_34, wp_35, wp_36, wp_37, wp_38, wp_39, wp_40, wp_41, wp_42, wp_goto, wp_jmp, wp_sw_in, wp_sw_in2, wp_if0, wp_icmp0, wp_if1, wp_icmp1, wp_if2, wp_icmp2, wp_if3, wp_icmp3, wp_if4, wp_icmp4, wp_if5, wp_icmp5, wp_iret, wp_zret, wp_lret, wp_vret, wp_call, ms_23, ms_24, ms_25, ms_26, ms_27, ms_28, ms_29, ms_30, ms_31, ms_32, ms_33, ms_34, ms_35, ms_39, ms_40, ms_41, ms_42, mm_go_some, mm_go_none, mm_go_ite, mm_go_ite2, List.getElem?_cons_zero, List.getElem?_cons_succ, List.length_cons, List.length_nil, mm_sto1, mm_kill, mm_ibin, List.set_cons_zero, List.set_cons_succ, Value.category, ↓reduceIte, Option.some.injEq, mm_in_iff, List.take_succ_cons, List.take_zero, List.drop_succ_cons, List.drop_zero, List.reverse_cons, List.reverse_nil, List.nil_append, List.cons_append, List.map_cons, List.map_nil, List.sum_cons, List.sum_nil, mm_rc, Option.toList_some, Option.toList_none, List.append_nil, Int32.reduceOfInt, Int64.reduceOfInt, Nat.reduceEqDiff, Nat.reduceLT, Nat.reduceMul, one_two, Nat.not_lt_zero, not_false_eq_true, not_true_eq_false, if_false, if_true, true_or, or_true, false_or, or_false, true_and, and_true, Nat.reduceLeDiff, Nat.reduceAdd, eq_self_iff_true, decide_true, li_0, li_1, li_2, li_3, li_4, li_5, li_6, li_7, li_8, li_9, li_10, li_11, li_12, li_13, li_14, li_15, li_16, li_17, li_18, li_19, li_20, li_21, li_22, li_23, li_24, li_25, li_26, li_27, li_28, li_29, li_30, li_31, li_32, li_33, li_36, li_38, li_40, li_41, li_42, li_43, li_45, li_47, li_48, li_57, li_58, li_59, li_60, li_61, li_63, li_64, li_68, li_69, li_97, li_99, li_100, li_101, li_102, li_103, li_104, li_105, li_108, li_110, li_111, li_112, li_114, li_115, li_116, li_117, li_119, li_121, li_122, li_130, li_155, li_199, li_207, li_255, li_260, li_400, li_401, li_403, li_404, li_420, li_840, li_2000, li_2691, li_2760, li_9999, li_12345, li_252645135, li_858993459, li_1103515245, li_1431655765, lm_1, lm_2, nM1_lt, nM2_lt, nI_nM1, nI_nM2, nM1_nI, nM2_nI, nI_le_nM, nI_le_nM2, nI_lt_nM, nI_lt_nM2, nM12, nM21, nI_add, pk_mul, nI_leI, nI_ltI, nI_eq, nI_clamp, vp_in_nI, mm_up2_eq, mm_up_up, up_ne, up_at, mm_up_sw, Nat.add_assoc, SH_323, SH_324, SH_325, SH_326, SH_327, SH_328, SH_329, SH_330, SH_331, SH_332, SH_333, SH_334, SH_335, SH_336, SH_337, SH_338, SH_339, SH_340, SH_341, SH_342, SH_343, SH_344, SH_345, SH_346, SH_347, SH_348, SH_349, SH_350, SH_351, SH_352, SH_353, SH_354, SH_355, SH_356, SH_357, SH_358, SH_359, SH_360, SH_361, SH_362, SH_363, SH_364, SH_365, SH_366, SH_367, SH_368, SH_369, cd_72_0, kb_72_0, cd_72_1, kb_72_1, cd_72_3, kb_72_3, nf_68, nf_71, isx, c, bt_one0, e_mgoes1 RP_t d, RP_u11]
      exact hS h0
    · have ea : a = 400 := by omega
      have h0 : ¬ (pTk (tkK b n) k a).1 = 0 := fun h => d (pTk_0.mp h).2
      have hF2 := hF h0
      rw [pTk_ne h0, if_pos c] at hF2
      subst ea
      simp (disch := first | decide | omega) only [wp_iload, wp_lload, wp_aload, wp_istore, wp_lstore, wp_astore, wp_iinc, wp_iconst, wp_lconst, wp_sconst, wp_pop_int, wp_dup_int, wp_pop_ref, wp_dup_ref, wp_dup2_ri, wp_ibin, wp_idiv, wp_irem, wp_lbin, wp_lshl, wp_lcmp, wp_i2l, wp_l2i, wp_i2b, wp_i2c, wp_max, wp_min, wp_23, wp_24, wp_25, wp_26, wp_27, wp_28, wp_29, wp_30, wp_31, wp_32, wp_33, wp_34, wp_35, wp_36, wp_37, wp_38, wp_39, wp_40, wp_41, wp_42, wp_goto, wp_jmp, wp_sw_in, wp_sw_in2, wp_if0, wp_icmp0, wp_if1, wp_icmp1, wp_if2, wp_icmp2, wp_if3, wp_icmp3, wp_if4, wp_icmp4, wp_if5, wp_icmp5, wp_iret, wp_zret, wp_lret, wp_vret, wp_call, ms_23, ms_24, ms_25, ms_26, ms_27, ms_28, ms_29, ms_30, ms_31, ms_32, ms_33, ms_34, ms_35, ms_39, ms_40, ms_41, ms_42, mm_go_some, mm_go_none, mm_go_ite, mm_go_ite2, List.getElem?_cons_zero, List.getElem?_cons_succ, List.length_cons, List.length_nil, mm_sto1, mm_kill, mm_ibin, List.set_cons_zero, List.set_cons_succ, Value.category, ↓reduceIte, Option.some.injEq, mm_in_iff, List.take_succ_cons, List.take_zero, List.drop_succ_cons, List.drop_zero, List.reverse_cons, List.reverse_nil, List.nil_append, List.cons_append, List.map_cons, List.map_nil, List.sum_cons, List.sum_nil, mm_rc, Option.toList_some, Option.toList_none, List.append_nil, Int32.reduceOfInt, Int64.reduceOfInt, Nat.reduceEqDiff, Nat.reduceLT, Nat.reduceMul, one_two, Nat.not_lt_zero, not_false_eq_true, not_true_eq_false, if_false, if_true, true_or, or_true, false_or, or_false, true_and, and_true, Nat.reduceLeDiff, Nat.reduceAdd, eq_self_iff_true, decide_true, li_0, li_1, li_2, li_3, li_4, li_5, li_6, li_7, li_8, li_9, li_10, li_11, li_12, li_13, li_14, li_15, li_16, li_17, li_18, li_19, li_20, li_21, li_22, li_23, li_24, li_25, li_26, li_27, li_28, li_29, li_30, li_31, li_32, li_33, li_36, li_38, li_40, li_41, li_42, li_43, li_45, li_47, li_48, li_57, li_58, li_59, li_60, li_61, li_63, li_64, li_68, li_69, li_97, li_99, li_100, li_101, li_102, li_103, li_104, li_105, li_108, li_110, li_111, li_112, li_114, li_115, li_116, li_117, li_119, li_121, li_122, li_130, li_155, li_199, li_207, li_255, li_260, li_400, li_401, li_403, li_404, li_420, li_840, li_2000, li_2691, li_2760, li_9999, li_12345, li_252645135, li_858993459, li_1103515245, li_1431655765, lm_1, lm_2, nM1_lt, nM2_lt, nI_nM1, nI_nM2, nM1_nI, nM2_nI, nI_le_nM, nI_le_nM2, nI_lt_nM, nI_lt_nM2, nM12, nM21, nI_add, pk_mul, nI_leI, nI_ltI, nI_eq, nI_clamp, vp_in_nI, mm_up2_eq, mm_up_up, up_ne, up_at, mm_up_sw, Nat.add_assoc, SH_323, SH_324, SH_325, SH_326, SH_327, SH_328, SH_329, SH_330, SH_331, SH_332, SH_333, SH_334, SH_335, SH_336, SH_337, SH_338, SH_339, SH_340, SH_341, SH_342, SH_343, SH_344, SH_345, SH_346, SH_347, SH_348, SH_349, SH_350, SH_351, SH_352, SH_353, SH_354, SH_355, SH_356, SH_357, SH_358, SH_359, SH_360, SH_361, SH_362, SH_363, SH_364, SH_365, SH_366, SH_367, SH_368, SH_369, cd_72_0, kb_72_0, cd_72_1, kb_72_1, cd_72_3, kb_72_3, nf_68, nf_71, isx, c, bt_one0, e_mgoes0 (RP_fl.trans hX) RP_t, e14, RP_flt]
      exact hF2 _ (XF_fm hcf) rfl rfl
  · have h0 : ¬ (pTk (tkK b n) k a).1 = 0 := fun h => c (pTk_0.mp h).1
    have hF2 := hF h0
    rw [pTk_ne h0, if_neg c] at hF2
    simp (disch := first | decide | omega) only [wp_iload, wp_lload, wp_aload, wp_istore, wp_lstore, wp_astore, wp_iinc, wp_iconst, wp_lconst, wp_sconst, wp_pop_int, wp_dup_int, wp_pop_ref, wp_dup_ref, wp_dup2_ri, wp_ibin, wp_idiv, wp_irem, wp_lbin, wp_lshl, wp_lcmp, wp_i2l, wp_l2i, wp_i2b, wp_i2c, wp_max, wp_min, wp_23, wp_24, wp_25, wp_26, wp_27, wp_28, wp_29, wp_30, wp_31, wp_32, wp_33, wp_34, wp_35, wp_36, wp_37, wp_38, wp_39, wp_40, wp_41, wp_42, wp_goto, wp_jmp, wp_sw_in, wp_sw_in2, wp_if0, wp_icmp0, wp_if1, wp_icmp1, wp_if2, wp_icmp2, wp_if3, wp_icmp3, wp_if4, wp_icmp4, wp_if5, wp_icmp5, wp_iret, wp_zret, wp_lret, wp_vret, wp_call, ms_23, ms_24, ms_25, ms_26, ms_27, ms_28, ms_29, ms_30, ms_31, ms_32, ms_33, ms_34, ms_35, ms_39, ms_40, ms_41, ms_42, mm_go_some, mm_go_none, mm_go_ite, mm_go_ite2, List.getElem?_cons_zero, List.getElem?_cons_succ, List.length_cons, List.length_nil, mm_sto1, mm_kill, mm_ibin, List.set_cons_zero, List.set_cons_succ, Value.category, ↓reduceIte, Option.some.injEq, mm_in_iff, List.take_succ_cons, List.take_zero, List.drop_succ_cons, List.drop_zero, List.reverse_cons, List.reverse_nil, List.nil_append, List.cons_append, List.map_cons, List.map_nil, List.sum_cons, List.sum_nil, mm_rc, Option.toList_some, Option.toList_none, List.append_nil, Int32.reduceOfInt, Int64.reduceOfInt, Nat.reduceEqDiff, Nat.reduceLT, Nat.reduceMul, one_two, Nat.not_lt_zero, not_false_eq_true, not_true_eq_false, if_false, if_true, true_or, or_true, false_or, or_false, true_and, and_true, Nat.reduceLeDiff, Nat.reduceAdd, eq_self_iff_true, decide_true, li_0, li_1, li_2, li_3, li_4, li_5, li_6, li_7, li_8, li_9, li_10, li_11, li_12, li_13, li_14, li_15, li_16, li_17, li_18, li_19, li_20, li_21, li_22, li_23, li_24, li_25, li_26, li_27, li_28, li_29, li_30, li_31, li_32, li_33, li_36, li_38, li_40, li_41, li_42, li_43, li_45, li_47, li_48, li_57, li_58, li_59, li_60, li_61, li_63, li_64, li_68, li_69, li_97, li_99, li_100, li_101, li_102, li_103, li_104, li_105, li_108, li_110, li_111, li_112, li_114, li_115, li_116, li_117, li_119, li_121, li_122, li_130, li_155, li_199, li_207, li_255, li_260, li_400, li_401, li_403, li_404, li_420, li_840, li_2000, li_2691, li_2760, li_9999, li_12345, li_252645135, li_858993459, li_1103515245, li_1431655765, lm_1, lm_2, nM1_lt, nM2_lt, nI_nM1, nI_nM2, nM1_nI, nM2_nI, nI_le_nM, nI_le_nM2, nI_lt_nM, nI_lt_nM2, nM12, nM21, nI_add, pk_mul, nI_leI, nI_ltI, nI_eq, nI_clamp, vp_in_nI, mm_up2_eq, mm_up_up, up_ne, up_at, mm_up_sw, Nat.add_assoc, SH_323, SH_324, SH_325, SH_326, SH_327, SH_328, SH_329, SH_330, SH_331, SH_332, SH_333, SH_334, SH_335, SH_336, SH_337, SH_338, SH_339, SH_340, SH_341, SH_342, SH_343, SH_344, SH_345, SH_346, SH_347, SH_348, SH_349, SH_350, SH_351, SH_352, SH_353, SH_354, SH_355, SH_356, SH_357, SH_358, SH_359, SH_360, SH_361, SH_362, SH_363, SH_364, SH_365, SH_366, SH_367, SH_368, SH_369, cd_72_0, kb_72_0, cd_72_2, kb_72_2, cd_72_3, kb_72_3, nf_68, nf_69, isx, c, e_mfail (k := nI 1) (RP_fl.trans hX) RP_t ha, e14, RP_flt]
    exact hF2 _ (XF_fm hcf) rfl rfl
end Q3
