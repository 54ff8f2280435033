/-! ===== The reference: products, sums, expressions ===== -/
section P6
variable {w : Bool} {nx ns : Nat} {I X Y : Nat → Nat → Int32} {J : Nat → Nat → Int64} {t op cd wt n fv : Nat} {b : Nat → Nat} {r1 r2 r3 : Nat → Int32} {C e f : Nat}
theorem okp_nil {m : Nat} : okp m [] := ⟨fun _ => by simp, fun _ => rfl, fun _ o ho => by simp at ho, fun o ho => by simp at ho, by simp⟩
theorem flL_app {l l2 : List Nat} : flL (l ++ l2) = flL l ++ flL l2 := by unfold flL; rw [List.map_append]
theorem sim_P (ih0 : sim w nx ns X J b n C e 0 3 f) (ih2 : sim w nx ns X J b n C e 2 9 f) : sim w nx ns X J b n C e 1 3 (f + 1) := by
  intro d a cd pend wl r1 r2 r3 Q hd ha hf hpre hcb hwl0 hok hp0 hw hst hcf hS hF
  have hpe := hp0 rfl
  subst hpe
  have hlw : wl.length ≤ 3 * d + 1 := hwl0
  have hf0 : pM 0 a ≤ f := by unfold pM at hf ⊢; simp at hf ⊢; omega
  have hpok := @pE_ok (tkK b n) (tkV b n) f 0 d a (by omega) ha hf0
  rw [pE_1] at hS hF
  unfold pq at hS hF
  refine ih0 d a cd [] wl r1 r2 r3 Q hd ha hf0 hpre hcb (by show wl.length ≤ 3 * d + 2; omega) okp_nil (fun _ => rfl) ⟨fun h l hl => ⟨fun h2 => by omega, fun h2 => by omega⟩, hw.2⟩ hst hcf ?_ ?_
  · intro hr pe c1l s1 s2 s3 hcode hokp happ hstk
    generalize pE (tkK b n) (tkV b n) f 0 d a = r at hr hcode hS hF hpok ⊢
    rw [if_pos hr] at hS hF
    have hpe := hokp.2.1 rfl
    subst hpe
    have hlt := hpok.2.2.2.1 hr (Or.inl rfl)
    have hle := hpok.2.2.1
    have hlen := hpok.2.2.2.2.2.1 hr
    have hc : r.2.2 = c1l := by simpa [flL] using hcode
    subst hc
    simp only [List.nil_append] at hcb
    refine ih2 d r.2.1 (cd + r.2.2.length) [] wl s1 s2 s3 Q hd hle (pM_lt hf hlt hle) (tk_pre hpok (Nat.le_refl _) (fun j h1 h2 => by omega) hpre) (by simp only [List.nil_append]; omega) (by show wl.length ≤ 3 * d + 1; omega) okp_nil (fun h => by omega) ⟨fun h l hl => ⟨fun _ => (hw.1 h l hl).1 (Or.inl rfl), fun h2 => by omega⟩, hw.2⟩ hstk (CFc_app hcf happ (by omega)) ?_ hF
    intro hr2 pe2 c2 u1 u2 u3 hcode2 hokp2 happ2 hstk2
    have := hS hr2 pe2 (r.2.2 ++ c2) u1 u2 u3 (by
      show flL [] ++ (r.2.2 ++ _) = _
      have h9 : (pE (tkK b n) (tkV b n) f 2 d r.2.1).2.2 = c2 ++ flL pe2 := by simpa [flL] using hcode2
      rw [h9]; simp [flL]) ⟨fun _ => hokp2.1 (by omega), fun h => by omega, fun _ => hokp2.2.2.1 (Or.inr rfl), hokp2.2.2.2.1, hokp2.2.2.2.2⟩ (APP_tr happ happ2) hstk2
    rw [List.length_append, ← Nat.add_assoc] at this
    exact this
  · intro hr Y hY y1 y2
    rw [if_neg hr] at hS hF
    exact hF hr Y hY y1 y2
theorem sim_S (ih1 : sim w nx ns X J b n C e 1 3 f) (ih4 : sim w nx ns X J b n C e 4 9 f) : sim w nx ns X J b n C e 3 3 (f + 1) := by
  intro d a cd pend wl r1 r2 r3 Q hd ha hf hpre hcb hwl0 hok hp0 hw hst hcf hS hF
  have hpe := hp0 rfl
  subst hpe
  have hlw : wl.length ≤ 3 * d := hwl0
  have hf0 : pM 1 a ≤ f := by unfold pM at hf ⊢; simp at hf ⊢; omega
  have hpok := @pE_ok (tkK b n) (tkV b n) f 1 d a (by omega) ha hf0
  rw [pE_3] at hS hF
  unfold pq at hS hF
  refine ih1 d a cd [] wl r1 r2 r3 Q hd ha hf0 hpre hcb (by show wl.length ≤ 3 * d + 1; omega) okp_nil (fun _ => rfl) ⟨fun h l hl => ⟨fun h2 => by
    rcases (hw.1 h l hl).2 (Or.inl rfl) with h3 | h3
    · exact Or.inl h3
    · omega, fun h2 => by omega⟩, hw.2⟩ hst hcf ?_ ?_
  · intro hr pe c1l s1 s2 s3 hcode hokp happ hstk
    generalize pE (tkK b n) (tkV b n) f 1 d a = r at hr hcode hS hF hpok ⊢
    rw [if_pos hr] at hS hF
    have hlt := hpok.2.2.2.1 hr (Or.inr (Or.inl rfl))
    have hle := hpok.2.2.1
    have hlen := hpok.2.2.2.2.2.1 hr
    have hc : r.2.2 = c1l ++ flL pe := by simpa [flL] using hcode
    have hcl : r.2.2.length = c1l.length + pe.length := by rw [hc, List.length_append, flL_len]
    have hp1 := hokp.1 (by omega)
    simp only [List.nil_append] at hcb
    refine ih4 d r.2.1 (cd + c1l.length) pe wl s1 s2 s3 Q hd hle (pM_lt hf hlt hle) (tk_pre hpok (Nat.le_refl _) (fun j h1 h2 => by omega) hpre) (by rw [List.length_append]; omega) (by show wl.length ≤ 3 * d; omega) ⟨fun h => by omega, fun h => by omega, fun h => by omega, hokp.2.2.2.1, hokp.2.2.2.2⟩ (fun h => by omega) ⟨fun h l hl => ⟨fun h2 => by omega, fun _ => (hw.1 h l hl).2 (Or.inl rfl)⟩, hw.2⟩ hstk (CFc_app hcf happ (by omega)) ?_ hF
    intro hr2 pe2 c2 u1 u2 u3 hcode2 hokp2 happ2 hstk2
    have := hS hr2 pe2 (c1l ++ c2) u1 u2 u3 (by
      show flL [] ++ (r.2.2 ++ _) = _
      rw [hc, List.append_assoc c1l, hcode2]; simp [flL]) ⟨fun h => by omega, fun h => by omega, fun h => by omega, hokp2.2.2.2.1, hokp2.2.2.2.2⟩ (APP_tr happ happ2) hstk2
    rw [List.length_append, ← Nat.add_assoc] at this
    exact this
  · intro hr Y hY y1 y2
    rw [if_neg hr] at hS hF
    exact hF hr Y hY y1 y2
/-- a sign behind an operand: what waits comes out, it waits itself, and an operand is wanted -/
theorem sim_op {d a cd x y : Nat} {pend wl : List Nat} {Q : Option Value → mm_M → Prop} {sg : Nat} (he : 3 ≤ e) (hX : X 323 13 = nI 0) (hC : CUM X J b n) (hC4 : C ≤ 420) (hsg : (sg = 1 ∧ (tkK b n a = 27 ∨ tkK b n a = 28)) ∨ (sg = 0 ∧ (tkK b n a = 25 ∨ tkK b n a = 26))) (ha : a ≤ 400) (hpre : ∀ j, j < a → tkK b n j < 32) (hcb : cd + (pend ++ wl).length ≤ C + a) (hlen : (pend ++ wl).length ≤ 50) (hpend : ∀ o ∈ pend, isop o ∧ ¬ stops sg o) (hwl1 : ∀ h l, wl = h :: l → stops sg h) (hwl2 : ∀ o ∈ wl, o = 6 ∨ isop o) (hst : stk r3 ((pend ++ wl).map nI)) (hcf : CFc C X cd r1 r2) (hF : a = 400 → ∀ Y, FMx C X Y → Y 323 13 = nI 2 → Y 323 14 = nI (tkp b n a) → Q none (nx, ns, SH w, Y, J)) (hG : a < 400 → ∀ s1 s2, APP r1 r2 cd (flL pend) s1 s2 → WP e 89 (mm_Cd 89 3) [some (.ref 323), some (.int (nI 0)), some (.int (nI 1))] [] (nx, ns, SH w, RP X (a + 1) d (cd + pend.length) (wl.length + 1) s1 s2 (mm_up r3 wl.length (nI (rk (tkK b n a)))), J) Q) : WP e 89 (mm_Cd 89 9) [some (.ref 323), some (.int (nI 0)), some (.int (nI 1))] [] (nx, ns, SH w, RP X a d cd (pend ++ wl).length r1 r2 r3, J) Q := by
  obtain ⟨g5, g6, -, -⟩ := hC a ha (fun j hj => by have := hpre j hj; omega)
  have hK33 := @tkK_lt n b a
  have isx := fun (k kk : Nat) (hk : rk k = kk) (hk2 : k ≤ 33) (dd : Nat) (QQ : Option Value → mm_M → Prop) (hdd : 1 ≤ dd) => @e_ism w nx ns X J d cd (pend ++ wl).length n b r1 r2 r3 hX hC a k kk ha hpre hk hk2 dd QQ hdd
  have c31 : ¬ tkK b n a = 31 := by omega
  have e14 : ∀ {t op cd wt : Nat} {r1 r2 r3 : Nat → Int32}, RP X t op cd wt r1 r2 r3 327 a = nI (tkp b n a) := g6
  have k5 : ∀ {t op cd wt : Nat} {r1 r2 r3 : Nat → Int32}, RP X t op cd wt r1 r2 r3 326 a = nI (rk (tkK b n a)) := g5
  have hsg2 : sg = 0 ∨ sg = 1 := by omega
  have hll : (pend ++ wl).length = pend.length + wl.length := List.length_append
  have hw64 : wl.length < 64 := by omega
  have fin : WP e 89 (mm_Cd 89 26) [some (.ref 323), some (.int (nI 0)), some (.int (nI 1))] [.int (nI sg), .ref 323] (nx, ns, SH w, RP X a d cd (pend ++ wl).length r1 r2 r3, J) Q := by
    rw [cd_89_26, kb_89_26]
    simp (disch := first | decide | omega) only [wp_iload, wp_lload, wp_aload, wp_istore, wp_lstore, wp_astore, wp_iinc, wp_iconst, wp_lconst, wp_sconst, wp_pop_int, wp_dup_int, wp_pop_ref, wp_dup_ref, wp_dup2_ri, wp_ibin, wp_idiv, wp_irem, wp_lbin, wp_lshl, wp_lcmp, wp_i2l, wp_l2i, wp_i2b, wp_i2c, wp_max, wp_min, wp_23, wp_24, wp_25, wp_26, wp_27, wp_28, wp_29, wp_30, wp_31, wp_32, wp_33, wp_34, wp_35, wp_36, wp_37, wp_38, wp_39, wp_40, wp_41, wp_42, wp_goto, wp_jmp, wp_sw_in, wp_sw_in2, wp_if0, wp_icmp0, wp_if1, wp_icmp1, wp_if2, wp_icmp2, wp_if3, wp_icmp3, wp_if4, wp_icmp4, wp_if5, wp_icmp5, wp_iret, wp_zret, wp_lret, wp_vret, wp_call, ms_23, ms_24, ms_25, ms_26, ms_27, ms_28, ms_29, ms_30, ms_31, ms_32, ms_33, ms_34, ms_35, ms_39, ms_40, ms_41, ms_42, mm_go_some, mm_go_none, mm_go_ite, mm_go_ite2, List.getElem?_cons_zero, List.getElem?_cons_succ, List.length_cons, List.length_nil, mm_sto1, mm_kill, mm_ibin, List.set_cons_zero, List.set_cons_succ, Value.category, ↓reduceIte, Option.some.injEq, mm_in_iff, List.take_succ_cons, List.take_zero, List.drop_succ_cons, List.drop_zero, List.reverse_cons, List.reverse_nil, List.nil_append, List.cons_append, List.map_cons, List.map_nil, List.sum_cons, List.sum_nil, mm_rc, Option.toList_some, Option.toList_none, List.append_nil, Int32.reduceOfInt, Int64.reduceOfInt, Nat.reduceEqDiff, Nat.reduceLT, Nat.reduceMul, one_two, Nat.not_lt_zero, not_false_eq_true, not_true_eq_false, if_false, if_true, true_or, or_true, false_or, or_false, true_and, and_true, Nat.reduceLeDiff, Nat.reduceAdd, eq_self_iff_true, decide_true, li_0, li_1, li_2, li_3, li_4, li_5, li_6, li_7, li_8, li_9, li_10, li_11, li_12, li_13, li_14, li_15, li_16, li_17, li_18, li_19, li_20, li_21, li_22, li_23, li_24, li_25, li_26, li_27, li_28, li_29, li_30, li_31, li_32, li_33, li_36, li_38, li_40, li_41, li_42, li_43, li_45, li_47, li_48, li_57, li_58, li_59, li_60, li_61, li_63, li_64, li_68, li_69, li_97, li_99, li_100, li_101, li_102, li_103, li_104, li_105, li_108, li_110, li_111, li_112, li_114, li_115, li_116, li_117, li_119, li_121, li_122, li_130, li_155, li_199, li_207, li_255, li_260, li_400, li_401, li_403, li_404, li_420, li_840, li_2000, li_2691, li_2760, li_9999, li_12345, li_252645135, li_858993459, li_1103515245, li_1431655765, lm_1, lm_2, nM1_lt, nM2_lt, nI_nM1, nI_nM2, nM1_nI, nM2_nI, nI_le_nM, nI_le_nM2, nI_lt_nM, nI_lt_nM2, nM12, nM21, nI_add, pk_mul, nI_leI, nI_ltI, nI_eq, nI_clamp, vp_in_nI, mm_up2_eq, mm_up_up, up_ne, up_at, mm_up_sw, Nat.add_assoc, SH_323, SH_324, SH_325, SH_326, SH_327, SH_328, SH_329, SH_330, SH_331, SH_332, SH_333, SH_334, SH_335, SH_336, SH_337, SH_338, SH_339, SH_340, SH_341, SH_342, SH_343, SH_344, SH_345, SH_346, SH_347, SH_348, SH_349, SH_350, SH_351, SH_352, SH_353, SH_354, SH_355, SH_356, SH_357, SH_358, SH_359, SH_360, SH_361, SH_362, SH_363, SH_364, SH_365, SH_366, SH_367, SH_368, SH_369, nf_88]
    refine k_comesOut (sg := sg) (rest := wl) hsg2 hwl1 hwl2 pend cd r1 r2 e _ (by omega) hpend (by omega) (by omega) hst (fun s1 s2 happ => ?_)
    by_cases c4 : a = 400
    · have hF2 := hF c4
      subst c4
      simp (disch := first | decide | omega) only [wp_iload, wp_lload, wp_aload, wp_istore, wp_lstore, wp_astore, wp_iinc, wp_iconst, wp_lconst, wp_sconst, wp_pop_int, wp_dup_int, wp_pop_ref, wp_dup_ref, wp_dup2_ri, wp_ibin, wp_idiv, wp_irem, wp_lbin, wp_lshl, wp_lcmp, wp_i2l, wp_l2i, wp_i2b, wp_i2c, wp_max, wp_min, wp_23, wp_24, wp_25, wp_26, wp_27, wp_28, wp_29, wp_30, wp_31, wp_32, wp_33, wp_34, wp_35, wp_36, wp_37, wp_38, wp_39, wp_40, wp_41, wp_42, wp_goto, wp_jmp, wp_sw_in, wp_sw_in2, wp_if0, wp_icmp0, wp_if1, wp_icmp1, wp_if2, wp_icmp2, wp_if3, wp_icmp3, wp_if4, wp_icmp4, wp_if5, wp_icmp5, wp_iret, wp_zret, wp_lret, wp_vret, wp_call, ms_23, ms_24, ms_25, ms_26, ms_27, ms_28, ms_29, ms_30, ms_31, ms_32, ms_33, ms_34, ms_35, ms_39, ms_40, ms_41, ms_42, mm_go_some, mm_go_none, mm_go_ite, mm_go_ite2, List.getElem?_cons_zero, List.getElem?_cons_succ, List.length_cons, List.length_nil, mm_sto1, mm_kill, mm_ibin, List.set_cons_zero, List.set_cons_succ, Value.category, ↓reduceIte, Option.some.injEq, mm_in_iff, List.take_succ_cons, List.take_zero, List.drop_succ_cons, List.drop_zero, List.reverse_cons, List.reverse_nil, List.nil_append, List.cons_append, List.map_cons, List.map_nil, List.sum_cons, List.sum_nil, mm_rc, Option.toList_some, Option.toList_none, List.append_nil, Int32.reduceOfInt, Int64.reduceOfInt, Nat.reduceEqDiff, Nat.reduceLT, Nat.reduceMul, one_two, Nat.not_lt_zero, not_false_eq_true, not_true_eq_false, if_false, if_true, true_or, or_true, false_or, or_false, true_and, and_true, Nat.reduceLeDiff, Nat.reduceAdd, eq_self_iff_true, decide_true, li_0, li_1, li_2, li_3, li_4, li_5, li_6, li_7, li_8, li_9, li_10, li_11, li_12, li_13, li_14, li_15, li_16, li_17, li_18, li_19, li_20, li_21, li_22, li_23, li_24, li_25, li_26, li_27, li_28, li_29, li_30, li_31, li_32, li_33, li_36, li_38, li_40, li_41, li_42, li_43, li_45, li_47, li_48, li_57, li_58, li_59, li_60, li_61, li_63, li_64, li_68, li_69, li_97, li_99, li_100, li_101, li_102, li_103, li_104, li_105, li_108, li_110, li_111, li_112, li_114, li_115, li_116, li_117, li_119, li_121, li_122, li_130, li_155, li_199, li_207, li_255, li_260, li_400, li_401, li_403, li_404, li_420, li_840, li_2000, li_2691, li_2760, li_9999, li_12345, li_252645135, li_858993459, li_1103515245, li_1431655765, lm_1, lm_2, nM1_lt, nM2_lt, nI_nM1, nI_nM2, nM1_nI, nM2_nI, nI_le_nM, nI_le_nM2, nI_lt_nM, nI_lt_nM2, nM12, nM21, nI_add, pk_mul, nI_leI, nI_ltI, nI_eq, nI_clamp, vp_in_nI, mm_up2_eq, mm_up_up, up_ne, up_at, mm_up_sw, Nat.add_assoc, SH_323, SH_324, SH_325, SH_326, SH_327, SH_328, SH_329, SH_330, SH_331, SH_332, SH_333, SH_334, SH_335, SH_336, SH_337, SH_338, SH_339, SH_340, SH_341, SH_342, SH_343, SH_344, SH_345, SH_346, SH_347, SH_348, SH_349, SH_350, SH_351, SH_352, SH_353, SH_354, SH_355, SH_356, SH_357, SH_358, SH_359, SH_360, SH_361, SH_362, SH_363, SH_364, SH_365, SH_366, SH_367, SH_368, SH_369, cd_89_1, kb_89_1, cd_89_2, kb_89_2, cd_89_27, kb_89_27, RP_wt, RP_ws, RP_t, k5, RP_u355, RP_u48, nf_71, e_mgoes0 (RP_fl.trans hX) RP_t, e14, RP_flt, RP_fl, XF_fl]
      have hcf2 := CFc_app hcf happ (by rw [flL_len]; omega)
      rw [flL_len] at hcf2
      exact hF2 _ (XF_fm hcf2) rfl rfl
    · have h4 : a < 400 := by omega
      have hG2 := hG h4 s1 s2 happ
      simp (disch := first | decide | omega) only [wp_iload, wp_lload, wp_aload, wp_istore, wp_lstore, wp_astore, wp_iinc, wp_iconst, wp_lconst, wp_sconst, wp_pop_int, wp_dup_int, wp_pop_ref, wp_dup_ref, wp_dup2_ri, wp_ibin, wp_idiv, wp_irem, wp_lbin, wp_lshl, wp_lcmp, wp_i2l, wp_l2i, wp_i2b, wp_i2c, wp_max, wp_min, wp_23, wp_24, wp_25, wp_26, wp_27, wp_28, wp_29, wp_30, wp_31, wp_32, wp_33, wp_34, wp_35, wp_36, wp_37, wp_38, wp_39, wp_40, wp_41, wp_42, wp_goto, wp_jmp, wp_sw_in, wp_sw_in2, wp_if0, wp_icmp0, wp_if1, wp_icmp1, wp_if2, wp_icmp2, wp_if3, wp_icmp3, wp_if4, wp_icmp4, wp_if5, wp_icmp5, wp_iret, wp_zret, wp_lret, wp_vret, wp_call, ms_23, ms_24, ms_25, ms_26, ms_27, ms_28, ms_29, ms_30, ms_31, ms_32, ms_33, ms_34, ms_35, ms_39, ms_40, ms_41, ms_42, mm_go_some, mm_go_none, mm_go_ite, mm_go_ite2, List.getElem?_cons_zero, List.getElem?_cons_succ, List.length_cons, List.length_nil, mm_sto1, mm_kill, mm_ibin, List.set_cons_zero, List.set_cons_succ, Value.category, ↓reduceIte, Option.some.injEq, mm_in_iff, List.take_succ_cons, List.take_zero, List.drop_succ_cons, List.drop_zero, List.reverse_cons, List.reverse_nil, List.nil_append, List.cons_append, List.map_cons, List.map_nil, List.sum_cons, List.sum_nil, mm_rc, Option.toList_some, Option.toList_none, List.append_nil, Int32.reduceOfInt, Int64.reduceOfInt, Nat.reduceEqDiff, Nat.reduceLT, Nat.reduceMul, one_two, Nat.not_lt_zero, not_false_eq_true, not_true_eq_false, if_false, if_true, true_or, or_true, false_or, or_false, true_and, and_true, Nat.reduceLeDiff, Nat.reduceAdd, eq_self_iff_true, decide_true, li_0, li_1, li_2, li_3, li_4, li_5, li_6, li_7, li_8, li_9, li_10, li_11, li_12, li_13, li_14, li_15, li_16, li_17, li_18, li_19, li_20, li_21, li_22, li_23, li_24, li_25, li_26, li_27, li_28, li_29, li_30, li_31, li_32, li_33, li_36, li_38, li_40, li_41, li_42, li_43, li_45, li_47, li_48, li_57, li_58, li_59, li_60, li_61, li_63, li_64, li_68, li_69, li_97, li_99, li_100, li_101, li_102, li_103, li_104, li_105, li_108, li_110, li_111, li_112, li_114, li_115, li_116, li_117, li_119, li_121, li_122, li_130, li_155, li_199, li_207, li_255, li_260, li_400, li_401, li_403, li_404, li_420, li_840, li_2000, li_2691, li_2760, li_9999, li_12345, li_252645135, li_858993459, li_1103515245, li_1431655765, lm_1, lm_2, nM1_lt, nM2_lt, nI_nM1, nI_nM2, nM1_nI, nM2_nI, nI_le_nM, nI_le_nM2, nI_lt_nM, nI_lt_nM2, nM12, nM21, nI_add, pk_mul, nI_leI, nI_ltI, nI_eq, nI_clamp, vp_in_nI, mm_up2_eq, mm_up_up, up_ne, up_at, mm_up_sw, Nat.add_assoc, SH_323, SH_324, SH_325, SH_326, SH_327, SH_328, SH_329, SH_330, SH_331, SH_332, SH_333, SH_334, SH_335, SH_336, SH_337, SH_338, SH_339, SH_340, SH_341, SH_342, SH_343, SH_344, SH_345, SH_346, SH_347, SH_348, SH_349, SH_350, SH_351, SH_352, SH_353, SH_354, SH_355, SH_356, SH_357, SH_358, SH_359, SH_360, SH_361, SH_362, SH_363, SH_364, SH_365, SH_366, SH_367, SH_368, SH_369, cd_89_1, kb_89_1, cd_89_2, kb_89_2, RP_wt, RP_ws, RP_t, k5, RP_u355, RP_u48, nf_71, e_mgoes1 RP_t h4, RP_u11, RP_fl, hX]
      exact hG2
  rw [cd_89_9, kb_89_9]
  rcases hsg with ⟨rfl, hk⟩ | ⟨rfl, hk⟩
  · have c25 : ¬ tkK b n a = 25 := by omega
    have c26 : ¬ tkK b n a = 26 := by omega
    by_cases c7 : tkK b n a = 27
    · simp (disch := first | decide | omega) only [wp_iload, wp_lload, wp_aload, wp_istore, wp_lstore, wp_astore, wp_iinc, wp_iconst, wp_lconst, wp_sconst, wp_pop_int, wp_dup_int, wp_pop_ref, wp_dup_ref, wp_dup2_ri, wp_ibin, wp_idiv, wp_irem, wp_lbin, wp_lshl, wp_lcmp, wp_i2l, wp_l2i, wp_i2b, wp_i2c, wp_max, wp_min, wp_23, wp_24, wp_25, wp_26, wp_27, wp_28, wp_29, wp_30, wp_31, wp_32, wp_33, wp_34, wp_35, wp_36, wp_37, wp_38, wp_39, wp_40, wp_41, wp_42, wp_goto, wp_jmp, wp_sw_in, wp_sw_in2, wp_if0, wp_icmp0, wp_if1, wp_icmp1, wp_if2, wp_icmp2, wp_if3, wp_icmp3, wp_if4, wp_icmp4, wp_if5, wp_icmp5, wp_iret, wp_zret, wp_lret, wp_vret, wp_call, ms_23, ms_24, ms_25, ms_26, ms_27, ms_28, ms_29, ms_30, ms_31, ms_32, ms_33, ms_34, ms_35, ms_39, ms_40, ms_41, ms_42, mm_go_some, mm_go_none, mm_go_ite, mm_go_ite2, List.getElem?_cons_zero, List.getElem?_cons_succ, List.length_cons, List.length_nil, mm_sto1, mm_kill, mm_ibin, List.set_cons_zero, List.set_cons_succ, Value.category, ↓reduceIte, Option.some.injEq, mm_in_iff, List.take_succ_cons, List.take_zero, List.drop_succ_cons, List.drop_zero, List.reverse_cons, List.reverse_nil, List.nil_append, List.cons_append, List.map_cons, List.map_nil, List.sum_cons, List.sum_nil, mm_rc, Option.toList_some, Option.toList_none, List.append_nil, Int32.reduceOfInt, Int64.reduceOfInt, Nat.reduceEqDiff, Nat.reduceLT, Nat.reduceMul, one_two, Nat.not_lt_zero, not_false_eq_true, not_true_eq_false, if_false, if_true, true_or, or_true, false_or, or_false, true_and, and_true, Nat.reduceLeDiff, Nat.reduceAdd, eq_self_iff_true, decide_true, li_0, li_1, li_2, li_3, li_4, li_5, li_6, li_7, li_8, li_9, li_10, li_11, li_12, li_13, li_14, li_15, li_16, li_17, li_18, li_19, li_20, li_21, li_22, li_23, li_24, li_25, li_26, li_27, li_28, li_29, li_30, li_31, li_32, li_33, li_36, li_38, li_40, li_41, li_42, li_43, li_45, li_47, li_48, li_57, li_58, li_59, li_60, li_61, li_63, li_64, li_68, li_69, li_97, li_99, li_100, li_101, li_102, li_103, li_104, li_105, li_108, li_110, li_111, li_112, li_114, li_115, li_116, li_117, li_119, li_121, li_122, li_130, li_155, li_199, li_207, li_255, li_260, li_400, li_401, li_403, li_404, li_420, li_840, li_2000, li_2691, li_2760, li_9999, li_12345, li_252645135, li_858993459, li_1103515245, li_1431655765, lm_1, lm_2, nM1_lt, nM2_lt, nI_nM1, nI_nM2, nM1_nI, nM2_nI, nI_le_nM, nI_le_nM2, nI_lt_nM, nI_lt_nM2, nM12, nM21, nI_add, pk_mul, nI_leI, nI_ltI, nI_eq, nI_clamp, vp_in_nI, mm_up2_eq, mm_up_up, up_ne, up_at, mm_up_sw, Nat.add_assoc, SH_323, SH_324, SH_325, SH_326, SH_327, SH_328, SH_329, SH_330, SH_331, SH_332, SH_333, SH_334, SH_335, SH_336, SH_337, SH_338, SH_339, SH_340, SH_341, SH_342, SH_343, SH_344, SH_345, SH_346, SH_347, SH_348, SH_349, SH_350, SH_351, SH_352, SH_353, SH_354, SH_355, SH_356, SH_357, SH_358, SH_359, SH_360, SH_361, SH_362, SH_363, SH_364, SH_365, SH_366, SH_367, SH_368, SH_369, cd_89_12, kb_89_12, cd_89_13, kb_89_13, cd_89_14, kb_89_14, cd_89_16, kb_89_16, cd_89_18, kb_89_18, cd_89_22, kb_89_22, cd_89_24, kb_89_24, nf_68, isx 31 7 rfl (by omega), isx 25 8 rfl (by omega), isx 26 9 rfl (by omega), isx 27 10 rfl (by omega), c31, c25, c26, c7, bt_one0]
      exact fin
    · have c8 : tkK b n a = 28 := by omega
      simp (disch := first | decide | omega) only [wp_iload, wp_lload, wp_aload, wp_istore, wp_lstore, wp_astore, wp_iinc, wp_iconst, wp_lconst, wp_sconst, wp_pop_int, wp_dup_int, wp_pop_ref, wp_dup_ref, wp_dup2_ri, wp_ibin, wp_idiv, wp_irem, wp_lbin, wp_lshl, wp_lcmp, wp_i2l, wp_l2i, wp_i2b, wp_i2c, wp_max, wp_min, wp_23, wp_24, wp_25, wp_26, wp_27, wp_28, wp_29, wp_30, wp_31, wp_32, wp_33, wp_34, wp_35, wp_36, wp_37, wp_38, wp_39, wp_40, wp_41, wp_42, wp_goto, wp_jmp, wp_sw_in, wp_sw_in2, wp_if0, wp_icmp0, wp_if1, wp_icmp1, wp_if2, wp_icmp2, wp_if3, wp_icmp3, wp_if4, wp_icmp4, wp_if5, wp_icmp5, wp_iret, wp_zret, wp_lret, wp_vret, wp_call, ms_23, ms_24, ms_25, ms_26, ms_27, ms_28, ms_29, ms_30, ms_31, ms_32, ms_33, ms_34, ms_35, ms_39, ms_40, ms_41, ms_42, mm_go_some, mm_go_none, mm_go_ite, mm_go_ite2, List.getElem?_cons_zero, List.getElem?_cons_succ, List.length_cons, List.length_nil, mm_sto1, mm_kill, mm_ibin, List.set_cons_zero, List.set_cons_succ, Value.category, ↓reduceIte, Option.some.injEq, mm_in_iff, List.take_succ_cons, List.take_zero, List.drop_succ_cons, List.drop_zero, List.reverse_cons, List.reverse_nil, List.nil_append, List.cons_append, List.map_cons, List.map_nil, List.sum_cons, List.sum_nil, mm_rc, Option.toList_some, Option.toList_none, List.append_nil, Int32.reduceOfInt, Int64.reduceOfInt, Nat.reduceEqDiff, Nat.reduceLT, Nat.reduceMul, one_two, Nat.not_lt_zero, not_false_eq_true, not_true_eq_false, if_false, if_true, true_or, or_true, false_or, or_false, true_and, and_true, Nat.reduceLeDiff, Nat.reduceAdd, eq_self_iff_true, decide_true, li_0, li_1, li_2, li_3, li_4, li_5, li_6, li_7, li_8, li_9, li_10, li_11, li_12, li_13, li_14, li_15, li_16, li_17, li_18, li_19, li_20, li_21, li_22, li_23, li_24, li_25, li_26, li_27, li_28, li_29, li_30, li_31, li_32, li_33, li_36, li_38, li_40, li_41, li_42, li_43, li_45, li_47, li_48, li_57, li_58, li_59, li_60, li_61, li_63, li_64, li_68, li_69, li_97, li_99, li_100, li_101, li_102, li_103, li_104, li_105, li_108, li_110, li_111, li_112, li_114, li_115, li_116, li_117, li_119, li_121, li_122, li_130, li_155, li_199, li_207, li_255, li_260, li_400, li_401, li_403, li_404, li_420, li_840, li_2000, li_2691, li_2760, li_9999, li_12345, li_252645135, li_858993459, li_1103515245, li_1431655765, lm_1, lm_2, nM1_lt, nM2_lt, nI_nM1, nI_nM2, nM1_nI, nM2_nI, nI_le_nM, nI_le_nM2, nI_lt_nM, nI_lt_nM2, nM12, nM21, nI_add, pk_mul, nI_leI, nI_ltI, nI_eq, nI_clamp, vp_in_nI, mm_up2_eq, mm_up_up, up_ne, up_at, mm_up_sw, Nat.add_assoc, SH_323, SH_324, SH_325, SH_326, SH_327, SH_328, SH_329, SH_330, SH_331, SH_332, SH_333, SH_334, SH_335, SH_336, SH_337, SH_338, SH_339, SH_340, SH_341, SH_342, SH_343, SH_344, SH_345, SH_346, SH_347, SH_348, SH_349, SH_350, SH_351, SH_352, SH_353, SH_354, SH_355, SH_356, SH_357, SH_358, SH_359, SH_360, SH_361, SH_362, SH_363, SH_364, SH_365, SH_366, SH_367, SH_368, SH_369, cd_89_12, kb_89_12, cd_89_13, kb_89_13, cd_89_14, kb_89_14, cd_89_15, kb_89_15, cd_89_16, kb_89_16, cd_89_18, kb_89_18, cd_89_22, kb_89_22, cd_89_23, kb_89_23, cd_89_24, kb_89_24, nf_68, isx 31 7 rfl (by omega), isx 25 8 rfl (by omega), isx 26 9 rfl (by omega), isx 27 10 rfl (by omega), isx 28 15 rfl (by omega), c8, bt_one0]
      exact fin
  · have c27 : ¬ tkK b n a = 27 := by omega
    have c28 : ¬ tkK b n a = 28 := by omega
    by_cases c5 : tkK b n a = 25
    · simp (disch := first | decide | omega) only [wp_iload, wp_lload, wp_aload, wp_istore, wp_lstore, wp_astore, wp_iinc, wp_iconst, wp_lconst, wp_sconst, wp_pop_int, wp_dup_int, wp_pop_ref, wp_dup_ref, wp_dup2_ri, wp_ibin, wp_idiv, wp_irem, wp_lbin, wp_lshl, wp_lcmp, wp_i2l, wp_l2i, wp_i2b, wp_i2c, wp_max, wp_min, wp_23, wp_24, wp_25, wp_26, wp_27, wp_28, wp_29, wp_30, wp_31, wp_32, wp_33, wp_34, wp_35, wp_36, wp_37, wp_38, wp_39, wp_40, wp_41, wp_42, wp_goto, wp_jmp, wp_sw_in, wp_sw_in2, wp_if0, wp_icmp0, wp_if1, wp_icmp1, wp_if2, wp_icmp2, wp_if3, wp_icmp3, wp_if4, wp_icmp4, wp_if5, wp_icmp5, wp_iret, wp_zret, wp_lret, wp_vret, wp_call, ms_23, ms_24, ms_25, ms_26, ms_27, ms_28, ms_29, ms_30, ms_31, ms_32, ms_33, ms_34, ms_35, ms_39, ms_40, ms_41, ms_42, mm_go_some, mm_go_none, mm_go_ite, mm_go_ite2, List.getElem?_cons_zero, List.getElem?_cons_succ, List.length_cons, List.length_nil, mm_sto1, mm_kill, mm_ibin, List.set_cons_zero, List.set_cons_succ, Value.category, ↓reduceIte, Option.some.injEq, mm_in_iff, List.take_succ_cons, List.take_zero, List.drop_succ_cons, List.drop_zero, List.reverse_cons, List.reverse_nil, List.nil_append, List.cons_append, List.map_cons, List.map_nil, List.sum_cons, List.sum_nil, mm_rc, Option.toList_some, Option.toList_none, List.append_nil, Int32.reduceOfInt, Int64.reduceOfInt, Nat.reduceEqDiff, Nat.reduceLT, Nat.reduceMul, one_two, Nat.not_lt_zero, not_false_eq_true, not_true_eq_false, if_false, if_true, true_or, or_true, false_or, or_false, true_and, and_true, Nat.reduceLeDiff, Nat.reduceAdd, eq_self_iff_true, decide_true, li_0, li_1, li_2, li_3, li_4, li_5, li_6, li_7, li_8, li_9, li_10, li_11, li_12, li_13, li_14, li_15, li_16, li_17, li_18, li_19, li_20, li_21, li_22, li_23, li_24, li_25, li_26, li_27, li_28, li_29, li_30, li_31, li_32, li_33, li_36, li_38, li_40, li_41, li_42, li_43, li_45, li_47, li_48, li_57, li_58, li_59, li_60, li_61, li_63, li_64, li_68, li_69, li_97, li_99, li_100, li_101, li_102, li_103, li_104, li_105, li_108, li_110, li_111, li_112, li_114, li_115, li_116, li_117, li_119, li_121, li_122, li_130, li_155, li_199, li_207, li_255, li_260, li_400, li_401, li_403, li_404, li_420, li_840, li_2000, li_2691, li_2760, li_9999, li_12345, li_252645135, li_858993459, li_1103515245, li_1431655765, lm_1, lm_2, nM1_lt, nM2_lt, nI_nM1, nI_nM2, nM1_nI, nM2_nI, nI_le_nM, nI_le_nM2, nI_lt_nM, nI_lt_nM2, nM12, nM21, nI_add, pk_mul, nI_leI, nI_ltI, nI_eq, nI_clamp, vp_in_nI, mm_up2_eq, mm_up_up, up_ne, up_at, mm_up_sw, Nat.add_assoc, SH_323, SH_324, SH_325, SH_326, SH_327, SH_328, SH_329, SH_330, SH_331, SH_332, SH_333, SH_334, SH_335, SH_336, SH_337, SH_338, SH_339, SH_340, SH_341, SH_342, SH_343, SH_344, SH_345, SH_346, SH_347, SH_348, SH_349, SH_350, SH_351, SH_352, SH_353, SH_354, SH_355, SH_356, SH_357, SH_358, SH_359, SH_360, SH_361, SH_362, SH_363, SH_364, SH_365, SH_366, SH_367, SH_368, SH_369, cd_89_12, kb_89_12, cd_89_16, kb_89_16, cd_89_18, kb_89_18, cd_89_22, kb_89_22, cd_89_23, kb_89_23, cd_89_25, kb_89_25, nf_68, isx 31 7 rfl (by omega), isx 25 8 rfl (by omega), isx 27 10 rfl (by omega), isx 28 15 rfl (by omega), c5, bt_one0]
      exact fin
    · have c6 : tkK b n a = 26 := by omega
      simp (disch := first | decide | omega) only [wp_iload, wp_lload, wp_aload, wp_istore, wp_lstore, wp_astore, wp_iinc, wp_iconst, wp_lconst, wp_sconst, wp_pop_int, wp_dup_int, wp_pop_ref, wp_dup_ref, wp_dup2_ri, wp_ibin, wp_idiv, wp_irem, wp_lbin, wp_lshl, wp_lcmp, wp_i2l, wp_l2i, wp_i2b, wp_i2c, wp_max, wp_min, wp_23, wp_24, wp_25, wp_26, wp_27, wp_28, wp_29, wp_30, wp_31, wp_32, wp_33, wp_34, wp_35, wp_36, wp_37, wp_38, wp_39, wp_40, wp_41, wp_42, wp_goto, wp_jmp, wp_sw_in, wp_sw_in2, wp_if0, wp_icmp0, wp_if1, wp_icmp1, wp_if2, wp_icmp2, wp_if3, wp_icmp3, wp_if4, wp_icmp4, wp_if5, wp_icmp5, wp_iret, wp_zret, wp_lret, wp_vret, wp_call, ms_23, ms_24, ms_25, ms_26, ms_27, ms_28, ms_29, ms_30, ms_31, ms_32, ms_33, ms_34, ms_35, ms_39, ms_40, ms_41, ms_42, mm_go_some, mm_go_none, mm_go_ite, mm_go_ite2, List.getElem?_cons_zero, List.getElem?_cons_succ, List.length_cons, List.length_nil, mm_sto1, mm_kill, mm_ibin, List.set_cons_zero, List.set_cons_succ, Value.category, ↓reduceIte, Option.some.injEq, mm_in_iff, List.take_succ_cons, List.take_zero, List.drop_succ_cons, List.drop_zero, List.reverse_cons, List.reverse_nil, List.nil_append, List.cons_append, List.map_cons, List.map_nil, List.sum_cons, List.sum_nil, mm_rc, Option.toList_some, Option.toList_none, List.append_nil, Int32.reduceOfInt, Int64.reduceOfInt, Nat.reduceEqDiff, Nat.reduceLT, Nat.reduceMul, one_two, Nat.not_lt_zero, not_false_eq_true, not_true_eq_false, if_false, if_true, true_or, or_true, false_or, or_false, true_and, and_true, Nat.reduceLeDiff, Nat.reduceAdd, eq_self_iff_true, decide_true, li_0, li_1, li_2, li_3, li_4, li_5, li_6, li_7, li_8, li_9, li_10, li_11, li_12, li_13, li_14, li_15, li_16, li_17, li_18, li_19, li_20, li_21, li_22, li_23, li_24, li_25, li_26, li_27, li_28, li_29, li_30, li_31, li_32, li_33, li_36, li_38, li_40, li_41, li_42, li_43, li_45, li_47, li_48, li_57, li_58, li_59, li_60, li_61, li_63, li_64, li_68, li_69, li_97, li_99, li_100, li_101, li_102, li_103, li_104, li_105, li_108, li_110, li_111, li_112, li_114, li_115, li_116, li_117, li_119, li_121, li_122, li_130, li_155, li_199, li_207, li_255, li_260, li_400, li_401, li_403, li_404, li_420, li_840, li_2000, li_2691, li_2760, li_9999, li_12345, li_252645135, li_858993459, li_1103515245, li_1431655765, lm_1, lm_2, nM1_lt, nM2_lt, nI_nM1, nI_nM2, nM1_nI, nM2_nI, nI_le_nM, nI_le_nM2, nI_lt_nM, nI_lt_nM2, nM12, nM21, nI_add, pk_mul, nI_leI, nI_ltI, nI_eq, nI_clamp, vp_in_nI, mm_up2_eq, mm_up_up, up_ne, up_at, mm_up_sw, Nat.add_assoc, SH_323, SH_324, SH_325, SH_326, SH_327, SH_328, SH_329, SH_330, SH_331, SH_332, SH_333, SH_334, SH_335, SH_336, SH_337, SH_338, SH_339, SH_340, SH_341, SH_342, SH_343, SH_344, SH_345, SH_346, SH_347, SH_348, SH_349, SH_350, SH_351, SH_352, SH_353, SH_354, SH_355, SH_356, SH_357, SH_358, SH_359, SH_360, SH_361, SH_362, SH_363, SH_364, SH_365, SH_366, SH_367, SH_368, SH_369, cd_89_12, kb_89_12, cd_89_13, kb_89_13, cd_89_16, kb_89_16, cd_89_18, kb_89_18, cd_89_22, kb_89_22, cd_89_23, kb_89_23, cd_89_25, kb_89_25, nf_68, isx 31 7 rfl (by omega), isx 25 8 rfl (by omega), isx 26 9 rfl (by omega), isx 27 10 rfl (by omega), isx 28 15 rfl (by omega), c6, bt_one0]
      exact fin
theorem stk_suf {g : Nat → Int32} : ∀ l1 l2 : List Nat, stk g ((l1 ++ l2).map nI) → stk g (l2.map nI) := by
  intro l1
  induction l1 with
  | nil => intro l2 h; exact h
  | cons x l1 ih => intro l2 h; exact ih l2 h.2
theorem stk_new {g : Nat → Int32} {l : List Nat} {o : Nat} (h : stk g (l.map nI)) : stk (mm_up g l.length (nI o)) (([] ++ (o :: l)).map nI) := by
  simp only [List.nil_append, List.map_cons]
  have := stk_push (x := nI o) h
  rw [List.length_map] at this
  exact this
theorem sim_Lp (he : 3 ≤ e) (hX : X 323 13 = nI 0) (hC : CUM X J b n) (hC4 : C ≤ 420) (ih0 : sim w nx ns X J b n C e 0 3 f) (ih2 : sim w nx ns X J b n C e 2 9 f) : sim w nx ns X J b n C e 2 9 (f + 1) := by
  intro d a cd pend wl r1 r2 r3 Q hd ha hf hpre hcb hwl0 hok hp0 hw hst hcf hS hF
  have hlw : wl.length ≤ 3 * d + 1 := hwl0
  have hp1 := hok.1 (by omega)
  rw [pE_2] at hS hF
  unfold pL at hS hF
  by_cases c : tkK b n a = 27 ∨ tkK b n a = 28
  · rw [if_pos c] at hS hF
    have hll : (pend ++ wl).length = pend.length + wl.length := List.length_append
    refine sim_op (x := 0) (y := 0) (sg := 1) he hX hC hC4 (Or.inl ⟨rfl, c⟩) ha hpre hcb (by omega) (fun o ho => ⟨hok.2.2.2.1 o ho, fun hs => by
      have h9 := hok.2.2.1 (Or.inr rfl) o ho
      rcases hs with hs | hs
      · omega
      · omega⟩) (fun h l hl => (hw.1 h l hl).1 (Or.inr rfl)) hw.2 hst hcf ?_ ?_
    · intro h4 Y hY y1 y2
      rw [if_pos (by omega)] at hF
      exact hF (by simp) Y hY y1 y2
    · intro h4 s1 s2 happ
      have hcf1 := CFc_app hcf happ (by rw [flL_len]; omega)
      rw [flL_len] at hcf1
      rw [if_neg (by omega)] at hS hF
      unfold pq at hS hF
      have ho10 : rk (tkK b n a) = 10 ∨ rk (tkK b n a) = 15 := by
        rcases c with c | c
        · rw [c]; exact Or.inl rfl
        · rw [c]; exact Or.inr rfl
      have hopc : opc (rk (tkK b n a)) = if tkK b n a = 27 then 4 else 5 := by
        rcases c with c | c
        · rw [c]; rfl
        · rw [c]; rfl
      have hself : ∀ j, a ≤ j → j < a + 1 → tkK b n j < 32 := fun j h1 h2 => by
        have ej : j = a := by omega
        rw [ej]; omega
      have hp2 : ∀ j, j < a + 1 → tkK b n j < 32 := fun j hj => by
        by_cases hj2 : j < a
        · exact hpre j hj2
        · exact hself j (by omega) hj
      have hf0 : pM 0 (a + 1) ≤ f := pM_lt hf (by omega) (by omega)
      have hpok := @pE_ok (tkK b n) (tkV b n) f 0 d (a + 1) (by omega) (by omega) hf0
      generalize rk (tkK b n a) = o at ho10 hopc ⊢
      have hio : isop o := by unfold isop; omega
      refine ih0 d (a + 1) (cd + pend.length) [] (o :: wl) s1 s2 (mm_up r3 wl.length (nI o)) Q hd (by omega) hf0 hp2 (by simp only [List.nil_append, List.length_cons]; omega) (by show (o :: wl).length ≤ 3 * d + 2; simp only [List.length_cons]; omega) okp_nil (fun _ => rfl) ⟨fun h l hl => ⟨fun h2 => by omega, fun h2 => by omega⟩, fun z hz => by simp only [List.mem_cons] at hz; rcases hz with hz | hz; rw [hz]; exact Or.inr hio; exact hw.2 z hz⟩ (stk_new (stk_suf pend wl hst)) hcf1 ?_ ?_
      · intro hr pe c1l t1 t2 t3 hcode hokp happ1 hstk
        generalize pE (tkK b n) (tkV b n) f 0 d (a + 1) = r at hr hcode hS hF hpok ⊢
        rw [if_pos hr] at hS hF
        have hpe := hokp.2.1 rfl
        subst hpe
        have hlt := hpok.2.2.2.1 hr (Or.inl rfl)
        have hle := hpok.2.2.1
        have hlen := hpok.2.2.2.2.2.1 hr
        have hc : r.2.2 = c1l := by simpa [flL] using hcode
        subst hc
        refine ih2 d r.2.1 (cd + pend.length + r.2.2.length) [o] wl t1 t2 t3 Q hd hle (pM_lt hf (by omega) hle) (tk_pre hpok (Nat.le_succ a) hself hpre) (by simp only [List.cons_append, List.nil_append, List.length_cons]; omega) (by show wl.length ≤ 3 * d + 1; omega) ⟨fun _ => by simp, fun h => by omega, fun _ z hz => by simp only [List.mem_singleton] at hz; rw [hz]; exact ho10, fun z hz => by simp only [List.mem_singleton] at hz; rw [hz]; exact hio, by simp⟩ (fun h => by omega) hw hstk (CFc_app hcf1 happ1 (by omega)) ?_ hF
        intro hr2 pe2 c2 u1 u2 u3 hcode2 hokp2 happ2 hstk2
        have e1 : (pE (tkK b n) (tkV b n) f 2 d r.2.1).2.2 = (pE (tkK b n) (tkV b n) f 2 d r.2.1).2.2 := rfl
        have hA2 : APP r1 r2 cd (flL pend ++ (r.2.2 ++ c2)) u1 u2 := APP_tr happ (by rw [flL_len]; exact APP_tr happ1 happ2)
        have := hS hr2 pe2 (flL pend ++ (r.2.2 ++ c2)) u1 u2 u3 (by
          show flL pend ++ (r.2.2 ++ (_ :: _)) = _
          rw [List.append_assoc, List.append_assoc, ← hcode2, ← hopc]
          rfl) hokp2 hA2 hstk2
        rw [List.length_append, List.length_append, flL_len, ← Nat.add_assoc, ← Nat.add_assoc] at this
        exact this
      · intro hr Y hY y1 y2
        rw [if_neg hr] at hS hF
        exact hF hr Y hY y1 y2
  · rw [if_neg c] at hS hF
    have := hS rfl pend [] r1 r2 r3 (by simp) hok APP_0 hst
    exact this
theorem sim_Ls (he : 3 ≤ e) (hX : X 323 13 = nI 0) (hC : CUM X J b n) (hC4 : C ≤ 420) (ih1 : sim w nx ns X J b n C e 1 3 f) (ih4 : sim w nx ns X J b n C e 4 9 f) : sim w nx ns X J b n C e 4 9 (f + 1) := by
  intro d a cd pend wl r1 r2 r3 Q hd ha hf hpre hcb hwl0 hok hp0 hw hst hcf hS hF
  have hlw : wl.length ≤ 3 * d := hwl0
  have hp2' := hok.2.2.2.2
  rw [pE_4] at hS hF
  unfold pL at hS hF
  by_cases c : tkK b n a = 25 ∨ tkK b n a = 26
  · rw [if_pos c] at hS hF
    have hll : (pend ++ wl).length = pend.length + wl.length := List.length_append
    refine sim_op (x := 0) (y := 0) (sg := 0) he hX hC hC4 (Or.inr ⟨rfl, c⟩) ha hpre hcb (by omega) (fun o ho => ⟨hok.2.2.2.1 o ho, fun hs => by
      have h9 := hok.2.2.2.1 o ho
      unfold isop at h9
      rcases hs with hs | hs
      · omega
      · omega⟩) (fun h l hl => (hw.1 h l hl).2 (Or.inr rfl)) hw.2 hst hcf ?_ ?_
    · intro h4 Y hY y1 y2
      rw [if_pos (by omega)] at hF
      exact hF (by simp) Y hY y1 y2
    · intro h4 s1 s2 happ
      have hcf1 := CFc_app hcf happ (by rw [flL_len]; omega)
      rw [flL_len] at hcf1
      rw [if_neg (by omega)] at hS hF
      unfold pq at hS hF
      have ho10 : rk (tkK b n a) = 8 ∨ rk (tkK b n a) = 9 := by
        rcases c with c | c
        · rw [c]; exact Or.inl rfl
        · rw [c]; exact Or.inr rfl
      have hopc : opc (rk (tkK b n a)) = if tkK b n a = 25 then 2 else 3 := by
        rcases c with c | c
        · rw [c]; rfl
        · rw [c]; rfl
      have hself : ∀ j, a ≤ j → j < a + 1 → tkK b n j < 32 := fun j h1 h2 => by
        have ej : j = a := by omega
        rw [ej]; omega
      have hp2 : ∀ j, j < a + 1 → tkK b n j < 32 := fun j hj => by
        by_cases hj2 : j < a
        · exact hpre j hj2
        · exact hself j (by omega) hj
      have hf0 : pM 1 (a + 1) ≤ f := pM_lt hf (by omega) (by omega)
      have hpok := @pE_ok (tkK b n) (tkV b n) f 1 d (a + 1) (by omega) (by omega) hf0
      generalize rk (tkK b n a) = o at ho10 hopc ⊢
      have hio : isop o := by unfold isop; omega
      have hso : stops 1 o := Or.inr ⟨rfl, ho10⟩
      refine ih1 d (a + 1) (cd + pend.length) [] (o :: wl) s1 s2 (mm_up r3 wl.length (nI o)) Q hd (by omega) hf0 hp2 (by simp only [List.nil_append, List.length_cons]; omega) (by show (o :: wl).length ≤ 3 * d + 1; simp only [List.length_cons]; omega) okp_nil (fun _ => rfl) ⟨fun h l hl => ⟨fun _ => by simp only [List.cons.injEq] at hl; rw [← hl.1]; exact hso, fun h2 => by omega⟩, fun z hz => by simp only [List.mem_cons] at hz; rcases hz with hz | hz; rw [hz]; exact Or.inr hio; exact hw.2 z hz⟩ (stk_new (stk_suf pend wl hst)) hcf1 ?_ ?_
      · intro hr pe c1l t1 t2 t3 hcode hokp happ1 hstk
        generalize pE (tkK b n) (tkV b n) f 1 d (a + 1) = r at hr hcode hS hF hpok ⊢
        rw [if_pos hr] at hS hF
        have hp1 := hokp.1 (by omega)
        have hlt := hpok.2.2.2.1 hr (Or.inr (Or.inl rfl))
        have hle := hpok.2.2.1
        have hlen := hpok.2.2.2.2.2.1 hr
        have hc : r.2.2 = c1l ++ flL pe := by simpa [flL] using hcode
        have hcl : r.2.2.length = c1l.length + pe.length := by rw [hc, List.length_append, flL_len]
        have eap : pe ++ o :: wl = (pe ++ [o]) ++ wl := by simp
        rw [eap] at hstk ⊢
        refine ih4 d r.2.1 (cd + pend.length + c1l.length) (pe ++ [o]) wl t1 t2 t3 Q hd hle (pM_lt hf (by omega) hle) (tk_pre hpok (Nat.le_succ a) hself hpre) (by simp only [List.length_append, List.length_cons, List.length_nil]; omega) (by show wl.length ≤ 3 * d; omega) ⟨fun h => by omega, fun h => by omega, fun h => by omega, fun z hz => by
          simp only [List.mem_append, List.mem_singleton] at hz
          rcases hz with hz | hz
          · exact hokp.2.2.2.1 z hz
          · rw [hz]; exact hio, by simp only [List.length_append, List.length_cons, List.length_nil]; omega⟩ (fun h => by omega) hw hstk (CFc_app hcf1 happ1 (by omega)) ?_ hF
        intro hr2 pe2 c2 u1 u2 u3 hcode2 hokp2 happ2 hstk2
        have hA2 : APP r1 r2 cd (flL pend ++ (c1l ++ c2)) u1 u2 := APP_tr happ (by rw [flL_len]; exact APP_tr happ1 happ2)
        have := hS hr2 pe2 (flL pend ++ (c1l ++ c2)) u1 u2 u3 (by
          show flL pend ++ (r.2.2 ++ (_ :: _)) = _
          rw [hc, List.append_assoc c1l, List.append_assoc (flL pend), List.append_assoc c1l, ← hcode2, flL_app, List.append_assoc (flL pe), ← hopc]
          rfl) hokp2 hA2 hstk2
        rw [List.length_append, List.length_append, flL_len, ← Nat.add_assoc, ← Nat.add_assoc] at this
        exact this
      · intro hr Y hY y1 y2
        rw [if_neg hr] at hS hF
        exact hF hr Y hY y1 y2
  · rw [if_neg c] at hS hF
    have := hS rfl pend [] r1 r2 r3 (by simp) hok APP_0 hst
    exact this
theorem sim_all (he : 3 ≤ e) (hX : X 323 13 = nI 0) (hC : CUM X J b n) (hC4 : C ≤ 420) : ∀ f, sim w nx ns X J b n C e 0 3 f ∧ sim w nx ns X J b n C e 1 3 f ∧ sim w nx ns X J b n C e 2 9 f ∧ sim w nx ns X J b n C e 3 3 f ∧ sim w nx ns X J b n C e 4 9 f := by
  intro f
  induction f with
  | zero =>
    have h0 : ∀ m a, a ≤ 400 → ¬ pM m a ≤ 0 := fun m a h => by unfold pM; omega
    exact ⟨fun d a cd pend wl r1 r2 r3 Q h1 h2 h3 => absurd h3 (h0 _ _ h2), fun d a cd pend wl r1 r2 r3 Q h1 h2 h3 => absurd h3 (h0 _ _ h2), fun d a cd pend wl r1 r2 r3 Q h1 h2 h3 => absurd h3 (h0 _ _ h2), fun d a cd pend wl r1 r2 r3 Q h1 h2 h3 => absurd h3 (h0 _ _ h2), fun d a cd pend wl r1 r2 r3 Q h1 h2 h3 => absurd h3 (h0 _ _ h2)⟩
  | succ f ih =>
    obtain ⟨i0, i1, i2, i3, i4⟩ := ih
    exact ⟨sim_U he hX hC hC4 i3, sim_P i0 i2, sim_Lp he hX hC hC4 i0 i2, sim_S i1 i4, sim_Ls he hX hC hC4 i1 i4⟩
/-- an expression, read by the reference -/
theorem k_mexpr {a : Nat} (hX : X 323 13 = nI 0) (hC : CUM X J b n) (hC4 : C ≤ 420) (ha : a ≤ 400) (hpre : ∀ j, j < a → tkK b n j < 32) (hcb : cd ≤ C + a) (hcf : CFc C X cd r1 r2) {dd : Nat} (hd : 4 ≤ dd) {Kc : Option Value → mm_M → Prop} (hS : (pE (tkK b n) (tkV b n) 2010 3 0 a).1 = 0 → ∀ s1 s2 s3, APP r1 r2 cd (pE (tkK b n) (tkV b n) 2010 3 0 a).2.2 s1 s2 → Kc none (nx, ns, SH w, RP X (pE (tkK b n) (tkV b n) 2010 3 0 a).2.1 0 (cd + (pE (tkK b n) (tkV b n) 2010 3 0 a).2.2.length) 0 s1 s2 s3, J)) (hF : rF w nx ns X J b n C (pE (tkK b n) (tkV b n) 2010 3 0 a) Kc) : EV dd 89 [.ref 323] (nx, ns, SH w, RP X a 0 cd wt r1 r2 r3, J) Kc := by
  refine EV_up hd ?_
  have hf : pM 3 a ≤ 2010 := by unfold pM; simp; omega
  have hpok := @pE_ok (tkK b n) (tkV b n) 2010 3 0 a (by omega) ha hf
  refine EV_of (show 1 ≤ 3 from by decide) ?_; show WP 3 89 (mm_Cd 89 0) [some (.ref 323), none, none] [] _ _
  simp (disch := first | decide | omega) only [wp_iload, wp_lload, wp_aload, wp_istore, wp_lstore, wp_astore, wp_iinc, wp_iconst, wp_lconst, wp_sconst, wp_pop_int, wp_dup_int, wp_pop_ref, wp_dup_ref, wp_dup2_ri, wp_ibin, wp_idiv, wp_irem, wp_lbin, wp_lshl, wp_lcmp, wp_i2l, wp_l2i, wp_i2b, wp_i2c, wp_max, wp_min, wp_23, wp_24, wp_25, wp_26, wp_27, wp_28, wp_29, wp_30, wp_31, wp_32, wp_33, wp_34, wp_35, wp_36, wp_37, wp_38, wp_39, wp_40, wp_41, wp_42, wp_goto, wp_jmp, wp_sw_in, wp_sw_in2, wp_if0, wp_icmp0, wp_if1, wp_icmp1, wp_if2, wp_icmp2, wp_if3, wp_icmp3, wp_if4, wp_icmp4, wp_if5, wp_icmp5, wp_iret, wp_zret, wp_lret, wp_vret, wp_call, ms_23, ms_24, ms_25, ms_26, ms_27, ms_28, ms_29, ms_30, ms_31, ms_32, ms_33, ms_34, ms_35, ms_39, ms_40, ms_41, ms_42, mm_go_some, mm_go_none, mm_go_ite, mm_go_ite2, List.getElem?_cons_zero, List.getElem?_cons_succ, List.length_cons, List.length_nil, mm_sto1, mm_kill, mm_ibin, List.set_cons_zero, List.set_cons_succ, Value.category, ↓reduceIte, Option.some.injEq, mm_in_iff, List.take_succ_cons, List.take_zero, List.drop_succ_cons, List.drop_zero, List.reverse_cons, List.reverse_nil, List.nil_append, List.cons_append, List.map_cons, List.map_nil, List.sum_cons, List.sum_nil, mm_rc, Option.toList_some, Option.toList_none, List.append_nil, Int32.reduceOfInt, Int64.reduceOfInt, Nat.reduceEqDiff, Nat.reduceLT, Nat.reduceMul, one_two, Nat.not_lt_zero, not_false_eq_true, not_true_eq_false, if_false, if_true, true_or, or_true, false_or, or_false, true_and, and_true, Nat.reduceLeDiff, Nat.reduceAdd, eq_self_iff_true, decide_true, li_0, li_1, li_2, li_3, li_4, li_5, li_6, li_7, li_8, li_9, li_10, li_11, li_12, li_13, li_14, li_15, li_16, li_17, li_18, li_19, li_20, li_21, li_22, li_23, li_24, li_25, li_26, li_27, li_28, li_29, li_30, li_31, li_32, li_33, li_36, li_38, li_40, li_41, li_42, li_43, li_45, li_47, li_48, li_57, li_58, li_59, li_60, li_61, li_63, li_64, li_68, li_69, li_97, li_99, li_100, li_101, li_102, li_103, li_104, li_105, li_108, li_110, li_111, li_112, li_114, li_115, li_116, li_117, li_119, li_121, li_122, li_130, li_155, li_199, li_207, li_255, li_260, li_400, li_401, li_403, li_404, li_420, li_840, li_2000, li_2691, li_2760, li_9999, li_12345, li_252645135, li_858993459, li_1103515245, li_1431655765, lm_1, lm_2, nM1_lt, nM2_lt, nI_nM1, nI_nM2, nM1_nI, nM2_nI, nI_le_nM, nI_le_nM2, nI_lt_nM, nI_lt_nM2, nM12, nM21, nI_add, pk_mul, nI_leI, nI_ltI, nI_eq, nI_clamp, vp_in_nI, mm_up2_eq, mm_up_up, up_ne, up_at, mm_up_sw, Nat.add_assoc, SH_323, SH_324, SH_325, SH_326, SH_327, SH_328, SH_329, SH_330, SH_331, SH_332, SH_333, SH_334, SH_335, SH_336, SH_337, SH_338, SH_339, SH_340, SH_341, SH_342, SH_343, SH_344, SH_345, SH_346, SH_347, SH_348, SH_349, SH_350, SH_351, SH_352, SH_353, SH_354, SH_355, SH_356, SH_357, SH_358, SH_359, SH_360, SH_361, SH_362, SH_363, SH_364, SH_365, SH_366, SH_367, SH_368, SH_369, cd_89_0, kb_89_0, cd_89_1, kb_89_1, cd_89_2, kb_89_2, RP_u48, RP_op, RP_fl, hX]
  refine (sim_all (Nat.le_refl 3) hX hC hC4 2010).2.2.2.1 0 a cd [] [] r1 r2 r3 Kc (by omega) ha hf hpre (by simp; omega) (by simp) okp_nil (fun _ => rfl) ⟨fun h l hl => by simp at hl, fun o ho => by simp at ho⟩ (by simp; trivial) hcf ?_ hF
  intro hr pe c1l s1 s2 s3 hcode hokp happ hstk
  generalize pE (tkK b n) (tkV b n) 2010 3 0 a = r at hr hcode hS hF hpok ⊢
  have hle := hpok.2.2.1
  have hlen := hpok.2.2.2.2.2.1 hr
  have hpre3 := tk_pre hpok (Nat.le_refl _) (fun j h1 h2 => by omega) hpre
  have hc : r.2.2 = c1l ++ flL pe := by simpa [flL] using hcode
  have hcl : c1l.length + pe.length = r.2.2.length := by rw [hc, List.length_append, flL_len]
  have k27 := hpok.2.2.2.2.2.2.1 hr (Or.inr (Or.inr (Or.inl rfl)))
  have k25 := hpok.2.2.2.2.2.2.2 hr (Or.inl rfl)
  have isx := fun (k kk : Nat) (hk : rk k = kk) (hk2 : k ≤ 33) (dd : Nat) (QQ : Option Value → mm_M → Prop) (hdd : 1 ≤ dd) => @e_ism w nx ns X J 0 (cd + c1l.length) pe.length n b s1 s2 s3 hX hC r.2.1 k kk hle hpre3 hk hk2 dd QQ hdd
  have fin : WP 3 89 (mm_Cd 89 12) [some (.ref 323), some (.int (nI 0)), some (.int (nI 1))] [] (nx, ns, SH w, RP X r.2.1 0 (cd + c1l.length) pe.length s1 s2 s3, J) Kc := by
    rw [cd_89_12, kb_89_12]
    simp (disch := first | decide | omega) only [wp_iload, wp_lload, wp_aload, wp_istore, wp_lstore, wp_astore, wp_iinc, wp_iconst, wp_lconst, wp_sconst, wp_pop_int, wp_dup_int, wp_pop_ref, wp_dup_ref, wp_dup2_ri, wp_ibin, wp_idiv, wp_irem, wp_lbin, wp_lshl, wp_lcmp, wp_i2l, wp_l2i, wp_i2b, wp_i2c, wp_max, wp_min, wp_23, wp_24, wp_25, wp_26, wp_27, wp_28, wp_29, wp_30, wp_31, wp_32, wp_33, wp_34, wp_35, wp_36, wp_37, wp_38, wp_39, wp_40, wp_41, wp_42, wp_goto, wp_jmp, wp_sw_in, wp_sw_in2, wp_if0, wp_icmp0, wp_if1, wp_icmp1, wp_if2, wp_icmp2, wp_if3, wp_icmp3, wp_if4, wp_icmp4, wp_if5, wp_icmp5, wp_iret, wp_zret, wp_lret, wp_vret, wp_call, ms_23, ms_24, ms_25, ms_26, ms_27, ms_28, ms_29, ms_30, ms_31, ms_32, ms_33, ms_34, ms_35, ms_39, ms_40, ms_41, ms_42, mm_go_some, mm_go_none, mm_go_ite, mm_go_ite2, List.getElem?_cons_zero, List.getElem?_cons_succ, List.length_cons, List.length_nil, mm_sto1, mm_kill, mm_ibin, List.set_cons_zero, List.set_cons_succ, Value.category, ↓reduceIte, Option.some.injEq, mm_in_iff, List.take_succ_cons, List.take_zero, List.drop_succ_cons, List.drop_zero, List.reverse_cons, List.reverse_nil, List.nil_append, List.cons_append, List.map_cons, List.map_nil, List.sum_cons, List.sum_nil, mm_rc, Option.toList_some, Option.toList_none, List.append_nil, Int32.reduceOfInt, Int64.reduceOfInt, Nat.reduceEqDiff, Nat.reduceLT, Nat.reduceMul, one_two, Nat.not_lt_zero, not_false_eq_true, not_true_eq_false, if_false, if_true, true_or, or_true, false_or, or_false, true_and, and_true, Nat.reduceLeDiff, Nat.reduceAdd, eq_self_iff_true, decide_true, li_0, li_1, li_2, li_3, li_4, li_5, li_6, li_7, li_8, li_9, li_10, li_11, li_12, li_13, li_14, li_15, li_16, li_17, li_18, li_19, li_20, li_21, li_22, li_23, li_24, li_25, li_26, li_27, li_28, li_29, li_30, li_31, li_32, li_33, li_36, li_38, li_40, li_41, li_42, li_43, li_45, li_47, li_48, li_57, li_58, li_59, li_60, li_61, li_63, li_64, li_68, li_69, li_97, li_99, li_100, li_101, li_102, li_103, li_104, li_105, li_108, li_110, li_111, li_112, li_114, li_115, li_116, li_117, li_119, li_121, li_122, li_130, li_155, li_199, li_207, li_255, li_260, li_400, li_401, li_403, li_404, li_420, li_840, li_2000, li_2691, li_2760, li_9999, li_12345, li_252645135, li_858993459, li_1103515245, li_1431655765, lm_1, lm_2, nM1_lt, nM2_lt, nI_nM1, nI_nM2, nM1_nI, nM2_nI, nI_le_nM, nI_le_nM2, nI_lt_nM, nI_lt_nM2, nM12, nM21, nI_add, pk_mul, nI_leI, nI_ltI, nI_eq, nI_clamp, vp_in_nI, mm_up2_eq, mm_up_up, up_ne, up_at, mm_up_sw, Nat.add_assoc, SH_323, SH_324, SH_325, SH_326, SH_327, SH_328, SH_329, SH_330, SH_331, SH_332, SH_333, SH_334, SH_335, SH_336, SH_337, SH_338, SH_339, SH_340, SH_341, SH_342, SH_343, SH_344, SH_345, SH_346, SH_347, SH_348, SH_349, SH_350, SH_351, SH_352, SH_353, SH_354, SH_355, SH_356, SH_357, SH_358, SH_359, SH_360, SH_361, SH_362, SH_363, SH_364, SH_365, SH_366, SH_367, SH_368, SH_369, cd_89_13, kb_89_13, cd_89_14, kb_89_14, cd_89_15, kb_89_15, cd_89_17, kb_89_17, cd_89_18, kb_89_18, cd_89_19, kb_89_19, cd_89_21, kb_89_21, nf_68, nf_88, isx 25 8 rfl (by omega), isx 26 9 rfl (by omega), isx 27 10 rfl (by omega), isx 28 15 rfl (by omega), k25.1, k25.2, k27.1, k27.2, RP_op]
    rw [show RP X r.2.1 0 (cd + c1l.length) pe.length s1 s2 s3 = RP X r.2.1 0 (cd + c1l.length) (pe ++ []).length s1 s2 s3 by rw [List.append_nil]]
    refine k_comesOut (sg := 0) (rest := []) (Or.inl rfl) (fun h l hl => by simp at hl) (fun o ho => by simp at ho) pe (cd + c1l.length) s1 s2 3 _ (by omega) (fun o ho => ⟨hokp.2.2.2.1 o ho, fun hs => by
      have h9 := hokp.2.2.2.1 o ho
      unfold isop at h9
      rcases hs with hs | hs
      · omega
      · omega⟩) (by have := hokp.2.2.2.2; simp; omega) (by omega) hstk (fun u1 u2 happ2 => ?_)
    simp (disch := first | decide | omega) only [wp_iload, wp_lload, wp_aload, wp_istore, wp_lstore, wp_astore, wp_iinc, wp_iconst, wp_lconst, wp_sconst, wp_pop_int, wp_dup_int, wp_pop_ref, wp_dup_ref, wp_dup2_ri, wp_ibin, wp_idiv, wp_irem, wp_lbin, wp_lshl, wp_lcmp, wp_i2l, wp_l2i, wp_i2b, wp_i2c, wp_max, wp_min, wp_23, wp_24, wp_25, wp_26, wp_27, wp_28, wp_29, wp_30, wp_31, wp_32, wp_33, wp_34, wp_35, wp_36, wp_37, wp_38, wp_39, wp_40, wp_41, wp_42, wp_goto, wp_jmp, wp_sw_in, wp_sw_in2, wp_if0, wp_icmp0, wp_if1, wp_icmp1, wp_if2, wp_icmp2, wp_if3, wp_icmp3, wp_if4, wp_icmp4, wp_if5, wp_icmp5, wp_iret, wp_zret, wp_lret, wp_vret, wp_call, ms_23, ms_24, ms_25, ms_26, ms_27, ms_28, ms_29, ms_30, ms_31, ms_32, ms_33, ms_34, ms_35, ms_39, ms_40, ms_41, ms_42, mm_go_some, mm_go_none, mm_go_ite, mm_go_ite2, List.getElem?_cons_zero, List.getElem?_cons_succ, List.length_cons, List.length_nil, mm_sto1, mm_kill, mm_ibin, List.set_cons_zero, List.set_cons_succ, Value.category, ↓reduceIte, Option.some.injEq, mm_in_iff, List.take_succ_cons, List.take_zero, List.drop_succ_cons, List.drop_zero, List.reverse_cons, List.reverse_nil, List.nil_append, List.cons_append, List.map_cons, List.map_nil, List.sum_cons, List.sum_nil, mm_rc, Option.toList_some, Option.toList_none, List.append_nil, Int32.reduceOfInt, Int64.reduceOfInt, Nat.reduceEqDiff, Nat.reduceLT, Nat.reduceMul, one_two, Nat.not_lt_zero, not_false_eq_true, not_true_eq_false, if_false, if_true, true_or, or_true, false_or, or_false, true_and, and_true, Nat.reduceLeDiff, Nat.reduceAdd, eq_self_iff_true, decide_true, li_0, li_1, li_2, li_3, li_4, li_5, li_6, li_7, li_8, li_9, li_10, li_11, li_12, li_13, li_14, li_15, li_16, li_17, li_18, li_19, li_20, li_21, li_22, li_23, li_24, li_25, li_26, li_27, li_28, li_29, li_30, li_31, li_32, li_33, li_36, li_38, li_40, li_41, li_42, li_43, li_45, li_47, li_48, li_57, li_58, li_59, li_60, li_61, li_63, li_64, li_68, li_69, li_97, li_99, li_100, li_101, li_102, li_103, li_104, li_105, li_108, li_110, li_111, li_112, li_114, li_115, li_116, li_117, li_119, li_121, li_122, li_130, li_155, li_199, li_207, li_255, li_260, li_400, li_401, li_403, li_404, li_420, li_840, li_2000, li_2691, li_2760, li_9999, li_12345, li_252645135, li_858993459, li_1103515245, li_1431655765, lm_1, lm_2, nM1_lt, nM2_lt, nI_nM1, nI_nM2, nM1_nI, nM2_nI, nI_le_nM, nI_le_nM2, nI_lt_nM, nI_lt_nM2, nM12, nM21, nI_add, pk_mul, nI_leI, nI_ltI, nI_eq, nI_clamp, vp_in_nI, mm_up2_eq, mm_up_up, up_ne, up_at, mm_up_sw, Nat.add_assoc, SH_323, SH_324, SH_325, SH_326, SH_327, SH_328, SH_329, SH_330, SH_331, SH_332, SH_333, SH_334, SH_335, SH_336, SH_337, SH_338, SH_339, SH_340, SH_341, SH_342, SH_343, SH_344, SH_345, SH_346, SH_347, SH_348, SH_349, SH_350, SH_351, SH_352, SH_353, SH_354, SH_355, SH_356, SH_357, SH_358, SH_359, SH_360, SH_361, SH_362, SH_363, SH_364, SH_365, SH_366, SH_367, SH_368, SH_369]
    have h3 := APP_tr happ happ2
    rw [← hc] at h3
    have := hS hr u1 u2 s3 h3
    rw [← hcl, ← Nat.add_assoc] at this
    first
      | exact this
      | (rw [Nat.add_assoc] at this; exact this)
  rw [List.append_nil, cd_89_9, kb_89_9]
  by_cases c31 : tkK b n r.2.1 = 31
  · simp (disch := first | decide | omega) only [wp_iload, wp_lload, wp_aload, wp_istore, wp_lstore, wp_astore, wp_iinc, wp_iconst, wp_lconst, wp_sconst, wp_pop_int, wp_dup_int, wp_pop_ref, wp_dup_ref, wp_dup2_ri, wp_ibin, wp_idiv, wp_irem, wp_lbin, wp_lshl, wp_lcmp, wp_i2l, wp_l2i, wp_i2b, wp_i2c, wp_max, wp_min, wp_23, wp_24, wp_25, wp_26, wp_27, wp_28, wp_29, wp_30, wp_31, wp_32, wp_33, wp_34, wp_35, wp_36, wp_37, wp_38, wp_39, wp_40, wp_41, wp_42, wp_goto, wp_jmp, wp_sw_in, wp_sw_in2, wp_if0, wp_icmp0, wp_if1, wp_icmp1, wp_if2, wp_icmp2, wp_if3, wp_icmp3, wp_if4, wp_icmp4, wp_if5, wp_icmp5, wp_iret, wp_zret, wp_lret, wp_vret, wp_call, ms_23, ms_24, ms_25, ms_26, ms_27, ms_28, ms_29, ms_30, ms_31, ms_32, ms_33, ms_34, ms_35, ms_39, ms_40, ms_41, ms_42, mm_go_some, mm_go_none, mm_go_ite, mm_go_ite2, List.getElem?_cons_zero, List.getElem?_cons_succ, List.length_cons, List.length_nil, mm_sto1, mm_kill, mm_ibin, List.set_cons_zero, List.set_cons_succ, Value.category, ↓reduceIte, Option.some.injEq, mm_in_iff, List.take_succ_cons, List.take_zero, List.drop_succ_cons, List.drop_zero, List.reverse_cons, List.reverse_nil, List.nil_append, List.cons_append, List.map_cons, List.map_nil, List.sum_cons, List.sum_nil, mm_rc, Option.toList_some, Option.toList_none, List.append_nil, Int32.reduceOfInt, Int64.reduceOfInt, Nat.reduceEqDiff, Nat.reduceLT, Nat.reduceMul, one_two, Nat.not_lt_zero, not_false_eq_true, not_true_eq_false, if_false, if_true, true_or, or_true, false_or, or_false, true_and, and_true, Nat.reduceLeDiff, Nat.reduceAdd, eq_self_iff_true, decide_true, li_0, li_1, li_2, li_3, li_4, li_5, li_6, li_7, li_8, li_9, li_10, li_11, li_12, li_13, li_14, li_15, li_16, li_17, li_18, li_19, li_20, li_21, li_22, li_23, li_24, li_25, li_26, li_27, li_28, li_29, li_30, li_31, li_32, li_33, li_36, li_38, li_40, li_41, li_42, li_43, li_45, li_47, li_48, li_57, li_58, li_59, li_60, li_61, li_63, li_64, li_68, li_69, li_97, li_99, li_100, li_101, li_102, li_103, li_104, li_105, li_108, li_110, li_111, li_112, li_114, li_115, li_116, li_117, li_119, li_121, li_122, li_130, li_155, li_199, li_207, li_255, li_260, li_400, li_401, li_403, li_404, li_420, li_840, li_2000, li_2691, li_2760, li_9999, li_12345, li_252645135, li_858993459, li_1103515245, li_1431655765, lm_1, lm_2, nM1_lt, nM2_lt, nI_nM1, nI_nM2, nM1_nI, nM2_nI, nI_le_nM, nI_le_nM2, nI_lt_nM, nI_lt_nM2, nM12, nM21, nI_add, pk_mul, nI_leI, nI_ltI, nI_eq, nI_clamp, vp_in_nI, mm_up2_eq, mm_up_up, up_ne, up_at, mm_up_sw, Nat.add_assoc, SH_323, SH_324, SH_325, SH_326, SH_327, SH_328, SH_329, SH_330, SH_331, SH_332, SH_333, SH_334, SH_335, SH_336, SH_337, SH_338, SH_339, SH_340, SH_341, SH_342, SH_343, SH_344, SH_345, SH_346, SH_347, SH_348, SH_349, SH_350, SH_351, SH_352, SH_353, SH_354, SH_355, SH_356, SH_357, SH_358, SH_359, SH_360, SH_361, SH_362, SH_363, SH_364, SH_365, SH_366, SH_367, SH_368, SH_369, cd_89_10, kb_89_10, nf_68, isx 31 7 rfl (by omega), c31, bt_one0, RP_op]
    exact fin
  · simp (disch := first | decide | omega) only [wp_iload, wp_lload, wp_aload, wp_istore, wp_lstore, wp_astore, wp_iinc, wp_iconst, wp_lconst, wp_sconst, wp_pop_int, wp_dup_int, wp_pop_ref, wp_dup_ref, wp_dup2_ri, wp_ibin, wp_idiv, wp_irem, wp_lbin, wp_lshl, wp_lcmp, wp_i2l, wp_l2i, wp_i2b, wp_i2c, wp_max, wp_min, wp_23, wp_24, wp_25, wp_26, wp_27, wp_28, wp_29, wp_30, wp_31, wp_32, wp_33, wp_34, wp_35, wp_36, wp_37, wp_38, wp_39, wp_40, wp_41, wp_42, wp_goto, wp_jmp, wp_sw_in, wp_sw_in2, wp_if0, wp_icmp0, wp_if1, wp_icmp1, wp_if2, wp_icmp2, wp_if3, wp_icmp3, wp_if4, wp_icmp4, wp_if5, wp_icmp5, wp_iret, wp_zret, wp_lret, wp_vret, wp_call, ms_23, ms_24, ms_25, ms_26, ms_27, ms_28, ms_29, ms_30, ms_31, ms_32, ms_33, ms_34, ms_35, ms_39, ms_40, ms_41, ms_42, mm_go_some, mm_go_none, mm_go_ite, mm_go_ite2, List.getElem?_cons_zero, List.getElem?_cons_succ, List.length_cons, List.length_nil, mm_sto1, mm_kill, mm_ibin, List.set_cons_zero, List.set_cons_succ, Value.category, ↓reduceIte, Option.some.injEq, mm_in_iff, List.take_succ_cons, List.take_zero, List.drop_succ_cons, List.drop_zero, List.reverse_cons, List.reverse_nil, List.nil_append, List.cons_append, List.map_cons, List.map_nil, List.sum_cons, List.sum_nil, mm_rc, Option.toList_some, Option.toList_none, List.append_nil, Int32.reduceOfInt, Int64.reduceOfInt, Nat.reduceEqDiff, Nat.reduceLT, Nat.reduceMul, one_two, Nat.not_lt_zero, not_false_eq_true, not_true_eq_false, if_false, if_true, true_or, or_true, false_or, or_false, true_and, and_true, Nat.reduceLeDiff, Nat.reduceAdd, eq_self_iff_true, decide_true, li_0, li_1, li_2, li_3, li_4, li_5, li_6, li_7, li_8, li_9, li_10, li_11, li_12, li_13, li_14, li_15, li_16, li_17, li_18, li_19, li_20, li_21, li_22, li_23, li_24, li_25, li_26, li_27, li_28, li_29, li_30, li_31, li_32, li_33, li_36, li_38, li_40, li_41, li_42, li_43, li_45, li_47, li_48, li_57, li_58, li_59, li_60, li_61, li_63, li_64, li_68, li_69, li_97, li_99, li_100, li_101, li_102, li_103, li_104, li_105, li_108, li_110, li_111, li_112, li_114, li_115, li_116, li_117, li_119, li_121, li_122, li_130, li_155, li_199, li_207, li_255, li_260, li_400, li_401, li_403, li_404, li_420, li_840, li_2000, li_2691, li_2760, li_9999, li_12345, li_252645135, li_858993459, li_1103515245, li_1431655765, lm_1, lm_2, nM1_lt, nM2_lt, nI_nM1, nI_nM2, nM1_nI, nM2_nI, nI_le_nM, nI_le_nM2, nI_lt_nM, nI_lt_nM2, nM12, nM21, nI_add, pk_mul, nI_leI, nI_ltI, nI_eq, nI_clamp, vp_in_nI, mm_up2_eq, mm_up_up, up_ne, up_at, mm_up_sw, Nat.add_assoc, SH_323, SH_324, SH_325, SH_326, SH_327, SH_328, SH_329, SH_330, SH_331, SH_332, SH_333, SH_334, SH_335, SH_336, SH_337, SH_338, SH_339, SH_340, SH_341, SH_342, SH_343, SH_344, SH_345, SH_346, SH_347, SH_348, SH_349, SH_350, SH_351, SH_352, SH_353, SH_354, SH_355, SH_356, SH_357, SH_358, SH_359, SH_360, SH_361, SH_362, SH_363, SH_364, SH_365, SH_366, SH_367, SH_368, SH_369, nf_68, isx 31 7 rfl (by omega), c31]
    exact fin
end P6
