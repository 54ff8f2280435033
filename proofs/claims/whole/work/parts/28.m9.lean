/-! ===== The reference: the laws of hedges and people ===== -/
theorem m_tm_ind {cd ci vr : Nat → Int32} : ∀ (n c top : Nat) (pl pl2 : Nat → Int32), m_tok cd ci n c top → (∀ k, k < top → pl k = pl2 k) → (m_tm cd ci vr n c top pl).2 = (m_tm cd ci vr n c top pl2).2 := by
  intro n
  induction n with
  | zero =>
    intro c top pl pl2 ht h
    have ht : top = 1 := ht
    simp only [m_tm]
    rw [h 0 (by omega)]
  | succ n ih =>
    intro c top pl pl2 ht h
    obtain ⟨-, ht⟩ := ht
    simp only [m_tm]
    rcases ht with ⟨k0, ht1, ht⟩ | ⟨k0, ht1, hv, ht⟩ | ⟨⟨k, hk1, hk2, k0⟩, ht1, ht2, ht⟩
    · rw [if_pos k0, if_pos k0]
      refine ih _ _ _ _ ht (fun k hk => ?_)
      simp only [mm_up]
      by_cases e : k = top
      · rw [if_pos e, if_pos e]
      · rw [if_neg e, if_neg e, h k (by omega)]
    · have n0 : ¬ cd c = nI 0 := by rw [k0, nI_eq (by omega) (by omega)]; omega
      rw [if_neg n0, if_neg n0, if_pos k0, if_pos k0]
      refine ih _ _ _ _ ht (fun k hk => ?_)
      simp only [mm_up]
      by_cases e : k = top
      · rw [if_pos e, if_pos e]
      · rw [if_neg e, if_neg e, h k (by omega)]
    · have n0 : ¬ cd c = nI 0 := by rw [k0, nI_eq (by omega) (by omega)]; omega
      have n1 : ¬ cd c = nI 1 := by rw [k0, nI_eq (by omega) (by omega)]; omega
      rw [if_neg n0, if_neg n0, if_neg n1, if_neg n1, ← h (top - 1) (by omega), ← h (top - 2) (by omega)]
      by_cases hz : cd c = nI 5 ∧ pl (top - 1) = nI 0
      · rw [if_pos hz, if_pos hz]
      · rw [if_neg hz, if_neg hz]
        refine ih _ _ _ _ ht (fun k hk => ?_)
        simp only [mm_up]
        by_cases e : k = top - 2
        · rw [if_pos e, if_pos e]
        · rw [if_neg e, if_neg e, h k (by omega)]
section M9
variable {w : Bool} {nx ns : Nat} {I : Nat → Nat → Int32} {J : Nat → Nat → Int64} {lv P H F : Nat} {tf tm tt te : Nat → Nat}
theorem m_ls_ind {vr : Nat → Int32} : ∀ (n b : Nat) (pl pl2 : Nat → Int32), (∀ z, b ≤ z → z < b + n → m_bok I tf tm tt te z) → (m_ls (I 353) (I 354) vr (I 348) tf tm tt te n b pl).2 = (m_ls (I 353) (I 354) vr (I 348) tf tm tt te n b pl2).2 := by
  intro n
  induction n with
  | zero => intro b pl pl2 _; rfl
  | succ n ih =>
    intro b pl pl2 hok
    obtain ⟨c1, c2, c3, c4, c5, c6, c7⟩ := hok b (Nat.le_refl _) (by omega)
    simp only [m_ls]
    rcases c7 with h0 | ⟨h0, d1, d2, d3, d4, d5, d6⟩
    · rw [if_pos h0, if_pos h0]
      have e := m_tm_ind (vr := vr) _ _ _ pl pl2 c6 (fun k hk => by omega)
      simp only [e]
    · have n0 : ¬ I 348 b = nI 0 := by rw [h0, nI_eq (by omega) (by omega)]; omega
      rw [if_neg n0, if_neg n0]
      have e1 := m_tm_ind (vr := vr) _ _ _ pl pl2 d5 (fun k hk => by omega)
      generalize m_tm (I 353) (I 354) vr (tm b - tf b) (tf b) 0 pl = r1 at e1 ⊢
      generalize m_tm (I 353) (I 354) vr (tm b - tf b) (tf b) 0 pl2 = r2 at e1 ⊢
      have e2 := m_tm_ind (vr := vr) _ _ _ r1.1 r2.1 d6 (fun k hk => by omega)
      generalize m_tm (I 353) (I 354) vr (tt b - tm b) (tm b) 0 r1.1 = r3 at e2 ⊢
      generalize m_tm (I 353) (I 354) vr (tt b - tm b) (tm b) 0 r2.1 = r4 at e2 ⊢
      have e3 := m_tm_ind (vr := vr) _ _ _ r3.1 r4.1 c6 (fun k hk => by omega)
      generalize m_tm (I 353) (I 354) vr (te b - tt b) (tt b) 0 r3.1 = r5 at e3 ⊢
      generalize m_tm (I 353) (I 354) vr (te b - tt b) (tt b) 0 r4.1 = r6 at e3 ⊢
      rw [e1, e2]
      by_cases q1 : r2.2.2 = true ∨ r4.2.2 = true
      · rw [if_pos q1, if_pos q1]
      · rw [if_neg q1, if_neg q1]
        by_cases q2 : r2.2.1 < r4.2.1
        · rw [if_pos q2, if_pos q2]
          simp only [e3]
        · rw [if_neg q2, if_neg q2]
          exact ih _ _ _ (fun z h1 h2 => hok z (by omega) (by omega))
/-- the laws lie well: each from fl on, nl branches -/
def LWS (I : Nat → Nat → Int32) (lv : Nat) (tf tm tt te fl nl : Nat → Nat) : Prop := ∀ k, k < 4 → I 346 (4 * lv + k) = nI (fl k) ∧ I 347 (4 * lv + k) = nI (fl k + nl k) ∧ fl k + nl k ≤ 260 ∧ ∀ z, fl k ≤ z → z < fl k + nl k → m_bok I tf tm tt te z
/-- what law k tells of the vars -/
def m_av (I : Nat → Nat → Int32) (tf tm tt te fl nl : Nat → Nat) (k : Nat) (vr : Nat → Int32) (plain : Int32) : Int32 := if nl k = 0 then plain else (m_ls (I 353) (I 354) vr (I 348) tf tm tt te (nl k) (fl k) (fun _ => nI 0)).2.1
/-- the memory once law k was looked at -/
def m_law (I : Nat → Nat → Int32) (tf tm tt te fl nl : Nat → Nat) (k : Nat) (vr : Nat → Int32) : Nat → Nat → Int32 := m_lwm (mm_up I 356 vr) tf tm tt te (fl k) (nl k)
variable {fl nl : Nat → Nat}
theorem m_law_app {k : Nat} {vr : Nat → Int32} {b : Nat} (h1 : ¬ b = 323) (h2 : ¬ b = 356) (h3 : ¬ b = 357) : m_law I tf tm tt te fl nl k vr b = I b := by
  unfold m_law m_lwm
  split
  · rw [mm_up_app, if_neg h2]
  · unfold m_lm
    rw [mm_up_app, if_neg h1, mm_up_app, if_neg h3, mm_up_app, if_neg h2]
theorem m_law_vr {k : Nat} {vr : Nat → Int32} : m_law I tf tm tt te fl nl k vr 356 = vr := by
  unfold m_law m_lwm
  split
  · rfl
  · rfl
theorem m_law_323 {k : Nat} {vr : Nat → Int32} {j : Nat} (h : ¬ j = 51) : m_law I tf tm tt te fl nl k vr 323 j = I 323 j := by
  unfold m_law m_lwm
  split
  · rfl
  · unfold m_lm
    show mm_up (I 323) 51 _ j = _
    rw [mm_up_app, if_neg h]
theorem LWS_up {a : Nat} {f : Nat → Int32} (h : LWS I lv tf tm tt te fl nl) (h1 : a < 346 ∨ 354 < a) : LWS (mm_up I a f) lv tf tm tt te fl nl := by
  have e : ∀ b, 346 ≤ b → b ≤ 354 → mm_up I a f b = I b := fun b g1 g2 => by rw [mm_up_app, if_neg (by omega)]
  intro k hk
  obtain ⟨a1, a2, a3, a4⟩ := h k hk
  refine ⟨by rw [e _ (by omega) (by omega)]; exact a1, by rw [e _ (by omega) (by omega)]; exact a2, a3, fun z g1 g2 => ?_⟩
  have b1 := a4 z g1 g2
  unfold m_bok at b1 ⊢
  rw [e 351 (by omega) (by omega), e 352 (by omega) (by omega), e 353 (by omega) (by omega), e 354 (by omega) (by omega), e 348 (by omega) (by omega), e 349 (by omega) (by omega), e 350 (by omega) (by omega)]
  exact b1
/-- lawTells, once the vars are set -/
theorem e_law {k : Nat} {vr : Nat → Int32} {plain : Int32} (hk : k < 4) (hL : LV I lv P H F) (hW : LWS I lv tf tm tt te fl nl) {dd : Nat} {QQ : Option Value → mm_M → Prop} (hd : 2 ≤ dd) : EV dd 110 [.ref 323, .int (nI k), .int plain] (nx, ns, SH w, mm_up I 356 vr, J) QQ ↔ QQ (some (.int (m_av I tf tm tt te fl nl k vr plain))) (nx, ns, SH w, m_law I tf tm tt te fl nl k vr, J) := by
  obtain ⟨a1, a2, a3, a4⟩ := LWS_up (a := 356) (f := vr) hW (by omega) k hk
  have hL2 : LV (mm_up I 356 vr) lv P H F := LV_up hL (by decide) (by decide) (by decide) (by decide)
  rw [e_lawTells (tf := tf) (tm := tm) (tt := tt) (te := te) hk hL2 a1 a2 a3 a4 hd]
  have e : m_lwa (mm_up I 356 vr) tf tm tt te (fl k) (nl k) plain = m_av I tf tm tt te fl nl k vr plain := by
    unfold m_lwa m_av m_lwv
    split
    · rfl
    · exact congrArg Prod.fst (m_ls_ind (I := I) (nl k) (fl k) _ _ (hW k hk).2.2.2)
  rw [e]
  rfl
def m_gr (I : Nat → Nat → Int32) (tf tm tt te fl nl : Nat → Nat) (r : Nat → Int32) (e : Nat) : Int32 := m_wi (m_av I tf tm tt te fl nl 0 (m_va r e) (nI 1)) (nI 0) (nI 99)
theorem c_growsOf {e : Nat} (he : e < 10) (hL : LV I lv P H F) (hW : LWS I lv tf tm tt te fl nl) (hV : ∀ k, 9 ≤ k → I 356 k = nI 0) (h1 : nI 0 ≤ I 359 (18 + e) → vp_in (nI 6 + I 359 (18 + e)) 69) (h2 : nI 0 ≤ I 359 (28 + e) → vp_in (nI 6 + I 359 (28 + e)) 69) : RT 4 115 [.ref 323, .int (nI e)] (nx, ns, SH w, I, J) (some (.int (m_gr I tf tm tt te fl nl (I 359) e))) (nx, ns, SH w, m_law I tf tm tt te fl nl 0 (m_va (I 359) e), J) := by
  refine EV_of (show 2 ≤ 2 from by decide) ?_
  show WP 3 115 (mm_Cd 115 0) [some (.ref 323), some (.int (nI e))] [] _ _
  simp (disch := first | decide | omega) only [wp_iload, wp_lload, wp_aload, wp_istore, wp_lstore, wp_astore, wp_iinc, wp_iconst, wp_lconst, wp_sconst, wp_pop_int, wp_dup_int, wp_pop_ref, wp_dup_ref, wp_dup2_ri, wp_ibin, wp_idiv, wp_irem, wp_lbin, wp_lshl, wp_lcmp, wp_i2l, wp_l2i, wp_i2b, wp_i2c, wp_max, wp_min, wp_23, wp_24, wp_25, wp_26, wp_27, wp_28, wp_29, wp_30, wp_31, wp_32, wp_33, wp_34, wp_35, wp_36, wp_37, wp_38, wp_39, wp_40, wp_41, wp_42, wp_goto, wp_jmp, wp_switch, wp_if0, wp_icmp0, wp_if1, wp_icmp1, wp_if2, wp_icmp2, wp_if3, wp_icmp3, wp_if4, wp_icmp4, wp_if5, wp_icmp5, wp_iret, wp_zret, wp_lret, wp_vret, wp_call, ms_23, ms_24, ms_25, ms_26, ms_27, ms_28, ms_29, ms_30, ms_31, ms_32, ms_33, ms_34, ms_35, ms_39, ms_40, ms_41, ms_42, mm_go_some, mm_go_none, mm_go_ite, mm_go_ite2, List.getElem?_cons_zero, List.getElem?_cons_succ, List.length_cons, List.length_nil, mm_sto1, mm_kill, mm_ibin, List.set_cons_zero, List.set_cons_succ, Value.category, ↓reduceIte, Option.some.injEq, mm_in_iff, List.take_succ_cons, List.take_zero, List.drop_succ_cons, List.drop_zero, List.reverse_cons, List.reverse_nil, List.nil_append, List.cons_append, List.map_cons, List.map_nil, List.sum_cons, List.sum_nil, mm_rc, Option.toList_some, Option.toList_none, List.append_nil, Int32.reduceOfInt, Int64.reduceOfInt, Nat.reduceEqDiff, Nat.reduceLT, Nat.reduceMul, one_two, Nat.not_lt_zero, not_false_eq_true, not_true_eq_false, if_false, if_true, true_or, or_true, false_or, or_false, true_and, and_true, Nat.reduceLeDiff, Nat.reduceAdd, eq_self_iff_true, decide_true, li_0, li_1, li_2, li_3, li_4, li_5, li_6, li_7, li_8, li_9, li_10, li_11, li_12, li_13, li_14, li_15, li_16, li_17, li_18, li_19, li_20, li_21, li_22, li_23, li_24, li_25, li_26, li_27, li_28, li_29, li_30, li_31, li_32, li_33, li_36, li_38, li_40, li_41, li_42, li_43, li_45, li_47, li_48, li_57, li_58, li_59, li_60, li_61, li_63, li_64, li_68, li_69, li_97, li_99, li_100, li_101, li_102, li_103, li_104, li_105, li_108, li_110, li_111, li_112, li_114, li_115, li_116, li_117, li_119, li_121, li_122, li_130, li_155, li_199, li_207, li_255, li_260, li_400, li_401, li_403, li_404, li_420, li_840, li_2000, li_2691, li_2760, li_9999, li_12345, li_252645135, li_858993459, li_1103515245, li_1431655765, lm_1, lm_2, nM1_lt, nM2_lt, nI_nM1, nI_nM2, nM1_nI, nM2_nI, nI_le_nM, nI_le_nM2, nI_lt_nM, nI_lt_nM2, nM12, nM21, nI_add, pk_mul, nI_leI, nI_ltI, nI_eq, nI_clamp, vp_in_nI, mm_up2_eq, mm_up_up, mm_up_app, cd_115_0, kb_115_0, SH_323, SH_324, SH_325, SH_326, SH_327, SH_328, SH_329, SH_330, SH_331, SH_332, SH_333, SH_334, SH_335, SH_336, SH_337, SH_338, SH_339, SH_340, SH_341, SH_342, SH_343, SH_344, SH_345, SH_346, SH_347, SH_348, SH_349, SH_350, SH_351, SH_352, SH_353, SH_354, SH_355, SH_356, SH_357, SH_358, SH_359, SH_360, SH_361, SH_362, SH_363, SH_364, SH_365, SH_366, SH_367, SH_368, SH_369, nf_114, nf_110, nf_93, e_looksAt he hV h1 h2, e_law (show 0 < 4 by omega) hL hW, e_within, m_gr]
theorem e_growsOf {e : Nat} (he : e < 10) (hL : LV I lv P H F) (hW : LWS I lv tf tm tt te fl nl) (hV : ∀ k, 9 ≤ k → I 356 k = nI 0) (h1 : nI 0 ≤ I 359 (18 + e) → vp_in (nI 6 + I 359 (18 + e)) 69) (h2 : nI 0 ≤ I 359 (28 + e) → vp_in (nI 6 + I 359 (28 + e)) 69) {dd : Nat} {QQ : Option Value → mm_M → Prop} (hdd : 4 ≤ dd) : EV dd 115 [.ref 323, .int (nI e)] (nx, ns, SH w, I, J) QQ ↔ QQ (some (.int (m_gr I tf tm tt te fl nl (I 359) e))) (nx, ns, SH w, m_law I tf tm tt te fl nl 0 (m_va (I 359) e), J) := (c_growsOf he hL hW hV h1 h2).ev hdd
def m_fl (I : Nat → Nat → Int32) (tf tm tt te fl nl : Nat → Nat) (r : Nat → Int32) (e : Nat) : Int32 := if m_av I tf tm tt te fl nl 2 (m_va r e) (nI 0) ≤ nI 0 then nI 0 else nI 1
theorem c_doesFall {e : Nat} (he : e < 10) (hL : LV I lv P H F) (hW : LWS I lv tf tm tt te fl nl) (hV : ∀ k, 9 ≤ k → I 356 k = nI 0) (h1 : nI 0 ≤ I 359 (18 + e) → vp_in (nI 6 + I 359 (18 + e)) 69) (h2 : nI 0 ≤ I 359 (28 + e) → vp_in (nI 6 + I 359 (28 + e)) 69) : RT 4 116 [.ref 323, .int (nI e)] (nx, ns, SH w, I, J) (some (.int (m_fl I tf tm tt te fl nl (I 359) e))) (nx, ns, SH w, m_law I tf tm tt te fl nl 2 (m_va (I 359) e), J) := by
  refine EV_of (show 2 ≤ 2 from by decide) ?_
  show WP 3 116 (mm_Cd 116 0) [some (.ref 323), some (.int (nI e))] [] _ _
  simp (disch := first | decide | omega) only [wp_iload, wp_lload, wp_aload, wp_istore, wp_lstore, wp_astore, wp_iinc, wp_iconst, wp_lconst, wp_sconst, wp_pop_int, wp_dup_int, wp_pop_ref, wp_dup_ref, wp_dup2_ri, wp_ibin, wp_idiv, wp_irem, wp_lbin, wp_lshl, wp_lcmp, wp_i2l, wp_l2i, wp_i2b, wp_i2c, wp_max, wp_min, wp_23, wp_24, wp_25, wp_26, wp_27, wp_28, wp_29, wp_30, wp_31, wp_32, wp_33, wp_34, wp_35, wp_36, wp_37, wp_38, wp_39, wp_40, wp_41, wp_42, wp_goto, wp_jmp, wp_switch, wp_if0, wp_icmp0, wp_if1, wp_icmp1, wp_if2, wp_icmp2, wp_if3, wp_icmp3, wp_if4, wp_icmp4, wp_if5, wp_icmp5, wp_iret, wp_zret, wp_lret, wp_vret, wp_call, ms_23, ms_24, ms_25, ms_26, ms_27, ms_28, ms_29, ms_30, ms_31, ms_32, ms_33, ms_34, ms_35, ms_39, ms_40, ms_41, ms_42, mm_go_some, mm_go_none, mm_go_ite, mm_go_ite2, List.getElem?_cons_zero, List.getElem?_cons_succ, List.length_cons, List.length_nil, mm_sto1, mm_kill, mm_ibin, List.set_cons_zero, List.set_cons_succ, Value.category, ↓reduceIte, Option.some.injEq, mm_in_iff, List.take_succ_cons, List.take_zero, List.drop_succ_cons, List.drop_zero, List.reverse_cons, List.reverse_nil, List.nil_append, List.cons_append, List.map_cons, List.map_nil, List.sum_cons, List.sum_nil, mm_rc, Option.toList_some, Option.toList_none, List.append_nil, Int32.reduceOfInt, Int64.reduceOfInt, Nat.reduceEqDiff, Nat.reduceLT, Nat.reduceMul, one_two, Nat.not_lt_zero, not_false_eq_true, not_true_eq_false, if_false, if_true, true_or, or_true, false_or, or_false, true_and, and_true, Nat.reduceLeDiff, Nat.reduceAdd, eq_self_iff_true, decide_true, li_0, li_1, li_2, li_3, li_4, li_5, li_6, li_7, li_8, li_9, li_10, li_11, li_12, li_13, li_14, li_15, li_16, li_17, li_18, li_19, li_20, li_21, li_22, li_23, li_24, li_25, li_26, li_27, li_28, li_29, li_30, li_31, li_32, li_33, li_36, li_38, li_40, li_41, li_42, li_43, li_45, li_47, li_48, li_57, li_58, li_59, li_60, li_61, li_63, li_64, li_68, li_69, li_97, li_99, li_100, li_101, li_102, li_103, li_104, li_105, li_108, li_110, li_111, li_112, li_114, li_115, li_116, li_117, li_119, li_121, li_122, li_130, li_155, li_199, li_207, li_255, li_260, li_400, li_401, li_403, li_404, li_420, li_840, li_2000, li_2691, li_2760, li_9999, li_12345, li_252645135, li_858993459, li_1103515245, li_1431655765, lm_1, lm_2, nM1_lt, nM2_lt, nI_nM1, nI_nM2, nM1_nI, nM2_nI, nI_le_nM, nI_le_nM2, nI_lt_nM, nI_lt_nM2, nM12, nM21, nI_add, pk_mul, nI_leI, nI_ltI, nI_eq, nI_clamp, vp_in_nI, mm_up2_eq, mm_up_up, mm_up_app, cd_116_0, kb_116_0, cd_116_1, kb_116_1, cd_116_2, kb_116_2, cd_116_3, kb_116_3, SH_323, SH_324, SH_325, SH_326, SH_327, SH_328, SH_329, SH_330, SH_331, SH_332, SH_333, SH_334, SH_335, SH_336, SH_337, SH_338, SH_339, SH_340, SH_341, SH_342, SH_343, SH_344, SH_345, SH_346, SH_347, SH_348, SH_349, SH_350, SH_351, SH_352, SH_353, SH_354, SH_355, SH_356, SH_357, SH_358, SH_359, SH_360, SH_361, SH_362, SH_363, SH_364, SH_365, SH_366, SH_367, SH_368, SH_369, nf_114, nf_110, e_looksAt he hV h1 h2, e_law (show 2 < 4 by omega) hL hW, m_fl]
  (repeat' split) <;> simp_all
theorem e_doesFall {e : Nat} (he : e < 10) (hL : LV I lv P H F) (hW : LWS I lv tf tm tt te fl nl) (hV : ∀ k, 9 ≤ k → I 356 k = nI 0) (h1 : nI 0 ≤ I 359 (18 + e) → vp_in (nI 6 + I 359 (18 + e)) 69) (h2 : nI 0 ≤ I 359 (28 + e) → vp_in (nI 6 + I 359 (28 + e)) 69) {dd : Nat} {QQ : Option Value → mm_M → Prop} (hdd : 4 ≤ dd) : EV dd 116 [.ref 323, .int (nI e)] (nx, ns, SH w, I, J) QQ ↔ QQ (some (.int (m_fl I tf tm tt te fl nl (I 359) e))) (nx, ns, SH w, m_law I tf tm tt te fl nl 2 (m_va (I 359) e), J) := (c_doesFall he hL hW hV h1 h2).ev hdd
def m_co (I : Nat → Nat → Int32) (tf tm tt te fl nl : Nat → Nat) (r : Nat → Int32) (e : Nat) : Int32 := m_wi (m_av I tf tm tt te fl nl 3 (m_va r e) (r (38 + e))) (nI 0) (nI 99)
theorem c_costsOf {e : Nat} (he : e < 10) (hL : LV I lv P H F) (hW : LWS I lv tf tm tt te fl nl) (hV : ∀ k, 9 ≤ k → I 356 k = nI 0) (h1 : nI 0 ≤ I 359 (18 + e) → vp_in (nI 6 + I 359 (18 + e)) 69) (h2 : nI 0 ≤ I 359 (28 + e) → vp_in (nI 6 + I 359 (28 + e)) 69) : RT 4 117 [.ref 323, .int (nI e)] (nx, ns, SH w, I, J) (some (.int (m_co I tf tm tt te fl nl (I 359) e))) (nx, ns, SH w, m_law I tf tm tt te fl nl 3 (m_va (I 359) e), J) := by
  refine EV_of (show 2 ≤ 2 from by decide) ?_
  show WP 3 117 (mm_Cd 117 0) [some (.ref 323), some (.int (nI e))] [] _ _
  have ev : m_va (I 359) e 0 = I 359 (38 + e) := rfl
  simp (disch := first | decide | omega) only [wp_iload, wp_lload, wp_aload, wp_istore, wp_lstore, wp_astore, wp_iinc, wp_iconst, wp_lconst, wp_sconst, wp_pop_int, wp_dup_int, wp_pop_ref, wp_dup_ref, wp_dup2_ri, wp_ibin, wp_idiv, wp_irem, wp_lbin, wp_lshl, wp_lcmp, wp_i2l, wp_l2i, wp_i2b, wp_i2c, wp_max, wp_min, wp_23, wp_24, wp_25, wp_26, wp_27, wp_28, wp_29, wp_30, wp_31, wp_32, wp_33, wp_34, wp_35, wp_36, wp_37, wp_38, wp_39, wp_40, wp_41, wp_42, wp_goto, wp_jmp, wp_switch, wp_if0, wp_icmp0, wp_if1, wp_icmp1, wp_if2, wp_icmp2, wp_if3, wp_icmp3, wp_if4, wp_icmp4, wp_if5, wp_icmp5, wp_iret, wp_zret, wp_lret, wp_vret, wp_call, ms_23, ms_24, ms_25, ms_26, ms_27, ms_28, ms_29, ms_30, ms_31, ms_32, ms_33, ms_34, ms_35, ms_39, ms_40, ms_41, ms_42, mm_go_some, mm_go_none, mm_go_ite, mm_go_ite2, List.getElem?_cons_zero, List.getElem?_cons_succ, List.length_cons, List.length_nil, mm_sto1, mm_kill, mm_ibin, List.set_cons_zero, List.set_cons_succ, Value.category, ↓reduceIte, Option.some.injEq, mm_in_iff, List.take_succ_cons, List.take_zero, List.drop_succ_cons, List.drop_zero, List.reverse_cons, List.reverse_nil, List.nil_append, List.cons_append, List.map_cons, List.map_nil, List.sum_cons, List.sum_nil, mm_rc, Option.toList_some, Option.toList_none, List.append_nil, Int32.reduceOfInt, Int64.reduceOfInt, Nat.reduceEqDiff, Nat.reduceLT, Nat.reduceMul, one_two, Nat.not_lt_zero, not_false_eq_true, not_true_eq_false, if_false, if_true, true_or, or_true, false_or, or_false, true_and, and_true, Nat.reduceLeDiff, Nat.reduceAdd, eq_self_iff_true, decide_true, li_0, li_1, li_2, li_3, li_4, li_5, li_6, li_7, li_8, li_9, li_10, li_11, li_12, li_13, li_14, li_15, li_16, li_17, li_18, li_19, li_20, li_21, li_22, li_23, li_24, li_25, li_26, li_27, li_28, li_29, li_30, li_31, li_32, li_33, li_36, li_38, li_40, li_41, li_42, li_43, li_45, li_47, li_48, li_57, li_58, li_59, li_60, li_61, li_63, li_64, li_68, li_69, li_97, li_99, li_100, li_101, li_102, li_103, li_104, li_105, li_108, li_110, li_111, li_112, li_114, li_115, li_116, li_117, li_119, li_121, li_122, li_130, li_155, li_199, li_207, li_255, li_260, li_400, li_401, li_403, li_404, li_420, li_840, li_2000, li_2691, li_2760, li_9999, li_12345, li_252645135, li_858993459, li_1103515245, li_1431655765, lm_1, lm_2, nM1_lt, nM2_lt, nI_nM1, nI_nM2, nM1_nI, nM2_nI, nI_le_nM, nI_le_nM2, nI_lt_nM, nI_lt_nM2, nM12, nM21, nI_add, pk_mul, nI_leI, nI_ltI, nI_eq, nI_clamp, vp_in_nI, mm_up2_eq, mm_up_up, mm_up_app, cd_117_0, kb_117_0, SH_323, SH_324, SH_325, SH_326, SH_327, SH_328, SH_329, SH_330, SH_331, SH_332, SH_333, SH_334, SH_335, SH_336, SH_337, SH_338, SH_339, SH_340, SH_341, SH_342, SH_343, SH_344, SH_345, SH_346, SH_347, SH_348, SH_349, SH_350, SH_351, SH_352, SH_353, SH_354, SH_355, SH_356, SH_357, SH_358, SH_359, SH_360, SH_361, SH_362, SH_363, SH_364, SH_365, SH_366, SH_367, SH_368, SH_369, nf_114, nf_110, nf_93, e_looksAt he hV h1 h2, ev, e_law (show 3 < 4 by omega) hL hW, e_within, m_co]
theorem e_costsOf {e : Nat} (he : e < 10) (hL : LV I lv P H F) (hW : LWS I lv tf tm tt te fl nl) (hV : ∀ k, 9 ≤ k → I 356 k = nI 0) (h1 : nI 0 ≤ I 359 (18 + e) → vp_in (nI 6 + I 359 (18 + e)) 69) (h2 : nI 0 ≤ I 359 (28 + e) → vp_in (nI 6 + I 359 (28 + e)) 69) {dd : Nat} {QQ : Option Value → mm_M → Prop} (hdd : 4 ≤ dd) : EV dd 117 [.ref 323, .int (nI e)] (nx, ns, SH w, I, J) QQ ↔ QQ (some (.int (m_co I tf tm tt te fl nl (I 359) e))) (nx, ns, SH w, m_law I tf tm tt te fl nl 3 (m_va (I 359) e), J) := (c_costsOf he hL hW hV h1 h2).ev hdd
def m_di (I : Nat → Nat → Int32) (tf tm tt te fl nl : Nat → Nat) (r : Nat → Int32) (H p : Nat) : Int32 := m_wi (m_av I tf tm tt te fl nl 1 (m_vd r H p) (nI 0)) (nI 0) (nI 100)
theorem c_diesOf {p : Nat} (hp : p < 6) (hL : LV I lv P H F) (hW : LWS I lv tf tm tt te fl nl) (hV : ∀ k, 9 ≤ k → I 356 k = nI 0) : RT 4 118 [.ref 323, .int (nI p)] (nx, ns, SH w, I, J) (some (.int (m_di I tf tm tt te fl nl (I 359) H p))) (nx, ns, SH w, m_law I tf tm tt te fl nl 1 (m_vd (I 359) H p), J) := by
  refine EV_of (show 2 ≤ 2 from by decide) ?_
  show WP 3 118 (mm_Cd 118 0) [some (.ref 323), some (.int (nI p))] [] _ _
  have hf : ∀ (f : Nat → Int32) (QQ : Option Value → mm_M → Prop), EV 3 108 [.ref 323, .int (nI p)] (nx, ns, SH w, mm_up I 356 f, J) QQ ↔ QQ (some (.int (nI (m_fc (I 359) (nI p) H)))) (nx, ns, SH w, mm_up I 356 f, J) := fun f QQ => by
    have h9 := LV_up (a := 356) (f := f) hL (by decide) (by decide) (by decide) (by decide)
    exact e_facesOf h9.1 h9.2.1 h9.2.2.2.2.1 h9.2.2.2.2.2.1 (by omega)
  simp (disch := first | decide | omega) only [wp_iload, wp_lload, wp_aload, wp_istore, wp_lstore, wp_astore, wp_iinc, wp_iconst, wp_lconst, wp_sconst, wp_pop_int, wp_dup_int, wp_pop_ref, wp_dup_ref, wp_dup2_ri, wp_ibin, wp_idiv, wp_irem, wp_lbin, wp_lshl, wp_lcmp, wp_i2l, wp_l2i, wp_i2b, wp_i2c, wp_max, wp_min, wp_23, wp_24, wp_25, wp_26, wp_27, wp_28, wp_29, wp_30, wp_31, wp_32, wp_33, wp_34, wp_35, wp_36, wp_37, wp_38, wp_39, wp_40, wp_41, wp_42, wp_goto, wp_jmp, wp_switch, wp_if0, wp_icmp0, wp_if1, wp_icmp1, wp_if2, wp_icmp2, wp_if3, wp_icmp3, wp_if4, wp_icmp4, wp_if5, wp_icmp5, wp_iret, wp_zret, wp_lret, wp_vret, wp_call, ms_23, ms_24, ms_25, ms_26, ms_27, ms_28, ms_29, ms_30, ms_31, ms_32, ms_33, ms_34, ms_35, ms_39, ms_40, ms_41, ms_42, mm_go_some, mm_go_none, mm_go_ite, mm_go_ite2, List.getElem?_cons_zero, List.getElem?_cons_succ, List.length_cons, List.length_nil, mm_sto1, mm_kill, mm_ibin, List.set_cons_zero, List.set_cons_succ, Value.category, ↓reduceIte, Option.some.injEq, mm_in_iff, List.take_succ_cons, List.take_zero, List.drop_succ_cons, List.drop_zero, List.reverse_cons, List.reverse_nil, List.nil_append, List.cons_append, List.map_cons, List.map_nil, List.sum_cons, List.sum_nil, mm_rc, Option.toList_some, Option.toList_none, List.append_nil, Int32.reduceOfInt, Int64.reduceOfInt, Nat.reduceEqDiff, Nat.reduceLT, Nat.reduceMul, one_two, Nat.not_lt_zero, not_false_eq_true, not_true_eq_false, if_false, if_true, true_or, or_true, false_or, or_false, true_and, and_true, Nat.reduceLeDiff, Nat.reduceAdd, eq_self_iff_true, decide_true, li_0, li_1, li_2, li_3, li_4, li_5, li_6, li_7, li_8, li_9, li_10, li_11, li_12, li_13, li_14, li_15, li_16, li_17, li_18, li_19, li_20, li_21, li_22, li_23, li_24, li_25, li_26, li_27, li_28, li_29, li_30, li_31, li_32, li_33, li_36, li_38, li_40, li_41, li_42, li_43, li_45, li_47, li_48, li_57, li_58, li_59, li_60, li_61, li_63, li_64, li_68, li_69, li_97, li_99, li_100, li_101, li_102, li_103, li_104, li_105, li_108, li_110, li_111, li_112, li_114, li_115, li_116, li_117, li_119, li_121, li_122, li_130, li_155, li_199, li_207, li_255, li_260, li_400, li_401, li_403, li_404, li_420, li_840, li_2000, li_2691, li_2760, li_9999, li_12345, li_252645135, li_858993459, li_1103515245, li_1431655765, lm_1, lm_2, nM1_lt, nM2_lt, nI_nM1, nI_nM2, nM1_nI, nM2_nI, nI_le_nM, nI_le_nM2, nI_lt_nM, nI_lt_nM2, nM12, nM21, nI_add, pk_mul, nI_leI, nI_ltI, nI_eq, nI_clamp, vp_in_nI, mm_up2_eq, mm_up_up, mm_up_app, cd_118_0, kb_118_0, SH_323, SH_324, SH_325, SH_326, SH_327, SH_328, SH_329, SH_330, SH_331, SH_332, SH_333, SH_334, SH_335, SH_336, SH_337, SH_338, SH_339, SH_340, SH_341, SH_342, SH_343, SH_344, SH_345, SH_346, SH_347, SH_348, SH_349, SH_350, SH_351, SH_352, SH_353, SH_354, SH_355, SH_356, SH_357, SH_358, SH_359, SH_360, SH_361, SH_362, SH_363, SH_364, SH_365, SH_366, SH_367, SH_368, SH_369, nf_111, nf_108, nf_110, nf_93, e_looks hV, hf]
  rw [show mm_up (mm_up (mm_up (m_lk (I 359)) 2 (I 359 (6 + p))) 3 (nI (m_fc (I 359) (nI p) H))) 4 (nI p) = m_vd (I 359) H p from rfl]
  simp (disch := first | decide | omega) only [wp_iload, wp_lload, wp_aload, wp_istore, wp_lstore, wp_astore, wp_iinc, wp_iconst, wp_lconst, wp_sconst, wp_pop_int, wp_dup_int, wp_pop_ref, wp_dup_ref, wp_dup2_ri, wp_ibin, wp_idiv, wp_irem, wp_lbin, wp_lshl, wp_lcmp, wp_i2l, wp_l2i, wp_i2b, wp_i2c, wp_max, wp_min, wp_23, wp_24, wp_25, wp_26, wp_27, wp_28, wp_29, wp_30, wp_31, wp_32, wp_33, wp_34, wp_35, wp_36, wp_37, wp_38, wp_39, wp_40, wp_41, wp_42, wp_goto, wp_jmp, wp_switch, wp_if0, wp_icmp0, wp_if1, wp_icmp1, wp_if2, wp_icmp2, wp_if3, wp_icmp3, wp_if4, wp_icmp4, wp_if5, wp_icmp5, wp_iret, wp_zret, wp_lret, wp_vret, wp_call, ms_23, ms_24, ms_25, ms_26, ms_27, ms_28, ms_29, ms_30, ms_31, ms_32, ms_33, ms_34, ms_35, ms_39, ms_40, ms_41, ms_42, mm_go_some, mm_go_none, mm_go_ite, mm_go_ite2, List.getElem?_cons_zero, List.getElem?_cons_succ, List.length_cons, List.length_nil, mm_sto1, mm_kill, mm_ibin, List.set_cons_zero, List.set_cons_succ, Value.category, ↓reduceIte, Option.some.injEq, mm_in_iff, List.take_succ_cons, List.take_zero, List.drop_succ_cons, List.drop_zero, List.reverse_cons, List.reverse_nil, List.nil_append, List.cons_append, List.map_cons, List.map_nil, List.sum_cons, List.sum_nil, mm_rc, Option.toList_some, Option.toList_none, List.append_nil, Int32.reduceOfInt, Int64.reduceOfInt, Nat.reduceEqDiff, Nat.reduceLT, Nat.reduceMul, one_two, Nat.not_lt_zero, not_false_eq_true, not_true_eq_false, if_false, if_true, true_or, or_true, false_or, or_false, true_and, and_true, Nat.reduceLeDiff, Nat.reduceAdd, eq_self_iff_true, decide_true, li_0, li_1, li_2, li_3, li_4, li_5, li_6, li_7, li_8, li_9, li_10, li_11, li_12, li_13, li_14, li_15, li_16, li_17, li_18, li_19, li_20, li_21, li_22, li_23, li_24, li_25, li_26, li_27, li_28, li_29, li_30, li_31, li_32, li_33, li_36, li_38, li_40, li_41, li_42, li_43, li_45, li_47, li_48, li_57, li_58, li_59, li_60, li_61, li_63, li_64, li_68, li_69, li_97, li_99, li_100, li_101, li_102, li_103, li_104, li_105, li_108, li_110, li_111, li_112, li_114, li_115, li_116, li_117, li_119, li_121, li_122, li_130, li_155, li_199, li_207, li_255, li_260, li_400, li_401, li_403, li_404, li_420, li_840, li_2000, li_2691, li_2760, li_9999, li_12345, li_252645135, li_858993459, li_1103515245, li_1431655765, lm_1, lm_2, nM1_lt, nM2_lt, nI_nM1, nI_nM2, nM1_nI, nM2_nI, nI_le_nM, nI_le_nM2, nI_lt_nM, nI_lt_nM2, nM12, nM21, nI_add, pk_mul, nI_leI, nI_ltI, nI_eq, nI_clamp, vp_in_nI, mm_up2_eq, mm_up_up, mm_up_app, cd_118_0, kb_118_0, SH_323, SH_324, SH_325, SH_326, SH_327, SH_328, SH_329, SH_330, SH_331, SH_332, SH_333, SH_334, SH_335, SH_336, SH_337, SH_338, SH_339, SH_340, SH_341, SH_342, SH_343, SH_344, SH_345, SH_346, SH_347, SH_348, SH_349, SH_350, SH_351, SH_352, SH_353, SH_354, SH_355, SH_356, SH_357, SH_358, SH_359, SH_360, SH_361, SH_362, SH_363, SH_364, SH_365, SH_366, SH_367, SH_368, SH_369, nf_110, nf_93, e_law (show 1 < 4 by omega) hL hW, e_within, m_di]
theorem e_diesOf {p : Nat} (hp : p < 6) (hL : LV I lv P H F) (hW : LWS I lv tf tm tt te fl nl) (hV : ∀ k, 9 ≤ k → I 356 k = nI 0) {dd : Nat} {QQ : Option Value → mm_M → Prop} (hdd : 4 ≤ dd) : EV dd 118 [.ref 323, .int (nI p)] (nx, ns, SH w, I, J) QQ ↔ QQ (some (.int (m_di I tf tm tt te fl nl (I 359) H p))) (nx, ns, SH w, m_law I tf tm tt te fl nl 1 (m_vd (I 359) H p), J) := (c_diesOf hp hL hW hV).ev hdd
end M9
