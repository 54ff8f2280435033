/-! ===== Calls; the small machine is sound ===== -/
theorem mm_loc (z y : Nat) (h : z ≤ 20) : 8 + (z + 11) + (y + 400) ≤ y + 440 := by omega
section MMD
variable {p : Program} {l : Launch} {e : Env} {R : Room} {s : State} {m : MethodId} {args : Array Value} {below : List Frame} {meth : Method} {c : Code} {Z : State → Prop} {cc : ByteArray} {own mn : String} {nL : Nat} {D : va_G} {cs : Nat → ClassId} {b : Nat} {ad : Nat → Nat} {n0 s0 : Nat} {SW : State → Prop} {tb : Nat → Option mm_T} {C : mm_Cs} {d : Nat}
variable {pc : Nat} {L : mm_L} {st : List Value} {u u1 : mm_M} {v1 : Option Value}
theorem mm_gtb {t : mm_T} (h : mm_wd (t.2.2.2.2.2.2.2.getD 0 0) = some (.code t.1 t.2.1 t.2.2.1 t.2.2.2.1)) : GoodIn mm_tb (mm_ws t) := by
  intro w hw
  have hm : w ∈ mm_tg := by
    rcases List.mem_cons.mp hw with rfl | hw
    · exact mm_good h
    · exact hw
  obtain ⟨q1, q2⟩ := List.mem_filter.mp hm
  exact ⟨List.mem_filter.mpr ⟨q1, by rw [q2]; rfl⟩, (mm_tg_good w hm).2⟩
theorem mm_call (X : mm_C p s m args meth c cc own mn nL D cs b ad) (hN : mm_N s) (hsw : SW s) (hSW : mm_SWok l D cs b ad SW) (hOk : mm_Ok l D cs b ad SW tb d C) {y w9 : Nat} {t : mm_T} (ht : tb y = some t) (k1 : mm_cw t) (hck : mm_tck t = true) (hcc : mm_cck own t w9 (decode cc pc) = true) {na kd rc : Nat} (hna : na = t.2.2.2.2.2.2.1 + (if t.2.2.2.2.1 = 0 then 0 else 1)) (hkd : kd = t.2.2.2.2.1) (hrc : rc = t.2.2.2.2.2.1) (hmL : t.2.2.1 ≤ 20)
    (hRf : d + 11 ≤ R.frames ∧ 40 * d + 440 ≤ R.locals) (hroom : u1.1 - n0 ≤ R.cells ∧ u1.2.1 - s0 ≤ R.slots) (hm1 : u.1 ≤ u1.1) (hm2 : u.2.1 ≤ u1.2.1)
    (h1 : na ≤ st.length) (h2 : mm_rc kd rc (st.take na).reverse u.2.2.1 = true) (h3 : ((st.drop na).map fun x => x.category).sum ≤ 8) (h4 : C y (st.take na).reverse u v1 u1)
    (k : mm_G p l e R s m args below meth c Z nL D cs b ad n0 s0 (pc + 3) L (v1.toList ++ st.drop na) u1) : mm_G p l e R s m args below meth c Z nL D cs b ad n0 s0 pc L st u := by
  have hM := hOk y _ u v1 u1 t ht h4
  obtain ⟨hx, hb, hml, hown, hts, hK, had, hmn, hbs⟩ := X
  intro g1 g2 H locs ls hR hS hl
  generalize has : (st.take na).reverse = as at h2 h4 hM
  have hst : st = as.reverse ++ st.drop na := by rw [← has, List.reverse_reverse, List.take_append_drop]
  have hlen : as.length = na := by rw [← has, List.length_reverse, List.length_take]; omega
  generalize st.drop na = rest at hst h3 k
  subst hst
  unfold mm_tck at hck
  simp only [Bool.and_eq_true, decide_eq_true_eq] at hck
  obtain ⟨⟨⟨k2, k3⟩, ⟨k4, k5⟩, k6⟩, k7⟩ := hck
  have hPre : ∀ U : State, U.heap = H → s.WarmedH U.vm → va_Pc (as.map (mm_tr ad)) (mm_Wd D cs b ad SW u) (as.map (mm_tr ad)).toArray U := fun U hU hW => ⟨rfl, by rw [hU]; exact hR, va_K.moved hW.alike hK, mm_N_warm hW hN, hSW.1 s U H locs hsw hS hU hW hbs⟩
  have hbl := mm_blind (as := as) (u := u) hSW
  have hw3 : 2 * (F0 m pc ls ((as.reverse ++ rest).map (mm_tr ad))).monitorRoom + ((rest.map (mm_tr ad)).map fun x => x.category).sum ≤ 8 := by rw [mm_cats]; exact lv_room h3
  have hroom2 : u.1 - n0 + (u1.1 - u.1) ≤ R.cells ∧ u.2.1 - s0 + (u1.2.1 - u.2.1) ≤ R.slots := by omega
  have hRR : (mm_rm d (u1.1 - u.1) (u1.2.1 - u.2.1)).frames + 1 ≤ R.frames ∧ 8 + (t.2.2.1 + 11) + (mm_rm d (u1.1 - u.1) (u1.2.1 - u.2.1)).locals ≤ R.locals := by
    obtain ⟨q1, q2⟩ := hRf
    exact ⟨show d + 10 + 1 ≤ R.frames from q1, show 8 + (t.2.2.1 + 11) + (40 * d + 400) ≤ R.locals from Nat.le_trans (mm_loc _ _ hmL) q2⟩
  have hini := mm_wd_in (p := p) (args := args) ⟨hx, hts⟩ k2
  unfold mm_cck at hcc
  split at hcc
  · rename_i ix hdg
    simp only [Bool.and_eq_true, decide_eq_true_eq] at hcc
    rw [hcc.1] at k7
    simp only [decide_eq_true_eq] at k7
    rw [hcc.1] at hna
    have cb := callB_of (R := R) (mc := u1.1 - u.1) (ms := u1.2.1 - u.2.1) (rm := mm_rm d (u1.1 - u.1) (u1.2.1 - u.2.1)) t.2.2.2.2.2.2.1 hts (mm_gtb k1) rfl rfl rfl hini (mm_wd_in ⟨hx, hts⟩ hcc.2) ⟨k4, k5, k6⟩ hRR
    have hr := va_runS (l := l) (e := e) (below := below) (meth := meth) (H := H) (locs := locs) (cells := u.1 - n0) (slots := u.2.1 - s0) (As := as.map (mm_tr ad)) (rest := rest.map (mm_tr ad)) (g := F0 m pc ls ((as.reverse ++ rest).map (mm_tr ad))) ⟨hx, hb, hml, hown, hts⟩ hM ⟨cb, mm_wd_in ⟨hx, hts⟩ k7⟩ ⟨hbl, hPre⟩ rfl (by rw [List.length_map, hlen, hna]; rfl) hl.2.1 (by show List.map (mm_tr ad) (as.reverse ++ rest) = _; rw [List.map_append, List.map_reverse]) hw3 hdg hroom2
    exact mm_after g1 g2 hm1 hm2 hS hl hr k
  · rename_i ix hdg
    simp only [Bool.and_eq_true, decide_eq_true_eq] at hcc
    rw [hcc.1] at k7 hna hkd
    simp only [Bool.and_eq_true, decide_eq_true_eq] at k7
    obtain ⟨⟨k7, k8⟩, k9⟩ := k7
    split at k9
    · rename_i q hq
      simp only [decide_eq_true_eq] at k9
      subst hkd
      unfold mm_rc at h2
      split at h2
      · rename_i a As
        rw [if_pos rfl] at h2
        split at h2
        · rename_i ci ks hsh
          simp only [decide_eq_true_eq] at h2
          subst h2
          rw [← hrc] at hq
          obtain ⟨ha, r, hr1, -, cell, q1, q2, q3, -⟩ := mm_R_obj hR hsh
          have hcell : ∃ cellB : Cell, H[ad a]? = some cellB ∧ cellB.vm.isStatics = false ∧ s.vm.findClass t.1.cls = some cellB.cls := ⟨cell, q1, by rw [q3]; rfl, by rw [q2, ← k9]; exact (hK.1 ci q hq).2.1⟩
          have cb := callB_of (R := R) (mc := u1.1 - u.1) (ms := u1.2.1 - u.2.1) (rm := mm_rm d (u1.1 - u.1) (u1.2.1 - u.2.1)) t.2.2.2.2.2.2.1 hts (mm_gtb k1) rfl rfl rfl hini (mm_wd_in ⟨hx, hts⟩ hcc.2) ⟨k4, k5, k6⟩ hRR
          have hr := va_runV (l := l) (e := e) (below := below) (meth := meth) (H := H) (locs := locs) (cells := u.1 - n0) (slots := u.2.1 - s0) (C := t.1.cls) (b := ad a) (As := As.map (mm_tr ad)) (rest := rest.map (mm_tr ad)) (g := F0 m pc ls (((.ref a :: As).reverse ++ rest).map (mm_tr ad))) ⟨hx, hb, hml, hown, hts⟩ hM ⟨cb, mm_wd_in ⟨hx, hts⟩ k7, mm_wd_in ⟨hx, hts⟩ k8⟩ ⟨hbl, hcell, hPre⟩ rfl (by rw [List.length_map]; have : (As.length + 1) = _ := hlen; rw [hna] at this; simpa using this) hl.2.1 (by show List.map (mm_tr ad) ((.ref a :: As).reverse ++ rest) = _; rw [List.map_append, List.reverse_cons, List.map_append, List.map_reverse, List.append_assoc]; rfl) hw3 hdg hroom2
          exact mm_after g1 g2 hm1 hm2 hS hl hr k
        · cases h2
      · simp at h2
    · cases k9
  · rename_i ix hdg
    simp only [Bool.and_eq_true, decide_eq_true_eq, Bool.or_eq_true] at hcc
    rw [hcc.1] at k7 hna hkd
    simp only [Bool.and_eq_true, decide_eq_true_eq] at k7
    obtain ⟨⟨k7, k8⟩, k9⟩ := k7
    subst hkd
    unfold mm_rc at h2
    split at h2
    · rename_i a As
      rcases hcc.2 with hw | hw
      · have cb := callB_of (R := R) (mc := u1.1 - u.1) (ms := u1.2.1 - u.2.1) (rm := mm_rm d (u1.1 - u.1) (u1.2.1 - u.2.1)) t.2.2.2.2.2.2.1 hts (mm_gtb k1) rfl rfl rfl hini (mm_wd_in ⟨hx, hts⟩ hw) ⟨k4, k5, k6⟩ hRR
        rw [k9] at cb
        have hr := va_runI (l := l) (e := e) (below := below) (meth := meth) (H := H) (locs := locs) (cells := u.1 - n0) (slots := u.2.1 - s0) (b := ad a) (As := As.map (mm_tr ad)) (rest := rest.map (mm_tr ad)) (g := F0 m pc ls (((.ref a :: As).reverse ++ rest).map (mm_tr ad))) ⟨hx, hb, hml, hown, hts⟩ hM ⟨cb, k8, mm_wd_in ⟨hx, hts⟩ k7⟩ ⟨hbl, hPre⟩ rfl (by rw [List.length_map]; have : (As.length + 1) = _ := hlen; rw [hna] at this; simpa using this) hl.2.1 (by show List.map (mm_tr ad) ((.ref a :: As).reverse ++ rest) = _; rw [List.map_append, List.reverse_cons, List.map_append, List.map_reverse, List.append_assoc]; rfl) hw3 hdg hroom2
        exact mm_after g1 g2 hm1 hm2 hS hl hr k
      · have hnw := hN _ (mm_wd_mem hw) rfl
        have cb := va_cnB (R := R) (mc := u1.1 - u.1) (ms := u1.2.1 - u.2.1) (rm := mm_rm d (u1.1 - u.1) (u1.2.1 - u.2.1)) (own := own) (index := ix) (host := "FenceSides") t.2.2.2.2.2.2.1 hts (mm_gtb k1) rfl rfl rfl hnw hini ⟨k4, k5, k6⟩ hRR
        rw [k9] at cb
        have hr := va_runIN (l := l) (e := e) (below := below) (meth := meth) (H := H) (locs := locs) (cells := u.1 - n0) (slots := u.2.1 - s0) (b := ad a) (As := As.map (mm_tr ad)) (rest := rest.map (mm_tr ad)) (g := F0 m pc ls (((.ref a :: As).reverse ++ rest).map (mm_tr ad))) ⟨hx, hb, hml, hown, hts⟩ hM ⟨cb, k8, mm_wd_in ⟨hx, hts⟩ k7⟩ ⟨hbl, hPre⟩ rfl (by rw [List.length_map]; have : (As.length + 1) = _ := hlen; rw [hna] at this; simpa using this) hl.2.1 (by show List.map (mm_tr ad) ((.ref a :: As).reverse ++ rest) = _; rw [List.map_append, List.reverse_cons, List.map_append, List.map_reverse, List.append_assoc]; rfl) hw3 hdg hroom2
        exact mm_after g1 g2 hm1 hm2 hS hl hr k
    · simp at h2
  · cases hcc
end MMD
