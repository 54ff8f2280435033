/-! ===== More steps ===== -/
theorem mm_P1 {D : va_G} {a : Nat} {cA : ClassId} {n : Nat} {f : Nat → Int32} {H : Heap} (h : H[a]? = some (arrV cA n (fun j => .int (f j)))) : va_P D vwCl [(a, .inl (cA, n, .inl f))] H := by
  intro k q hq
  have hz : k < 1 := (List.getElem?_eq_some_iff.mp hq).1
  rw [show k = 0 by omega] at hq
  cases hq
  exact h
theorem mm_zone {D : va_G} {cs : Nat → ClassId} {b : Nat} {ad : Nat → Nat} {u : mm_M} {H : Heap} {a : Nat} (had : ∀ q, q < 1000000 → ad q = b + q) (hR : mm_R D cs b ad u H) (ha : a < u.1) : b ≤ ad a := by
  have := hR.2.1
  rw [had a (by omega)]
  omega
section MMS2
variable {p : Program} {l : Launch} {e : Env} {R : Room} {s : State} {m : MethodId} {args : Array Value} {below : List Frame} {meth : Method} {c : Code} {Z : State → Prop} {cc : ByteArray} {own mn : String} {nL : Nat} {D : va_G} {cs : Nat → ClassId} {b : Nat} {ad : Nat → Nat} {n0 s0 : Nat}
variable {pc len : Nat} {L L' : mm_L} {st st' : List Value} {u u' : mm_M} {x1 x2 : Nat} {x3 : Int}
theorem mm_k1 (X : mm_C p s m args meth c cc own mn nL D cs b ad) (hd : mm_one own mn (1, x1, x2, x3) (decode cc pc) = some len) (hs : mm_stp (1, x1, x2, x3) L st u = some (L', st', u')) (k : mm_G p l e R s m args below meth c Z nL D cs b ad n0 s0 (pc + len) L' st' u') : mm_G p l e R s m args below meth c Z nL D cs b ad n0 s0 pc L st u := by
  obtain ⟨hx, hb, hml, hown, hts, hK, had, hmn, hbs⟩ := X
  intro h1 h2 H locs ls hR hS hl
  replace hs : ms_1 x1 x2 x3 L st u = some (L', st', u') := hs
  unfold ms_1 at hs
  split at hs
  · rename_i x hL
    cases hs
    replace hd := id hd
    change mc_1 x1 (decode cc pc) = some len at hd
    unfold mc_1 at hd
    split at hd
    · rename_i k2 hdg
      split at hd
      · rename_i e
        cases hd
        exact lv_lload_n hx hb hdg e (mm_lv_at hl hL) (k h1 h2 H locs ls hR hS hl)
      · cases hd
    · rename_i k2 hdg
      split at hd
      · rename_i e
        cases hd
        subst e
        exact lv_lload hx hb hdg (mm_lv_at hl hL) (k h1 h2 H locs ls hR hS hl)
      · cases hd
    · cases hd
  · cases hs
theorem mm_k2 (X : mm_C p s m args meth c cc own mn nL D cs b ad) (hd : mm_one own mn (2, x1, x2, x3) (decode cc pc) = some len) (hs : mm_stp (2, x1, x2, x3) L st u = some (L', st', u')) (k : mm_G p l e R s m args below meth c Z nL D cs b ad n0 s0 (pc + len) L' st' u') : mm_G p l e R s m args below meth c Z nL D cs b ad n0 s0 pc L st u := by
  obtain ⟨hx, hb, hml, hown, hts, hK, had, hmn, hbs⟩ := X
  intro h1 h2 H locs ls hR hS hl
  replace hs : ms_2 x1 x2 x3 L st u = some (L', st', u') := hs
  unfold ms_2 at hs
  split at hs
  · rename_i x hL
    cases hs
    replace hd := id hd
    change mc_2 x1 (decode cc pc) = some len at hd
    unfold mc_2 at hd
    split at hd
    · rename_i k2 hdg
      split at hd
      · rename_i e
        cases hd
        exact lv_aload_n hx hb hdg e (mm_lv_at hl hL) (k h1 h2 H locs ls hR hS hl)
      · cases hd
    · rename_i k2 hdg
      split at hd
      · rename_i e
        cases hd
        subst e
        exact lv_aload hx hb hdg (mm_lv_at hl hL) (k h1 h2 H locs ls hR hS hl)
      · cases hd
    · cases hd
  · cases hs
theorem mm_k4 (X : mm_C p s m args meth c cc own mn nL D cs b ad) (hd : mm_one own mn (4, x1, x2, x3) (decode cc pc) = some len) (hs : mm_stp (4, x1, x2, x3) L st u = some (L', st', u')) (k : mm_G p l e R s m args below meth c Z nL D cs b ad n0 s0 (pc + len) L' st' u') : mm_G p l e R s m args below meth c Z nL D cs b ad n0 s0 pc L st u := by
  obtain ⟨hx, hb, hml, hown, hts, hK, had, hmn, hbs⟩ := X
  intro h1 h2 H locs ls hR hS hl
  replace hs : ms_4 x1 x2 x3 L st u = some (L', st', u') := hs
  unfold ms_4 at hs
  split at hs
  · rename_i x st2
    split at hs
    · rename_i hlt
      cases hs
      replace hd := id hd
      change mc_4 x1 (decode cc pc) = some len at hd
      unfold mc_4 at hd
      split at hd
      · rename_i k2 hdg
        split at hd
        · rename_i e
          cases hd
          exact lv_lstore_n hx hb hdg e hl.2 (by rw [← hl.1]; exact hlt) rfl (fun ls' h' => k h1 h2 H locs ls' hR hS (mm_sto2_lv hl h'))
        · cases hd
      · rename_i k2 hdg
        split at hd
        · rename_i e
          cases hd
          subst e
          exact lv_lstore hx hb hdg hl.2 (by rw [← hl.1]; exact hlt) rfl (fun ls' h' => k h1 h2 H locs ls' hR hS (mm_sto2_lv hl h'))
        · cases hd
      · cases hd
    · cases hs
  · cases hs
theorem mm_k5 (X : mm_C p s m args meth c cc own mn nL D cs b ad) (hd : mm_one own mn (5, x1, x2, x3) (decode cc pc) = some len) (hs : mm_stp (5, x1, x2, x3) L st u = some (L', st', u')) (k : mm_G p l e R s m args below meth c Z nL D cs b ad n0 s0 (pc + len) L' st' u') : mm_G p l e R s m args below meth c Z nL D cs b ad n0 s0 pc L st u := by
  obtain ⟨hx, hb, hml, hown, hts, hK, had, hmn, hbs⟩ := X
  intro h1 h2 H locs ls hR hS hl
  replace hs : ms_5 x1 x2 x3 L st u = some (L', st', u') := hs
  unfold ms_5 at hs
  split at hs
  · rename_i x st2
    split at hs
    · rename_i hlt
      cases hs
      replace hd := id hd
      change mc_5 x1 (decode cc pc) = some len at hd
      unfold mc_5 at hd
      split at hd
      · rename_i k2 hdg
        split at hd
        · rename_i e
          cases hd
          exact lv_astore_n hx hb hdg e hl.2 (by rw [← hl.1]; exact hlt) rfl (fun ls' h' => k h1 h2 H locs ls' hR hS (mm_sto1_lv hl h'))
        · cases hd
      · rename_i k2 hdg
        split at hd
        · rename_i e
          cases hd
          subst e
          exact lv_astore hx hb hdg hl.2 (by rw [← hl.1]; exact hlt) rfl (fun ls' h' => k h1 h2 H locs ls' hR hS (mm_sto1_lv hl h'))
        · cases hd
      · cases hd
    · cases hs
  · cases hs
theorem mm_k8 (X : mm_C p s m args meth c cc own mn nL D cs b ad) (hd : mm_one own mn (8, x1, x2, x3) (decode cc pc) = some len) (hs : mm_stp (8, x1, x2, x3) L st u = some (L', st', u')) (k : mm_G p l e R s m args below meth c Z nL D cs b ad n0 s0 (pc + len) L' st' u') : mm_G p l e R s m args below meth c Z nL D cs b ad n0 s0 pc L st u := by
  obtain ⟨hx, hb, hml, hown, hts, hK, had, hmn, hbs⟩ := X
  intro h1 h2 H locs ls hR hS hl
  replace hs : ms_8 x1 x2 x3 L st u = some (L', st', u') := hs
  unfold ms_8 at hs
  cases hs
  have kk := k h1 h2 H locs ls hR hS hl
  replace hd := id hd
  change mc_8 own x1 x3 (decode cc pc) = some len at hd
  unfold mc_8 at hd
  split at hd
  · rename_i z hdg
    split at hd
    · rename_i e
      cases hd
      exact lv_lconst hx hb hdg e kk
    · cases hd
  · rename_i z hdg
    split at hd
    · rename_i e
      cases hd
      exact lv_ldc2 hx hb hown (mm_wd_in ⟨hx, hts⟩ e) hdg kk
    · cases hd
  · cases hd
theorem mm_k10 (X : mm_C p s m args meth c cc own mn nL D cs b ad) (hd : mm_one own mn (10, x1, x2, x3) (decode cc pc) = some len) (hs : mm_stp (10, x1, x2, x3) L st u = some (L', st', u')) (k : mm_G p l e R s m args below meth c Z nL D cs b ad n0 s0 (pc + len) L' st' u') : mm_G p l e R s m args below meth c Z nL D cs b ad n0 s0 pc L st u := by
  obtain ⟨hx, hb, hml, hown, hts, hK, had, hmn, hbs⟩ := X
  intro h1 h2 H locs ls hR hS hl
  replace hs : ms_10 x1 x2 x3 L st u = some (L', st', u') := hs
  unfold ms_10 at hs
  obtain ⟨hdg, rfl⟩ := mc_s_eq hd
  split at hs
  · split at hs
    · rename_i hc
      cases hs
      exact lv_pop hx hb hdg (by rw [mm_tr_cat]; exact hc) (k h1 h2 H locs ls hR hS hl)
    · cases hs
  · cases hs
theorem mm_k11 (X : mm_C p s m args meth c cc own mn nL D cs b ad) (hd : mm_one own mn (11, x1, x2, x3) (decode cc pc) = some len) (hs : mm_stp (11, x1, x2, x3) L st u = some (L', st', u')) (k : mm_G p l e R s m args below meth c Z nL D cs b ad n0 s0 (pc + len) L' st' u') : mm_G p l e R s m args below meth c Z nL D cs b ad n0 s0 pc L st u := by
  obtain ⟨hx, hb, hml, hown, hts, hK, had, hmn, hbs⟩ := X
  intro h1 h2 H locs ls hR hS hl
  replace hs : ms_11 x1 x2 x3 L st u = some (L', st', u') := hs
  unfold ms_11 at hs
  obtain ⟨hdg, rfl⟩ := mc_s_eq hd
  split at hs
  · split at hs
    · rename_i hc
      cases hs
      exact lv_dup hx hb hdg (by rw [mm_tr_cat]; exact hc) (k h1 h2 H locs ls hR hS hl)
    · cases hs
  · cases hs
theorem mm_k12 (X : mm_C p s m args meth c cc own mn nL D cs b ad) (hd : mm_one own mn (12, x1, x2, x3) (decode cc pc) = some len) (hs : mm_stp (12, x1, x2, x3) L st u = some (L', st', u')) (k : mm_G p l e R s m args below meth c Z nL D cs b ad n0 s0 (pc + len) L' st' u') : mm_G p l e R s m args below meth c Z nL D cs b ad n0 s0 pc L st u := by
  obtain ⟨hx, hb, hml, hown, hts, hK, had, hmn, hbs⟩ := X
  intro h1 h2 H locs ls hR hS hl
  replace hs : ms_12 x1 x2 x3 L st u = some (L', st', u') := hs
  unfold ms_12 at hs
  obtain ⟨hdg, rfl⟩ := mc_s_eq hd
  split at hs
  · split at hs
    · rename_i hc
      cases hs
      exact lv_dup2_11 hx hb hdg (by rw [mm_tr_cat]; exact hc.1) (by rw [mm_tr_cat]; exact hc.2) (k h1 h2 H locs ls hR hS hl)
    · cases hs
  · cases hs
theorem mm_k15 (X : mm_C p s m args meth c cc own mn nL D cs b ad) (hd : mm_one own mn (15, x1, x2, x3) (decode cc pc) = some len) (hs : mm_stp (15, x1, x2, x3) L st u = some (L', st', u')) (k : mm_G p l e R s m args below meth c Z nL D cs b ad n0 s0 (pc + len) L' st' u') : mm_G p l e R s m args below meth c Z nL D cs b ad n0 s0 pc L st u := by
  obtain ⟨hx, hb, hml, hown, hts, hK, had, hmn, hbs⟩ := X
  intro h1 h2 H locs ls hR hS hl
  replace hs : ms_15 x1 x2 x3 L st u = some (L', st', u') := hs
  unfold ms_15 at hs
  obtain ⟨hdg, rfl⟩ := mc_s_eq hd
  split at hs
  · split at hs
    · cases hs
    · rename_i hne
      cases hs
      exact lv_irem hx hb hdg hne (k h1 h2 H locs ls hR hS hl)
  · cases hs
theorem mm_k16 (X : mm_C p s m args meth c cc own mn nL D cs b ad) (hd : mm_one own mn (16, x1, x2, x3) (decode cc pc) = some len) (hs : mm_stp (16, x1, x2, x3) L st u = some (L', st', u')) (k : mm_G p l e R s m args below meth c Z nL D cs b ad n0 s0 (pc + len) L' st' u') : mm_G p l e R s m args below meth c Z nL D cs b ad n0 s0 pc L st u := by
  obtain ⟨hx, hb, hml, hown, hts, hK, had, hmn, hbs⟩ := X
  intro h1 h2 H locs ls hR hS hl
  replace hs : ms_16 x1 x2 x3 L st u = some (L', st', u') := hs
  unfold ms_16 at hs
  split at hs
  · cases hs
    have kk := k h1 h2 H locs ls hR hS hl
    replace hd := id hd
    change mc_16 x1 (decode cc pc) = some len at hd
    unfold mc_16 at hd
    split at hd
    all_goals first | (cases hd; done) | skip
    all_goals (rename_i hdg; split at hd; rotate_left; (cases hd); rename_i e; cases hd; subst e)
    · exact lv_ladd hx hb hdg kk
    · exact lv_lsub hx hb hdg kk
    · exact lv_lmul hx hb hdg kk
    · exact lv_lor hx hb hdg kk
  · cases hs
theorem mm_k17 (X : mm_C p s m args meth c cc own mn nL D cs b ad) (hd : mm_one own mn (17, x1, x2, x3) (decode cc pc) = some len) (hs : mm_stp (17, x1, x2, x3) L st u = some (L', st', u')) (k : mm_G p l e R s m args below meth c Z nL D cs b ad n0 s0 (pc + len) L' st' u') : mm_G p l e R s m args below meth c Z nL D cs b ad n0 s0 pc L st u := by
  obtain ⟨hx, hb, hml, hown, hts, hK, had, hmn, hbs⟩ := X
  intro h1 h2 H locs ls hR hS hl
  replace hs : ms_17 x1 x2 x3 L st u = some (L', st', u') := hs
  unfold ms_17 at hs
  obtain ⟨hdg, rfl⟩ := mc_s_eq hd
  split at hs
  · cases hs
    exact lv_lshl hx hb hdg rfl (k h1 h2 H locs ls hR hS hl)
  · cases hs
theorem mm_k19 (X : mm_C p s m args meth c cc own mn nL D cs b ad) (hd : mm_one own mn (19, x1, x2, x3) (decode cc pc) = some len) (hs : mm_stp (19, x1, x2, x3) L st u = some (L', st', u')) (k : mm_G p l e R s m args below meth c Z nL D cs b ad n0 s0 (pc + len) L' st' u') : mm_G p l e R s m args below meth c Z nL D cs b ad n0 s0 pc L st u := by
  obtain ⟨hx, hb, hml, hown, hts, hK, had, hmn, hbs⟩ := X
  intro h1 h2 H locs ls hR hS hl
  replace hs : ms_19 x1 x2 x3 L st u = some (L', st', u') := hs
  unfold ms_19 at hs
  obtain ⟨hdg, rfl⟩ := mc_s_eq hd
  split at hs
  · cases hs
    exact lv_i2l hx hb hdg rfl (k h1 h2 H locs ls hR hS hl)
  · cases hs
theorem mm_k20 (X : mm_C p s m args meth c cc own mn nL D cs b ad) (hd : mm_one own mn (20, x1, x2, x3) (decode cc pc) = some len) (hs : mm_stp (20, x1, x2, x3) L st u = some (L', st', u')) (k : mm_G p l e R s m args below meth c Z nL D cs b ad n0 s0 (pc + len) L' st' u') : mm_G p l e R s m args below meth c Z nL D cs b ad n0 s0 pc L st u := by
  obtain ⟨hx, hb, hml, hown, hts, hK, had, hmn, hbs⟩ := X
  intro h1 h2 H locs ls hR hS hl
  replace hs : ms_20 x1 x2 x3 L st u = some (L', st', u') := hs
  unfold ms_20 at hs
  obtain ⟨hdg, rfl⟩ := mc_s_eq hd
  split at hs
  · cases hs
    exact lv_l2i hx hb hdg rfl (k h1 h2 H locs ls hR hS hl)
  · cases hs
theorem mm_k21 (X : mm_C p s m args meth c cc own mn nL D cs b ad) (hd : mm_one own mn (21, x1, x2, x3) (decode cc pc) = some len) (hs : mm_stp (21, x1, x2, x3) L st u = some (L', st', u')) (k : mm_G p l e R s m args below meth c Z nL D cs b ad n0 s0 (pc + len) L' st' u') : mm_G p l e R s m args below meth c Z nL D cs b ad n0 s0 pc L st u := by
  obtain ⟨hx, hb, hml, hown, hts, hK, had, hmn, hbs⟩ := X
  intro h1 h2 H locs ls hR hS hl
  replace hs : ms_21 x1 x2 x3 L st u = some (L', st', u') := hs
  unfold ms_21 at hs
  obtain ⟨hdg, rfl⟩ := mc_s_eq hd
  split at hs
  · cases hs
    exact lv_i2b hx hb hdg rfl (k h1 h2 H locs ls hR hS hl)
  · cases hs
theorem mm_k22 (X : mm_C p s m args meth c cc own mn nL D cs b ad) (hd : mm_one own mn (22, x1, x2, x3) (decode cc pc) = some len) (hs : mm_stp (22, x1, x2, x3) L st u = some (L', st', u')) (k : mm_G p l e R s m args below meth c Z nL D cs b ad n0 s0 (pc + len) L' st' u') : mm_G p l e R s m args below meth c Z nL D cs b ad n0 s0 pc L st u := by
  obtain ⟨hx, hb, hml, hown, hts, hK, had, hmn, hbs⟩ := X
  intro h1 h2 H locs ls hR hS hl
  replace hs : ms_22 x1 x2 x3 L st u = some (L', st', u') := hs
  unfold ms_22 at hs
  obtain ⟨hdg, rfl⟩ := mc_s_eq hd
  split at hs
  · cases hs
    exact lv_i2c hx hb hdg rfl (k h1 h2 H locs ls hR hS hl)
  · cases hs
theorem mm_k27 (X : mm_C p s m args meth c cc own mn nL D cs b ad) (hd : mm_one own mn (27, x1, x2, x3) (decode cc pc) = some len) (hs : mm_stp (27, x1, x2, x3) L st u = some (L', st', u')) (k : mm_G p l e R s m args below meth c Z nL D cs b ad n0 s0 (pc + len) L' st' u') : mm_G p l e R s m args below meth c Z nL D cs b ad n0 s0 pc L st u := by
  obtain ⟨hx, hb, hml, hown, hts, hK, had, hmn, hbs⟩ := X
  intro h1 h2 H locs ls hR hS hl
  replace hs : ms_27 x1 x2 x3 L st u = some (L', st', u') := hs
  unfold ms_27 at hs
  obtain ⟨hdg, rfl⟩ := mc_s_eq hd
  split at hs
  · rename_i j a st2
    split at hs
    · rename_i t n hsh
      split at hs
      · rename_i hc
        obtain ⟨rfl, hj⟩ := hc
        cases hs
        have hj := mm_in_iff.mp hj
        have hlt : j.toNatClampNeg < n := Nat.not_le.mp fun q => hj (Or.inr q)
        obtain ⟨-, hcell⟩ := mm_R_arr hR hsh (by omega)
        exact W.iald hx hb hcell ((hK.2 0 _ rfl).1 n _) (fun q => by cases q) (by rw [arrV_size]; exact hj) (by rw [arrV_read _ _ hlt]; rfl) rfl rfl hdg (k h1 h2 H locs ls hR hS hl)
      · cases hs
    · cases hs
  · cases hs
theorem mm_k31 (X : mm_C p s m args meth c cc own mn nL D cs b ad) (hd : mm_one own mn (31, x1, x2, x3) (decode cc pc) = some len) (hs : mm_stp (31, x1, x2, x3) L st u = some (L', st', u')) (k : mm_G p l e R s m args below meth c Z nL D cs b ad n0 s0 (pc + len) L' st' u') : mm_G p l e R s m args below meth c Z nL D cs b ad n0 s0 pc L st u := by
  obtain ⟨hx, hb, hml, hown, hts, hK, had, hmn, hbs⟩ := X
  intro h1 h2 H locs ls hR hS hl
  replace hs : ms_31 x1 x2 x3 L st u = some (L', st', u') := hs
  unfold ms_31 at hs
  obtain ⟨hdg, rfl⟩ := mc_s_eq hd
  split at hs
  · rename_i j a st2
    split at hs
    · rename_i t n hsh
      split at hs
      · rename_i hc
        obtain ⟨rfl, hj⟩ := hc
        cases hs
        have hj := mm_in_iff.mp hj
        have hlt : j.toNatClampNeg < n := Nat.not_le.mp fun q => hj (Or.inr q)
        obtain ⟨-, hcell⟩ := mm_R_arrL hR hsh
        exact W.lald hx hb hcell ((hK.2 3 _ rfl).1 n _) (fun q => by cases q) (by rw [arrV_size]; exact hj) (by rw [arrV_read _ _ hlt]; rfl) rfl rfl hdg (k h1 h2 H locs ls hR hS hl)
      · cases hs
    · cases hs
  · cases hs
theorem mm_k29 (X : mm_C p s m args meth c cc own mn nL D cs b ad) (hd : mm_one own mn (29, x1, x2, x3) (decode cc pc) = some len) (hs : mm_stp (29, x1, x2, x3) L st u = some (L', st', u')) (k : mm_G p l e R s m args below meth c Z nL D cs b ad n0 s0 (pc + len) L' st' u') : mm_G p l e R s m args below meth c Z nL D cs b ad n0 s0 pc L st u := by
  obtain ⟨hx, hb, hml, hown, hts, hK, had, hmn, hbs⟩ := X
  intro h1 h2 H locs ls hR hS hl
  replace hs : ms_29 x1 x2 x3 L st u = some (L', st', u') := hs
  unfold ms_29 at hs
  obtain ⟨hdg, rfl⟩ := mc_s_eq hd
  split at hs
  · rename_i j a st2
    split at hs
    · rename_i t n hsh
      split at hs
      · rename_i hc
        obtain ⟨ht, hj⟩ := hc
        cases hs
        have hj := mm_in_iff.mp hj
        have hlt : j.toNatClampNeg < n := Nat.not_le.mp fun q => hj (Or.inr q)
        obtain ⟨-, hcell⟩ := mm_R_arr hR hsh (by omega)
        rcases ht with rfl | rfl
        · exact va_bald (D := D) (cl := vwCl) (tys := mm_tys cs) (ws := [(ad a, .inl (cs 1, n, .inl (u.2.2.2.1 a)))]) hx hb hK (mm_P1 hcell) 0 1 rfl rfl hj hdg (k h1 h2 H locs ls hR hS hl)
        · exact va_zald (D := D) (cl := vwCl) (tys := mm_tys cs) (ws := [(ad a, .inl (cs 2, n, .inl (u.2.2.2.1 a)))]) hx hb hK (mm_P1 hcell) 0 2 rfl rfl hj hdg (k h1 h2 H locs ls hR hS hl)
      · cases hs
    · cases hs
  · cases hs
theorem mm_k28 (X : mm_C p s m args meth c cc own mn nL D cs b ad) (hd : mm_one own mn (28, x1, x2, x3) (decode cc pc) = some len) (hs : mm_stp (28, x1, x2, x3) L st u = some (L', st', u')) (k : mm_G p l e R s m args below meth c Z nL D cs b ad n0 s0 (pc + len) L' st' u') : mm_G p l e R s m args below meth c Z nL D cs b ad n0 s0 pc L st u := by
  obtain ⟨hx, hb, hml, hown, hts, hK, had, hmn, hbs⟩ := X
  intro h1 h2 H locs ls hR hS hl
  replace hs : ms_28 x1 x2 x3 L st u = some (L', st', u') := hs
  unfold ms_28 at hs
  obtain ⟨hdg, rfl⟩ := mc_s_eq hd
  split at hs
  · rename_i x j a st2
    split at hs
    · rename_i t n hsh
      split at hs
      · rename_i hc
        obtain ⟨rfl, hj⟩ := hc
        cases hs
        have hj := mm_in_iff.mp hj
        obtain ⟨ha, hcell⟩ := mm_R_arr hR hsh (by omega)
        refine W.iast hx hb hcell ((hK.2 0 _ rfl).1 n _) (fun q => by cases q) (by rw [arrV_size]; exact hj) rfl rfl hdg fun H1 e z oq => ?_
        refine k h1 h2 H1 _ ls (mm_R_set had hR ha rfl (fun q hq => ⟨rfl, by funext z; simp [mm_up2, hq], rfl⟩) z oq ?_) (hS.put z oq (mm_zone had hR ha)) hl
        unfold mm_at
        dsimp only
        rw [hsh]
        intro _
        refine ⟨ha, ?_⟩
        rw [e, arrV_store]
        simp only [if_neg (show ¬ (0 : Nat) = 3 by omega)]
        congr 2
        funext q
        simp only [updV, mm_up2]
        by_cases hq : q = j.toNatClampNeg
        · simp [hq]
        · simp [hq]
      · cases hs
    · cases hs
  · cases hs
theorem mm_k32 (X : mm_C p s m args meth c cc own mn nL D cs b ad) (hd : mm_one own mn (32, x1, x2, x3) (decode cc pc) = some len) (hs : mm_stp (32, x1, x2, x3) L st u = some (L', st', u')) (k : mm_G p l e R s m args below meth c Z nL D cs b ad n0 s0 (pc + len) L' st' u') : mm_G p l e R s m args below meth c Z nL D cs b ad n0 s0 pc L st u := by
  obtain ⟨hx, hb, hml, hown, hts, hK, had, hmn, hbs⟩ := X
  intro h1 h2 H locs ls hR hS hl
  replace hs : ms_32 x1 x2 x3 L st u = some (L', st', u') := hs
  unfold ms_32 at hs
  obtain ⟨hdg, rfl⟩ := mc_s_eq hd
  split at hs
  · rename_i x j a st2
    split at hs
    · rename_i t n hsh
      split at hs
      · rename_i hc
        obtain ⟨rfl, hj⟩ := hc
        cases hs
        have hj := mm_in_iff.mp hj
        obtain ⟨ha, hcell⟩ := mm_R_arrL hR hsh
        refine W.last hx hb hcell ((hK.2 3 _ rfl).1 n _) (fun q => by cases q) (by rw [arrV_size]; exact hj) rfl rfl hdg fun H1 e z oq => ?_
        refine k h1 h2 H1 _ ls (mm_R_set had hR ha rfl (fun q hq => ⟨rfl, rfl, by funext z; simp [mm_up2, hq]⟩) z oq ?_) (hS.put z oq (mm_zone had hR ha)) hl
        unfold mm_at
        dsimp only
        rw [hsh]
        intro _
        refine ⟨ha, ?_⟩
        rw [e, arrV_store]
        simp only [↓reduceIte]
        congr 2
        funext q
        simp only [updV, mm_up2]
        by_cases hq : q = j.toNatClampNeg
        · simp [hq]
        · simp [hq]
      · cases hs
    · cases hs
  · cases hs
theorem mm_k30 (X : mm_C p s m args meth c cc own mn nL D cs b ad) (hd : mm_one own mn (30, x1, x2, x3) (decode cc pc) = some len) (hs : mm_stp (30, x1, x2, x3) L st u = some (L', st', u')) (k : mm_G p l e R s m args below meth c Z nL D cs b ad n0 s0 (pc + len) L' st' u') : mm_G p l e R s m args below meth c Z nL D cs b ad n0 s0 pc L st u := by
  obtain ⟨hx, hb, hml, hown, hts, hK, had, hmn, hbs⟩ := X
  intro h1 h2 H locs ls hR hS hl
  replace hs : ms_30 x1 x2 x3 L st u = some (L', st', u') := hs
  unfold ms_30 at hs
  obtain ⟨hdg, rfl⟩ := mc_s_eq hd
  split at hs
  · rename_i x j a st2
    split at hs
    · rename_i t n hsh
      split at hs
      · rename_i hc
        obtain ⟨ht, hj⟩ := hc
        cases hs
        have hj := mm_in_iff.mp hj
        obtain ⟨ha, hcell⟩ := mm_R_arr hR hsh (by omega)
        rcases ht with rfl | rfl
        · refine W.bast hx hb hcell ((hK.2 1 _ rfl).1 n _) (fun q => by cases q) (by rw [arrV_size]; exact hj) rfl rfl hdg fun H1 e z oq => ?_
          refine k h1 h2 H1 _ ls (mm_R_set had hR ha rfl (fun q hq => ⟨rfl, by funext z; simp [mm_up2, hq], rfl⟩) z oq ?_) (hS.put z oq (mm_zone had hR ha)) hl
          unfold mm_at
          dsimp only
          rw [hsh]
          intro _
          refine ⟨ha, ?_⟩
          rw [e, arrV_store]
          simp only [if_neg (show ¬ (1 : Nat) = 3 by omega)]
          congr 2
          funext q
          simp only [updV, mm_up2]
          by_cases hq : q = j.toNatClampNeg
          · simp [hq, vp_nar, narrow]
          · simp [hq]
        · refine W.zast hx hb hcell ((hK.2 2 _ rfl).1 n _) (fun q => by cases q) (by rw [arrV_size]; exact hj) rfl rfl hdg fun H1 e z oq => ?_
          refine k h1 h2 H1 _ ls (mm_R_set had hR ha rfl (fun q hq => ⟨rfl, by funext z; simp [mm_up2, hq], rfl⟩) z oq ?_) (hS.put z oq (mm_zone had hR ha)) hl
          unfold mm_at
          dsimp only
          rw [hsh]
          intro _
          refine ⟨ha, ?_⟩
          rw [e, arrV_store]
          simp only [if_neg (show ¬ (2 : Nat) = 3 by omega)]
          congr 2
          funext q
          simp only [updV, mm_up2]
          by_cases hq : q = j.toNatClampNeg
          · simp [hq, vp_nar, narrow]
          · simp [hq]
      · cases hs
    · cases hs
  · cases hs
theorem mm_k33 (X : mm_C p s m args meth c cc own mn nL D cs b ad) (hd : mm_one own mn (33, x1, x2, x3) (decode cc pc) = some len) (hs : mm_stp (33, x1, x2, x3) L st u = some (L', st', u')) (k : mm_G p l e R s m args below meth c Z nL D cs b ad n0 s0 (pc + len) L' st' u') : mm_G p l e R s m args below meth c Z nL D cs b ad n0 s0 pc L st u := by
  obtain ⟨hx, hb, hml, hown, hts, hK, had, hmn, hbs⟩ := X
  intro h1 h2 H locs ls hR hS hl
  replace hs : ms_33 x1 x2 x3 L st u = some (L', st', u') := hs
  unfold ms_33 at hs
  obtain ⟨hdg, rfl⟩ := mc_s_eq hd
  split at hs
  · rename_i j a st2
    split at hs
    · rename_i n f hsh
      split at hs
      · rename_i hj
        split at hs
        · rename_i r hr
          cases hs
          have hj := mm_in_iff.mp hj
          have hlt : j.toNatClampNeg < n := Nat.not_le.mp fun q => hj (Or.inr q)
          obtain ⟨-, hcell⟩ := mm_R_rows hR hsh
          exact W.aald (v := .ref (ad r)) (ty := .object "FenceSides$State") hx hb hcell ((hK.2 4 _ rfl).1 n _) rfl (fun q => by cases q) (by rw [arrV_size]; exact hj) (by rw [arrV_read _ _ hlt, hr]; rfl) rfl rfl hdg (k h1 h2 H locs ls hR hS hl)
        · cases hs
      · cases hs
    · cases hs
  · cases hs
theorem mm_k34 (X : mm_C p s m args meth c cc own mn nL D cs b ad) (hd : mm_one own mn (34, x1, x2, x3) (decode cc pc) = some len) (hs : mm_stp (34, x1, x2, x3) L st u = some (L', st', u')) (k : mm_G p l e R s m args below meth c Z nL D cs b ad n0 s0 (pc + len) L' st' u') : mm_G p l e R s m args below meth c Z nL D cs b ad n0 s0 pc L st u := by
  obtain ⟨hx, hb, hml, hown, hts, hK, had, hmn, hbs⟩ := X
  intro h1 h2 H locs ls hR hS hl
  replace hs : ms_34 x1 x2 x3 L st u = some (L', st', u') := hs
  unfold ms_34 at hs
  obtain ⟨hdg, rfl⟩ := mc_s_eq hd
  split at hs
  · rename_i r j a st2
    split at hs
    · rename_i n f hsh
      split at hs
      · rename_i ci ks hsh2
        split at hs
        · rename_i hc
          obtain ⟨rfl, hj⟩ := hc
          cases hs
          have hj := mm_in_iff.mp hj
          have hlt : j.toNatClampNeg < n := Nat.not_le.mp fun q => hj (Or.inr q)
          have h0 : ¬ j < 0 := fun q => hj (Or.inl q)
          obtain ⟨ha, hcell⟩ := mm_R_rows hR hsh
          obtain ⟨-, r2, g0, -, cellV, g1, g2, g3, -⟩ := mm_R_obj hR hsh2
          cases g0
          have hcls := (hK.1 7 _ rfl).2
          obtain ⟨kA, comp, k1, k2, k3, -⟩ := (hK.2 4 _ rfl).2
          have hcomp : comp = D.1 7 := Option.some.inj (k3.symm.trans hcls.1)
          subst hcomp
          obtain ⟨kC, hkC, -⟩ := hcls.2
          refine W.aast hx hb hcell (fun q h => by cases h) (fun h => by cases h) k1 k2 rfl hkC ⟨h0, by rw [arrV_size]; exact hlt⟩ g1 (fun q h => by rw [g3] at h; cases h) (by rw [g2]; exact hkC) (by rw [g2]; exact va_assign hcls) rfl rfl hdg fun H1 e z oq => ?_
          refine k h1 h2 H1 _ ls (mm_R_set had hR ha rfl (fun q hq => ⟨by simp [mm_up, hq], rfl, rfl⟩) z oq ?_) (hS.put z oq (mm_zone had hR ha)) hl
          unfold mm_at
          simp only [mm_up, if_pos]
          refine ⟨ha, ?_⟩
          rw [e, arrV_store]
          congr 2
          funext q
          simp only [updV, va_up]
          by_cases hq : q = j.toNatClampNeg
          · simp [hq, va_rf]
          · simp [hq]
        · cases hs
      · cases hs
    · cases hs
  · cases hs
theorem mm_k35 (X : mm_C p s m args meth c cc own mn nL D cs b ad) (hd : mm_one own mn (35, x1, x2, x3) (decode cc pc) = some len) (hs : mm_stp (35, x1, x2, x3) L st u = some (L', st', u')) (k : mm_G p l e R s m args below meth c Z nL D cs b ad n0 s0 (pc + len) L' st' u') : mm_G p l e R s m args below meth c Z nL D cs b ad n0 s0 pc L st u := by
  obtain ⟨hx, hb, hml, hown, hts, hK, had, hmn, hbs⟩ := X
  intro h1 h2 H locs ls hR hS hl
  replace hs : ms_35 x1 x2 x3 L st u = some (L', st', u') := hs
  unfold ms_35 at hs
  obtain ⟨hdg, rfl⟩ := mc_s_eq hd
  split at hs
  · rename_i a st2
    split at hs
    · rename_i t n hsh
      split at hs
      · rename_i ht
        cases hs
        by_cases h3 : t = 3
        · subst h3
          obtain ⟨-, hcell⟩ := mm_R_arrL hR hsh
          exact W.alen (ty := .long) hx hb hcell ((hK.2 3 _ rfl).1 n _) (by rw [arrV_size]) rfl rfl hdg (k h1 h2 H locs ls hR hS hl)
        · obtain ⟨-, hcell⟩ := mm_R_arr hR hsh (by omega)
          rcases (show t = 0 ∨ t = 1 ∨ t = 2 by omega) with rfl | rfl | rfl
          · exact W.alen (ty := .int) hx hb hcell ((hK.2 0 _ rfl).1 n _) (by rw [arrV_size]) rfl rfl hdg (k h1 h2 H locs ls hR hS hl)
          · exact W.alen (ty := .byte) hx hb hcell ((hK.2 1 _ rfl).1 n _) (by rw [arrV_size]) rfl rfl hdg (k h1 h2 H locs ls hR hS hl)
          · exact W.alen (ty := .boolean) hx hb hcell ((hK.2 2 _ rfl).1 n _) (by rw [arrV_size]) rfl rfl hdg (k h1 h2 H locs ls hR hS hl)
      · cases hs
    · cases hs
  · cases hs
end MMS2
