/-! ===== Each step of the small machine is the machine's ===== -/
/-- what holds in a method's frame: machine, bytes, words, tables, the zone's addresses -/
abbrev mm_C (p : Program) (s : State) (m : MethodId) (args : Array Value) (meth : Method) (c : Code) (cc : ByteArray) (own mn : String) (nL : Nat) (D : va_G) (cs : Nat → ClassId) (b : Nat) (ad : Nat → Nat) : Prop :=
  p.tables.exec = Jvm.exec ∧ c.code = cc ∧ c.maxLocals = nL ∧ s.vm.findClass own = some m.cls ∧ (∀ w ∈ mm_tb, w.before args s = true) ∧ va_K D vwCl (mm_tys cs) s ∧ (∀ q, q < 1000000 → ad q = b + q) ∧ meth.name = mn ∧ b ≤ s.heap.size
abbrev mm_G (p : Program) (l : Launch) (e : Env) (R : Room) (s : State) (m : MethodId) (args : Array Value) (below : List Frame) (meth : Method) (c : Code) (Z : State → Prop) (nL : Nat) (D : va_G) (cs : Nat → ClassId) (b : Nat) (ad : Nat → Nat) (n0 s0 : Nat) (pc : Nat) (L : mm_L) (st : List Value) (u : mm_M) : Prop :=
  n0 ≤ u.1 → s0 ≤ u.2.1 → ∀ (H : Heap) (locs : List Loc) (ls : Array Slot), mm_R D cs b ad u H → va_S (fun q => b ≤ q) s.heap H locs → mm_lv ad ls nL L → W p l e R s m args below meth c H locs (u.1 - n0) (u.2.1 - s0) Z (F0 m pc ls (st.map (mm_tr ad)))
section MMS
variable {p : Program} {l : Launch} {e : Env} {R : Room} {s : State} {m : MethodId} {args : Array Value} {below : List Frame} {meth : Method} {c : Code} {Z : State → Prop} {cc : ByteArray} {own mn : String} {nL : Nat} {D : va_G} {cs : Nat → ClassId} {b : Nat} {ad : Nat → Nat} {n0 s0 : Nat}
variable {pc len : Nat} {L L' : mm_L} {st st' : List Value} {u u' : mm_M} {x1 x2 : Nat} {x3 : Int}
theorem mm_wd_in (h : p.tables.exec = Jvm.exec ∧ (∀ w ∈ mm_tb, w.before args s = true)) {w : Nat} {x : Jvm.Cond} (hw : mm_wd w = some x) (hk : (mm_kg x || mm_kn x) = true := by rfl) : x.before args s = true := h.2 x (List.mem_filter.mpr ⟨mm_wd_mem hw, hk⟩)
theorem mm_k0 (X : mm_C p s m args meth c cc own mn nL D cs b ad) (hd : mm_one own mn (0, x1, x2, x3) (decode cc pc) = some len) (hs : mm_stp (0, x1, x2, x3) L st u = some (L', st', u')) (k : mm_G p l e R s m args below meth c Z nL D cs b ad n0 s0 (pc + len) L' st' u') : mm_G p l e R s m args below meth c Z nL D cs b ad n0 s0 pc L st u := by
  obtain ⟨hx, hb, hml, hown, hts, hK, had, hmn, hbs⟩ := X
  intro h1 h2 H locs ls hR hS hl
  have hs : ms_0 x1 x2 x3 L st u = some (L', st', u') := hs
  unfold ms_0 at hs
  split at hs
  · rename_i x hL
    cases hs
    replace hd := id hd
    change mc_0 x1 (decode cc pc) = some len at hd
    unfold mc_0 at hd
    split at hd
    · rename_i k hdg
      split at hd
      · rename_i e
        cases hd
        exact lv_iload_n hx hb hdg e (mm_lv_at hl hL) (k h1 h2 H locs ls hR hS hl)
      · cases hd
    · rename_i k hdg
      split at hd
      · rename_i e
        cases hd
        subst e
        exact lv_iload hx hb hdg (mm_lv_at hl hL) (k h1 h2 H locs ls hR hS hl)
      · cases hd
    · cases hd
  · cases hs
theorem mm_k3 (X : mm_C p s m args meth c cc own mn nL D cs b ad) (hd : mm_one own mn (3, x1, x2, x3) (decode cc pc) = some len) (hs : mm_stp (3, x1, x2, x3) L st u = some (L', st', u')) (k : mm_G p l e R s m args below meth c Z nL D cs b ad n0 s0 (pc + len) L' st' u') : mm_G p l e R s m args below meth c Z nL D cs b ad n0 s0 pc L st u := by
  obtain ⟨hx, hb, hml, hown, hts, hK, had, hmn, hbs⟩ := X
  intro h1 h2 H locs ls hR hS hl
  have hs : ms_3 x1 x2 x3 L st u = some (L', st', u') := hs
  unfold ms_3 at hs
  split at hs
  · rename_i x st2
    split at hs
    · rename_i hlt
      cases hs
      replace hd := id hd
      change mc_3 x1 (decode cc pc) = some len at hd
      unfold mc_3 at hd
      split at hd
      · rename_i k2 hdg
        split at hd
        · rename_i e
          cases hd
          exact lv_istore_n hx hb hdg e hl.2 (by rw [← hl.1]; exact hlt) rfl (fun ls' h' => k h1 h2 H locs ls' hR hS (mm_sto1_lv hl h'))
        · cases hd
      · rename_i k2 hdg
        split at hd
        · rename_i e
          cases hd
          subst e
          exact lv_istore hx hb hdg hl.2 (by rw [← hl.1]; exact hlt) rfl (fun ls' h' => k h1 h2 H locs ls' hR hS (mm_sto1_lv hl h'))
        · cases hd
      · cases hd
    · cases hs
  · cases hs
theorem mm_k6 (X : mm_C p s m args meth c cc own mn nL D cs b ad) (hd : mm_one own mn (6, x1, x2, x3) (decode cc pc) = some len) (hs : mm_stp (6, x1, x2, x3) L st u = some (L', st', u')) (k : mm_G p l e R s m args below meth c Z nL D cs b ad n0 s0 (pc + len) L' st' u') : mm_G p l e R s m args below meth c Z nL D cs b ad n0 s0 pc L st u := by
  obtain ⟨hx, hb, hml, hown, hts, hK, had, hmn, hbs⟩ := X
  intro h1 h2 H locs ls hR hS hl
  have hs : ms_6 x1 x2 x3 L st u = some (L', st', u') := hs
  unfold ms_6 at hs
  split at hs
  · rename_i x hL
    cases hs
    replace hd := id hd
    change mc_6 x1 x3 (decode cc pc) = some len at hd
    unfold mc_6 at hd
    split at hd
    · rename_i k2 z hdg
      split at hd
      · rename_i e
        obtain ⟨rfl, rfl⟩ := e
        cases hd
        obtain ⟨kk, hkk⟩ := List.mem_iff_getElem?.mp (mm_lvl_mem (ad := ad) (q := (k2, .int x)) |>.mpr ⟨.int x, hL, rfl⟩)
        exact lv_iinc hx hb hdg hl.2 hkk rfl (by rw [← hl.1]; exact (List.getElem?_eq_some_iff.mp hL).1) rfl (fun ls' h' => k h1 h2 H locs ls' hR hS (mm_sto1_lv hl h'))
      · cases hd
    · cases hd
  · cases hs
theorem mm_k7 (X : mm_C p s m args meth c cc own mn nL D cs b ad) (hd : mm_one own mn (7, x1, x2, x3) (decode cc pc) = some len) (hs : mm_stp (7, x1, x2, x3) L st u = some (L', st', u')) (k : mm_G p l e R s m args below meth c Z nL D cs b ad n0 s0 (pc + len) L' st' u') : mm_G p l e R s m args below meth c Z nL D cs b ad n0 s0 pc L st u := by
  obtain ⟨hx, hb, hml, hown, hts, hK, had, hmn, hbs⟩ := X
  intro h1 h2 H locs ls hR hS hl
  have hs : ms_7 x1 x2 x3 L st u = some (L', st', u') := hs
  unfold ms_7 at hs
  cases hs
  have kk := k h1 h2 H locs ls hR hS hl
  replace hd := id hd
  change mc_7 own x1 x3 (decode cc pc) = some len at hd
  unfold mc_7 at hd
  split at hd
  · rename_i z hdg
    split at hd
    · rename_i e
      cases hd
      exact lv_iconst hx hb hdg e kk
    · cases hd
  · rename_i z hdg
    split at hd
    · rename_i e
      cases hd
      exact lv_bipush hx hb hdg e kk
    · cases hd
  · rename_i z hdg
    split at hd
    · rename_i e
      cases hd
      exact lv_sipush hx hb hdg e kk
    · cases hd
  · rename_i z hdg
    split at hd
    · rename_i e
      cases hd
      exact lv_ldc hx hb hown (mm_wd_in ⟨hx, hts⟩ e) hdg kk
    · cases hd
  · rename_i z hdg
    split at hd
    · rename_i e
      cases hd
      exact lv_ldcw hx hb hown (mm_wd_in ⟨hx, hts⟩ e) hdg kk
    · cases hd
  · cases hd
theorem mc_s_eq {i : Instr} {r : mm_X} (h : mc_s i r = some len) : r = .ok (i, 1) ∧ len = 1 := by
  unfold mc_s at h
  split at h
  · split at h
    · rename_i e
      subst e
      cases h
      exact ⟨rfl, rfl⟩
    · cases h
  · cases h
theorem mm_k13 (X : mm_C p s m args meth c cc own mn nL D cs b ad) (hd : mm_one own mn (13, x1, x2, x3) (decode cc pc) = some len) (hs : mm_stp (13, x1, x2, x3) L st u = some (L', st', u')) (k : mm_G p l e R s m args below meth c Z nL D cs b ad n0 s0 (pc + len) L' st' u') : mm_G p l e R s m args below meth c Z nL D cs b ad n0 s0 pc L st u := by
  obtain ⟨hx, hb, hml, hown, hts, hK, had, hmn, hbs⟩ := X
  intro h1 h2 H locs ls hR hS hl
  have hs : ms_13 x1 x2 x3 L st u = some (L', st', u') := hs
  unfold ms_13 at hs
  split at hs
  · cases hs
    have kk := k h1 h2 H locs ls hR hS hl
    replace hd := id hd
    change mc_13 x1 (decode cc pc) = some len at hd
    unfold mc_13 at hd
    split at hd
    all_goals first | (cases hd; done) | skip
    all_goals (rename_i hdg; split at hd; rotate_left; (cases hd); rename_i e; cases hd; subst e)
    · exact lv_iadd hx hb hdg kk
    · exact lv_isub hx hb hdg kk
    · exact lv_imul hx hb hdg kk
    · exact lv_iand hx hb hdg kk
    · exact lv_ior hx hb hdg kk
    · exact lv_ixor hx hb hdg kk
    · exact lv_ishl hx hb hdg kk
    · exact lv_ishr hx hb hdg kk
    · exact lv_iushr hx hb hdg rfl kk
  · cases hs
theorem mm_k14 (X : mm_C p s m args meth c cc own mn nL D cs b ad) (hd : mm_one own mn (14, x1, x2, x3) (decode cc pc) = some len) (hs : mm_stp (14, x1, x2, x3) L st u = some (L', st', u')) (k : mm_G p l e R s m args below meth c Z nL D cs b ad n0 s0 (pc + len) L' st' u') : mm_G p l e R s m args below meth c Z nL D cs b ad n0 s0 pc L st u := by
  obtain ⟨hx, hb, hml, hown, hts, hK, had, hmn, hbs⟩ := X
  intro h1 h2 H locs ls hR hS hl
  obtain ⟨hdg, rfl⟩ := mc_s_eq hd
  have hs : ms_14 x1 x2 x3 L st u = some (L', st', u') := hs
  unfold ms_14 at hs
  split at hs
  · split at hs
    · cases hs
    · rename_i hne
      cases hs
      exact lv_idiv hx hb hdg hne (k h1 h2 H locs ls hR hS hl)
  · cases hs
theorem mm_k18 (X : mm_C p s m args meth c cc own mn nL D cs b ad) (hd : mm_one own mn (18, x1, x2, x3) (decode cc pc) = some len) (hs : mm_stp (18, x1, x2, x3) L st u = some (L', st', u')) (k : mm_G p l e R s m args below meth c Z nL D cs b ad n0 s0 (pc + len) L' st' u') : mm_G p l e R s m args below meth c Z nL D cs b ad n0 s0 pc L st u := by
  obtain ⟨hx, hb, hml, hown, hts, hK, had, hmn, hbs⟩ := X
  intro h1 h2 H locs ls hR hS hl
  obtain ⟨hdg, rfl⟩ := mc_s_eq hd
  have hs : ms_18 x1 x2 x3 L st u = some (L', st', u') := hs
  unfold ms_18 at hs
  split at hs
  · cases hs
    exact W.lcmp hx hb hdg (k h1 h2 H locs ls hR hS hl)
  · cases hs
end MMS
