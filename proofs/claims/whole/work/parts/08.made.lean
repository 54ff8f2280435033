/-! ===== What is made; arraycopy ===== -/
section MMS4
variable {p : Program} {l : Launch} {e : Env} {R : Room} {s : State} {m : MethodId} {args : Array Value} {below : List Frame} {meth : Method} {c : Code} {Z : State → Prop} {cc : ByteArray} {own mn : String} {nL : Nat} {D : va_G} {cs : Nat → ClassId} {b : Nat} {ad : Nat → Nat} {n0 s0 : Nat}
variable {pc len : Nat} {L L' : mm_L} {st st' : List Value} {u u' : mm_M} {x1 x2 : Nat} {x3 : Int}
theorem W.of2 {H : Heap} {locs : List Loc} {cells slots cells' slots' : Nat} {g : JFrame} (h1 : cells = cells') (h2 : slots = slots') (k : W p l e R s m args below meth c H locs cells' slots' Z g) : W p l e R s m args below meth c H locs cells slots Z g := by
  subst h1; subst h2; exact k
theorem mm_w151 : mm_wd 1028 = some (.instanceMethod objectInit) := by decide +kernel
theorem mm_w152 : mm_wd 1029 = some (.code objectInit ⟨#[0xb1]⟩ 1 none) := by decide +kernel
theorem mm_w144 : mm_wd 1021 = some (.initialized "java/lang/System") := by decide +kernel
theorem mm_w960 : mm_wd 4117 = some (.static arraycopyName) := by decide +kernel
theorem mm_w961 : mm_wd 4118 = some (.native arraycopyName) := by decide +kernel
theorem mm_w241 : mm_wd 1118 = some (.arrayClass .int) := by decide +kernel
theorem mm_w168 : mm_wd 1045 = some (.arrayClass .byte) := by decide +kernel
theorem mm_w542 : mm_wd 2179 = some (.arrayClass .boolean) := by decide +kernel
theorem mm_w242 : mm_wd 1119 = some (.arrayClass .long) := by decide +kernel
theorem mm_w506 : mm_wd 2143 = some (.arrayOver (.object "FenceSides$State")) := by decide +kernel
theorem mm_nfw : nativeFrameWords "java/lang/System" "arraycopy" 5 ≤ 100 := by decide +kernel
theorem mm_cats (ad : Nat → Nat) (st : List Value) : ((st.map (mm_tr ad)).map fun x => x.category) = st.map fun x => x.category := by
  rw [List.map_map]
  congr 1
  funext v
  exact mm_tr_cat ad v
theorem mm_S_new {A : Nat → Prop} {H0 H H1 : Heap} {locs : List Loc} (h : va_S A H0 H locs) (z : H1.size = H.size + 1) (o : ∀ q, q < H.size → H1[q]? = H[q]?) : va_S A H0 H1 locs := ⟨Nat.le_trans h.1 (by omega), fun x h1 h2 => (o x (Nat.lt_of_lt_of_le h1 h.1)).trans (h.2.1 x h1 h2), h.2.2⟩
theorem mm_k39 (X : mm_C p s m args meth c cc own mn nL D cs b ad) (hd : mm_one own mn (39, x1, x2, x3) (decode cc pc) = some len) (hs : mm_stp (39, x1, x2, x3) L st u = some (L', st', u')) (hrm : 10 ≤ R.frames ∧ 200 ≤ R.locals) (k : mm_G p l e R s m args below meth c Z nL D cs b ad n0 s0 (pc + len) L' st' u') : mm_G p l e R s m args below meth c Z nL D cs b ad n0 s0 pc L st u := by
  obtain ⟨hx, hb, hml, hown, hts, hK, had, hmn, hbs⟩ := X
  intro h1 h2 H locs ls hR hS hl
  replace hs : ms_39 x1 x2 x3 L st u = some (L', st', u') := hs
  unfold ms_39 at hs
  replace hd := id hd
  change mc_39 own x2 (decode cc pc) = some len at hd
  unfold mc_39 at hd
  split at hd
  · rename_i ix hdg
    split at hd
    · rename_i hw
      cases hd
      split at hs
      · rename_i a st2
        split at hs
        · rename_i hc
          cases hs
          exact W.objInit hx hb hown (mm_wd_in ⟨hx, hts⟩ hw) (mm_wd_in ⟨hx, hts⟩ mm_w151) (mm_wd_in ⟨hx, hts⟩ mm_w152) rfl (by rw [hml]; exact hl.2.1) rfl hdg (by omega) (by rw [mm_cats]; show 2 * 0 + _ + 12 ≤ _; omega) (k h1 h2 H locs ls hR hS hl)
        · cases hs
      · cases hs
    · cases hd
  · cases hd
theorem mm_k36 (X : mm_C p s m args meth c cc own mn nL D cs b ad) (hd : mm_one own mn (36, x1, x2, x3) (decode cc pc) = some len) (hs : mm_stp (36, x1, x2, x3) L st u = some (L', st', u')) (hroom : u'.1 - n0 ≤ R.cells ∧ u'.2.1 - s0 ≤ R.slots) (k : mm_G p l e R s m args below meth c Z nL D cs b ad n0 s0 (pc + len) L' st' u') : mm_G p l e R s m args below meth c Z nL D cs b ad n0 s0 pc L st u := by
  obtain ⟨hx, hb, hml, hown, hts, hK, had, hmn, hbs⟩ := X
  intro h1 h2 H locs ls hR hS hl
  replace hs : ms_36 x1 x2 x3 L st u = some (L', st', u') := hs
  unfold ms_36 at hs
  replace hd := id hd
  change mc_36 own x1 x2 (decode cc pc) = some len at hd
  unfold mc_36 at hd
  split at hd
  · rename_i ix hdg
    split at hd
    · rename_i q hq
      split at hd
      · rename_i hw
        cases hd
        obtain ⟨ty, hin, hty, hnm, hinst, hini, hborn⟩ := mm_cls hq
        split at hs
        · rename_i ks hks
          split at hs
          · rename_i hlt
            cases hs
            obtain ⟨hlen, hbn⟩ := hborn ks hks
            have hKn := hK.1 x1 _ hq
            dsimp only at hroom
            refine W.newcK hx hb hown (mm_wd_in ⟨hx, hts⟩ hw) (hts _ hinst) (hts _ hini) rfl hdg (by omega) (by omega) hKn.2.1 rfl fun H1 kC hkC e1 z1 o1 => ?_
            have hh : H.size = ad u.1 := by rw [hR.1, had _ hlt]
            refine W.of2 (show u.1 - n0 + 1 = u.1 + 1 - n0 by omega) (show u.2.1 - s0 + q.2.2 = u.2.1 + ks.length - s0 by omega) ?_
            have kk := k (by dsimp only; omega) (by dsimp only; omega) H1 locs ls (mm_R_new had hR hlt rfl (fun z hz => ⟨by simp [mm_up, hz], by simp [mm_up, hz], rfl⟩) z1 o1 ?_) (mm_S_new hS z1 o1) hl
            · rw [hh]
              exact kk
            · unfold mm_at
              simp only [mm_up, if_pos]
              refine ⟨Nat.lt_succ_self _, q, hq, hlen, ?_⟩
              rw [← hh]
              refine (u_born ty hts hin hKn hkC e1 hty).to (fun j hj => ?_)
              unfold mm_fv
              rcases hbn j hj with ⟨g1, g2⟩ | ⟨g1, g2⟩
              · rw [g1, g2]
              · rw [g1, g2]; rfl
          · cases hs
        · cases hs
      · cases hd
    · cases hd
  · cases hd
theorem mm_na (X : mm_C p s m args meth c cc own mn nL D cs b ad) {n : Int32} {t : Nat} {atype : ArrayType} {ty : FieldType} (hdg : decode cc pc = .ok (.newarray atype, 2)) (hty : newarray.typeOf atype = ty) (hw : (Cond.arrayClass ty).before args s = true) (ht : t < 4) (htt : (mm_tys cs)[t]? = some (cs t, ty)) (hdf : defaultValue ty = if t = 3 then .long 0 else .int 0) (hcb : componentBytes ty ≤ 8) (hRA : ∀ cA, va_RA s cA ty ↔ s.vm.findClass ("[" ++ ty.toString) = some cA)
    (hlt : u.1 < 1000000) (hn : ¬ n < 0) (hsm : n.toNatClampNeg < 100000) (hroom : u.1 + 1 - n0 ≤ R.cells ∧ u.2.1 + n.toNatClampNeg - s0 ≤ R.slots)
    (k : mm_G p l e R s m args below meth c Z nL D cs b ad n0 s0 (pc + 2) L (.ref u.1 :: st) (u.1 + 1, u.2.1 + n.toNatClampNeg, mm_up u.2.2.1 u.1 (.inr (.inl (t, n.toNatClampNeg))), mm_up u.2.2.2.1 u.1 (fun _ => 0), mm_up u.2.2.2.2 u.1 (fun _ => 0))) : mm_G p l e R s m args below meth c Z nL D cs b ad n0 s0 pc L (.int n :: st) u := by
  obtain ⟨hx, hb, hml, hown, hts, hK, had, hmn, hbs⟩ := X
  intro h1 h2 H locs ls hR hS hl
  subst hty
  refine va_newaK hx hb hw rfl hdg rfl hn rfl (by have := Nat.mul_le_mul (Nat.le_of_lt hsm) hcb; omega) (by omega) (by omega) rfl fun H1 cA e1 z1 o1 hAr hNm => ?_
  have hcA : cA = cs t := by
    have h5 := (hRA (cs t)).mp (hK.2 t _ htt).2
    exact Option.some.inj (hNm.symm.trans h5)
  subst hcA
  have hh : H.size = ad u.1 := by rw [hR.1, had _ hlt]
  refine W.of2 (show u.1 - n0 + 1 = u.1 + 1 - n0 by omega) (show u.2.1 - s0 + n.toNatClampNeg = u.2.1 + n.toNatClampNeg - s0 by omega) ?_
  have kk := k (by dsimp only; omega) (by dsimp only; omega) H1 locs ls (mm_R_new had hR hlt rfl (fun z hz => ⟨by simp [mm_up, hz], by simp [mm_up, hz], by simp [mm_up, hz]⟩) z1 o1 ?_) (mm_S_new hS z1 o1) hl
  · rw [hh]
    exact kk
  · unfold mm_at
    simp only [mm_up, if_pos]
    intro _
    refine ⟨Nat.lt_succ_self _, ?_⟩
    rw [← hh, e1, hdf]
    by_cases h3 : t = 3
    · subst h3; simp
    · simp [h3]
theorem mm_k37 (X : mm_C p s m args meth c cc own mn nL D cs b ad) (hd : mm_one own mn (37, x1, x2, x3) (decode cc pc) = some len) (hs : mm_stp (37, x1, x2, x3) L st u = some (L', st', u')) (hroom : u'.1 - n0 ≤ R.cells ∧ u'.2.1 - s0 ≤ R.slots) (k : mm_G p l e R s m args below meth c Z nL D cs b ad n0 s0 (pc + len) L' st' u') : mm_G p l e R s m args below meth c Z nL D cs b ad n0 s0 pc L st u := by
  have hts := X.2.2.2.2.1
  have hx := X.1
  replace hs : ms_37 x1 x2 x3 L st u = some (L', st', u') := hs
  unfold ms_37 at hs
  replace hd := id hd
  change mc_37 x1 (decode cc pc) = some len at hd
  unfold mc_37 at hd
  split at hs
  · rename_i n st2
    split at hs
    · rename_i hc
      obtain ⟨c1, c2, c3, c4⟩ := hc
      cases hs
      split at hd
      · rename_i hdg
        split at hd
        · rename_i e
          cases hd
          subst e
          exact mm_na X hdg rfl (mm_wd_in ⟨hx, hts⟩ mm_w241) (by omega) rfl rfl (by decide) (fun _ => Iff.rfl) c1 c2 c3 hroom k
        · cases hd
      · rename_i hdg
        split at hd
        · rename_i e
          cases hd
          subst e
          exact mm_na X hdg rfl (mm_wd_in ⟨hx, hts⟩ mm_w168) (by omega) rfl rfl (by decide) (fun _ => Iff.rfl) c1 c2 c3 hroom k
        · cases hd
      · rename_i hdg
        split at hd
        · rename_i e
          cases hd
          subst e
          exact mm_na X hdg rfl (mm_wd_in ⟨hx, hts⟩ mm_w542) (by omega) rfl rfl (by decide) (fun _ => Iff.rfl) c1 c2 c3 hroom k
        · cases hd
      · rename_i hdg
        split at hd
        · rename_i e
          cases hd
          subst e
          exact mm_na X hdg rfl (mm_wd_in ⟨hx, hts⟩ mm_w242) (by omega) rfl rfl (by decide) (fun _ => Iff.rfl) c1 c2 c3 hroom k
        · cases hd
      · cases hd
    · cases hs
  · cases hs
theorem mm_k38 (X : mm_C p s m args meth c cc own mn nL D cs b ad) (hd : mm_one own mn (38, x1, x2, x3) (decode cc pc) = some len) (hs : mm_stp (38, x1, x2, x3) L st u = some (L', st', u')) (hroom : u'.1 - n0 ≤ R.cells ∧ u'.2.1 - s0 ≤ R.slots) (k : mm_G p l e R s m args below meth c Z nL D cs b ad n0 s0 (pc + len) L' st' u') : mm_G p l e R s m args below meth c Z nL D cs b ad n0 s0 pc L st u := by
  obtain ⟨hx, hb, hml, hown, hts, hK, had, hmn, hbs⟩ := X
  intro h1 h2 H locs ls hR hS hl
  replace hs : ms_38 x1 x2 x3 L st u = some (L', st', u') := hs
  unfold ms_38 at hs
  replace hd := id hd
  change mc_38 own x2 (decode cc pc) = some len at hd
  unfold mc_38 at hd
  split at hd
  · rename_i ix hdg
    split at hd
    · rename_i hw
      cases hd
      split at hs
      · rename_i n st2
        split at hs
        · rename_i hc
          obtain ⟨hlt, c2, c3⟩ := hc
          cases hs
          dsimp only at hroom
          refine W.anew hx hb hown (mm_wd_in ⟨hx, hts⟩ hw) (mm_wd_in ⟨hx, hts⟩ mm_w506) rfl hdg rfl c2 (by omega) (by omega) (by omega) fun cA kA comp f1 f2 f3 f4 => ?_
          generalize hH1 : H.push ({ cls := cA, slots := Array.replicate n.toNatClampNeg .null, vm := .none } : Cell) = H1
          have z1 : H1.size = H.size + 1 := by rw [← hH1, Array.size_push]
          have e1 : H1[H.size]? = some (arrV cA n.toNatClampNeg (fun _ => .null)) := by rw [← hH1, Array.getElem?_push_size, ← arrV_new]
          have o1 : ∀ q : Nat, q < H.size → H1[q]? = H[q]? := fun q hq => by rw [← hH1, Array.getElem?_push, if_neg (Nat.ne_of_lt hq)]
          have hcA : cA = cs 4 := by
            obtain ⟨kA2, comp2, g1, g2, g3, g4⟩ := (hK.2 4 _ rfl).2
            exact Option.some.inj (f1.symm.trans g4)
          subst hcA
          have hh : H.size = ad u.1 := by rw [hR.1, had _ hlt]
          refine W.of2 (show u.1 - n0 + 1 = u.1 + 1 - n0 by omega) (show u.2.1 - s0 + n.toNatClampNeg = u.2.1 + n.toNatClampNeg - s0 by omega) ?_
          have kk := k (by dsimp only; omega) (by dsimp only; omega) H1 locs ls (mm_R_new had hR hlt rfl (fun z hz => ⟨by simp [mm_up, hz], rfl, rfl⟩) z1 o1 ?_) (mm_S_new hS z1 o1) hl
          · rw [hh]
            exact kk
          · unfold mm_at
            simp only [mm_up, if_pos]
            refine ⟨Nat.lt_succ_self _, ?_⟩
            rw [← hh, e1]
            rfl
        · cases hs
      · cases hs
    · cases hd
  · cases hd
theorem mm_k40 (X : mm_C p s m args meth c cc own mn nL D cs b ad) (hd : mm_one own mn (40, x1, x2, x3) (decode cc pc) = some len) (hs : mm_stp (40, x1, x2, x3) L st u = some (L', st', u')) (hrm : 10 ≤ R.frames ∧ 200 ≤ R.locals) (k : mm_G p l e R s m args below meth c Z nL D cs b ad n0 s0 (pc + len) L' st' u') : mm_G p l e R s m args below meth c Z nL D cs b ad n0 s0 pc L st u := by
  obtain ⟨hx, hb, hml, hown, hts, hK, had, hmn, hbs⟩ := X
  intro h1 h2 H locs ls hR hS hl
  replace hs : ms_40 x1 x2 x3 L st u = some (L', st', u') := hs
  unfold ms_40 at hs
  replace hd := id hd
  change mc_40 own x2 (decode cc pc) = some len at hd
  unfold mc_40 at hd
  split at hd
  · rename_i ix hdg
    split at hd
    · rename_i hw
      cases hd
      split at hs
      · rename_i n dp a sp a0 st2
        split at hs
        · rename_i t n1 t0 n2 hsh hsh0
          split at hs
          · rename_i hc
            obtain ⟨rfl, rfl, hne, c1, c2, c3, c4, c5, c6⟩ := hc
            cases hs
            obtain ⟨ha, hc1⟩ := mm_R_arr hR hsh (by omega)
            obtain ⟨ha0, hc0⟩ := mm_R_arr hR hsh0 (by omega)
            have nn : ∀ z : Int32, ¬ z < 0 → z.toInt = (z.toNatClampNeg : Int) := by
              intro z hz
              have hz0 : (0 : Int) ≤ z.toInt := by simpa using Int32.le_iff_toInt_le.mp (Int32.not_lt.mp hz)
              show z.toInt = ((z.toInt.toNat : Nat) : Int)
              omega
            intro T hT X
            obtain ⟨-, k0, hk0, cm0, hkk0⟩ := (hK.2 0 _ rfl).1 n2 (fun j => .int (u.2.2.2.1 a0 j))
            obtain ⟨-, k1, hk1, cm1, hkk1⟩ := (hK.2 0 _ rfl).1 n1 (fun j => .int (u.2.2.2.1 a j))
            have hnf := mm_nfw
            obtain ⟨vm', X', step⟩ := X.arraycopy hx hown (mm_wd_in ⟨hx, hts⟩ hw) (mm_wd_in ⟨hx, hts⟩ mm_w961) (mm_wd_in ⟨hx, hts⟩ mm_w960) (mm_wd_in ⟨hx, hts⟩ mm_w144) (src := ad a0) (dst := ad a) (cs := vp_cell (cs 0) (n2, .inl (u.2.2.2.1 a0))) (cd := vp_cell (cs 0) (n1, .inl (u.2.2.2.1 a))) (srcPos := sp) (destPos := dp) (n := n) (by rw [hT]; exact hc0) (by rw [hT]; exact hc1)
              (fun _ h => by cases h) (fun _ h => by cases h) (fun h => by cases h) (fun h => by cases h) hk0 hk1 hkk0 hkk1 (by simp [refKind]) c1 c2 c3
              (by rw [nn sp c1, nn n c3]; show ¬ _ > ((arrV (cs 0) n2 (fun j => .int (u.2.2.2.1 a0 j))).slots.size : Int); rw [arrV_size]; omega)
              (by rw [nn dp c2, nn n c3]; show ¬ _ > ((arrV (cs 0) n1 (fun j => .int (u.2.2.2.1 a j))).slots.size : Int); rw [arrV_size]; omega)
              (fun vm₁ _ i hi => by
                have e : (vp_cell (cs 0) (n2, .inl (u.2.2.2.1 a0))).slots.getD (sp.toNatClampNeg + i) .null = .int (u.2.2.2.1 a0 (sp.toNatClampNeg + i)) := by
                  show (arrV (cs 0) n2 (fun j => .int (u.2.2.2.1 a0 j))).slots.getD _ _ = _
                  rw [Array.getD_eq_getD_getElem?, arrV_read _ _ (by omega)]
                  rfl
                refine ⟨?_, ?_⟩
                · rw [e]
                  rfl
                · rw [e]
                  exact trivial)
              (g := F0 m pc ls (List.map (mm_tr ad) (.int n :: .int dp :: .ref a :: .int sp :: .ref a0 :: st'))) rfl (by rw [hml]; exact hl.2.1) (rest := st'.map (mm_tr ad)) rfl (by rw [hb]; exact hdg) (by omega) (by rw [mm_cats]; show 2 * 0 + _ + _ ≤ _; omega)
            have e1 : copied (vp_cell (cs 0) (n2, .inl (u.2.2.2.1 a0))) (vp_cell (cs 0) (n1, .inl (u.2.2.2.1 a))) sp dp n = vp_cell (cs 0) (n1, .inl (va_cpy (u.2.2.2.1 a0) (u.2.2.2.1 a) sp.toNatClampNeg dp.toNatClampNeg n.toNatClampNeg)) := va_copied (fun z => .int z) (cs 0) (cs 0) _ _ c4
            rw [e1] at X' step
            have hl9 : ad a < H.size := (Array.getElem?_eq_some_iff.mp hc1).1
            have hheap : ((T.setVm vm').setCell (ad a) (vp_cell (cs 0) (n1, .inl (va_cpy (u.2.2.2.1 a0) (u.2.2.2.1 a) sp.toNatClampNeg dp.toNatClampNeg n.toNatClampNeg)))).heap = H.setIfInBounds (ad a) (vp_cell (cs 0) (n1, .inl (va_cpy (u.2.2.2.1 a0) (u.2.2.2.1 a) sp.toNatClampNeg dp.toNatClampNeg n.toNatClampNeg))) := by rw [← hT]; rfl
            have oq : ∀ q : Nat, q ≠ ad a → (H.setIfInBounds (ad a) (vp_cell (cs 0) (n1, .inl (va_cpy (u.2.2.2.1 a0) (u.2.2.2.1 a) sp.toNatClampNeg dp.toNatClampNeg n.toNatClampNeg))))[q]? = H[q]? := fun q hq => by simp [Array.getElem?_setIfInBounds, Ne.symm hq]
            have hza := mm_zone had hR ha
            obtain ⟨t, a1, b1⟩ := k h1 h2 _ _ ls (mm_R_set (H1 := H.setIfInBounds (ad a) (vp_cell (cs 0) (n1, .inl (va_cpy (u.2.2.2.1 a0) (u.2.2.2.1 a) sp.toNatClampNeg dp.toNatClampNeg n.toNatClampNeg)))) had hR ha rfl (fun z hz => ⟨rfl, by simp [mm_up, hz], rfl⟩) (by simp) oq (by
                unfold mm_at
                dsimp only
                rw [hsh]
                intro _
                refine ⟨ha, ?_⟩
                simp [mm_up, Array.getElem?_setIfInBounds, hl9, vp_cell])) ⟨by simp; exact hS.1, fun q g1 g2 => by
                rw [oq q (fun e => g2 (by rw [e]; exact hza))]
                exact hS.2.1 q g1 g2, fun q hq => by
                rcases List.mem_append.mp hq with h | h
                · exact hS.2.2 q h
                · obtain ⟨z, -, hz⟩ := List.mem_map.mp h
                  rw [← hz]
                  exact hza⟩ hl _ hheap X'
            exact ⟨t, step t a1, b1⟩
          · cases hs
        · cases hs
      · cases hs
    · cases hd
  · cases hd
theorem mm_wmaxc : mm_wd 3064 = some (.code Lib.Math.max.name Lib.Math.max.code 2 (some .int)) := by decide +kernel
theorem mm_wmaxs : mm_wd 3063 = some (.static Lib.Math.max.name) := by decide +kernel
theorem mm_wminc : mm_wd 3067 = some (.code Lib.Math.min.name Lib.Math.min.code 2 (some .int)) := by decide +kernel
theorem mm_wmins : mm_wd 3066 = some (.static Lib.Math.min.name) := by decide +kernel
theorem mm_wmath : mm_wd 1018 = some (.initialized "java/lang/Math") := by decide +kernel
theorem mm_k43 (X : mm_C p s m args meth c cc own mn nL D cs b ad) (hd : mm_one own mn (43, x1, x2, x3) (decode cc pc) = some len) (hs : mm_stp (43, x1, x2, x3) L st u = some (L', st', u')) (hroom : u'.1 - n0 ≤ R.cells ∧ u'.2.1 - s0 ≤ R.slots) (hrm : 10 ≤ R.frames ∧ 200 ≤ R.locals) (k : mm_G p l e R s m args below meth c Z nL D cs b ad n0 s0 (pc + len) L' st' u') : mm_G p l e R s m args below meth c Z nL D cs b ad n0 s0 pc L st u := by
  obtain ⟨hx, hb, hml, hown, hts, hK, had, hmn, hbs⟩ := X
  intro h1 h2 H locs ls hR hS hl
  replace hs : ms_43 x1 x2 x3 L st u = some (L', st', u') := hs
  unfold ms_43 at hs
  replace hd := id hd
  change mc_43 own x2 (decode cc pc) = some len at hd
  unfold mc_43 at hd
  split at hd
  · rename_i ix hdg
    split at hd
    · rename_i hw
      cases hd
      split at hs
      · rename_i y2 x st2
        split at hs
        · rename_i hc
          cases hs
          exact va_mmax hx hb (by rw [hml]; exact hl.2.1.symm) hown (mm_wd_in ⟨hx, hts⟩ hw) (mm_wd_in ⟨hx, hts⟩ mm_wmaxs) (mm_wd_in ⟨hx, hts⟩ mm_wmath) (mm_wd_in ⟨hx, hts⟩ mm_wmaxc) (by omega) (by rw [mm_cats]; omega) hroom.1 hroom.2 hdg (k h1 h2 H locs ls hR hS hl)
        · cases hs
      · cases hs
    · cases hd
  · cases hd
theorem mm_k44 (X : mm_C p s m args meth c cc own mn nL D cs b ad) (hd : mm_one own mn (44, x1, x2, x3) (decode cc pc) = some len) (hs : mm_stp (44, x1, x2, x3) L st u = some (L', st', u')) (hroom : u'.1 - n0 ≤ R.cells ∧ u'.2.1 - s0 ≤ R.slots) (hrm : 10 ≤ R.frames ∧ 200 ≤ R.locals) (k : mm_G p l e R s m args below meth c Z nL D cs b ad n0 s0 (pc + len) L' st' u') : mm_G p l e R s m args below meth c Z nL D cs b ad n0 s0 pc L st u := by
  obtain ⟨hx, hb, hml, hown, hts, hK, had, hmn, hbs⟩ := X
  intro h1 h2 H locs ls hR hS hl
  replace hs : ms_44 x1 x2 x3 L st u = some (L', st', u') := hs
  unfold ms_44 at hs
  replace hd := id hd
  change mc_44 own x2 (decode cc pc) = some len at hd
  unfold mc_44 at hd
  split at hd
  · rename_i ix hdg
    split at hd
    · rename_i hw
      cases hd
      split at hs
      · rename_i y2 x st2
        split at hs
        · rename_i hc
          cases hs
          exact va_mmin hx hb (by rw [hml]; exact hl.2.1.symm) hown (mm_wd_in ⟨hx, hts⟩ hw) (mm_wd_in ⟨hx, hts⟩ mm_wmins) (mm_wd_in ⟨hx, hts⟩ mm_wmath) (mm_wd_in ⟨hx, hts⟩ mm_wminc) (by omega) (by rw [mm_cats]; omega) hroom.1 hroom.2 hdg (k h1 h2 H locs ls hR hS hl)
        · cases hs
      · cases hs
    · cases hd
  · cases hd
end MMS4
