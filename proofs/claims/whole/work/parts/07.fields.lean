/-! ===== Steps at fields, and what is made ===== -/
theorem mm_inw {C : String} {T : u_T} {N : Nat} (h : ∀ w ∈ u_ws C T N, w ∈ lw_tbl) : ∀ w ∈ u_ws C T N, w ∈ mm_tb := fun w hw => List.mem_filter.mpr ⟨h w hw, by
  obtain ⟨k, -, rfl⟩ := List.mem_map.mp hw
  unfold u_lay
  split <;> rfl⟩
def mm_born (ty : Nat → FieldType) (ks : List (Option (Option Nat))) (j : Nat) : Prop := (ks[j]? = some none ∧ defaultValue (ty j) = .int 0) ∨ (ks[j]? = some (some none) ∧ defaultValue (ty j) = .null)
def mm_clsP (ci : Nat) (q : vw_C) (ty : Nat → FieldType) : Prop := (∀ w ∈ u_ws q.1 q.2.1 q.2.2, w ∈ mm_tb) ∧ (∀ k, k < q.2.2 → parseFieldDescriptor (q.2.1 k).2.2.1 = some (ty k)) ∧ (∀ a, a < q.2.2 → ∀ b, b < q.2.2 → a ≠ b → (q.2.1 a).2.1 ≠ (q.2.1 b).2.1) ∧ Jvm.Cond.instantiable q.1 q.2.2 ∈ mm_tb ∧ Jvm.Cond.initialized q.1 ∈ mm_tb ∧ ∀ ks, mm_new ci = some ks → ks.length = q.2.2 ∧ ∀ j, j < q.2.2 → mm_born ty ks j
theorem mm_b0 : ∀ j, j < 3 → (((mm_new 0).getD [])[j]? = some none ∧ defaultValue (tyX0 j) = .int 0) ∨ (((mm_new 0).getD [])[j]? = some (some none) ∧ defaultValue (tyX0 j) = .null) := by decide +kernel
theorem mm_cls0 : mm_clsP 0 (RX0, TX0, 3) tyX0 := ⟨mm_inw inX0, tyX0_ok, nmX0, List.mem_filter.mpr ⟨by decide +kernel, rfl⟩, List.mem_filter.mpr ⟨by decide +kernel, rfl⟩, fun ks h => by cases h; exact ⟨rfl, mm_b0⟩⟩
theorem mm_b1 : ∀ j, j < 5 → (((mm_new 1).getD [])[j]? = some none ∧ defaultValue (tyX1 j) = .int 0) ∨ (((mm_new 1).getD [])[j]? = some (some none) ∧ defaultValue (tyX1 j) = .null) := by decide +kernel
theorem mm_cls1 : mm_clsP 1 (RX1, TX1, 5) tyX1 := ⟨mm_inw inX1, tyX1_ok, nmX1, List.mem_filter.mpr ⟨by decide +kernel, rfl⟩, List.mem_filter.mpr ⟨by decide +kernel, rfl⟩, fun ks h => by cases h; exact ⟨rfl, mm_b1⟩⟩
theorem mm_b2 : ∀ j, j < 6 → (((mm_new 2).getD [])[j]? = some none ∧ defaultValue (tyX2 j) = .int 0) ∨ (((mm_new 2).getD [])[j]? = some (some none) ∧ defaultValue (tyX2 j) = .null) := by decide +kernel
theorem mm_cls2 : mm_clsP 2 (RX2, TX2, 6) tyX2 := ⟨mm_inw inX2, tyX2_ok, nmX2, List.mem_filter.mpr ⟨by decide +kernel, rfl⟩, List.mem_filter.mpr ⟨by decide +kernel, rfl⟩, fun ks h => by cases h; exact ⟨rfl, mm_b2⟩⟩
theorem mm_b3 : ∀ j, j < 13 → (((mm_new 3).getD [])[j]? = some none ∧ defaultValue (tyX3 j) = .int 0) ∨ (((mm_new 3).getD [])[j]? = some (some none) ∧ defaultValue (tyX3 j) = .null) := by decide +kernel
theorem mm_cls3 : mm_clsP 3 (RX3, TX3, 13) tyX3 := ⟨mm_inw inX3, tyX3_ok, nmX3, List.mem_filter.mpr ⟨by decide +kernel, rfl⟩, List.mem_filter.mpr ⟨by decide +kernel, rfl⟩, fun ks h => by cases h; exact ⟨rfl, mm_b3⟩⟩
theorem mm_b4 : ∀ j, j < 6 → (((mm_new 4).getD [])[j]? = some none ∧ defaultValue (tyX4 j) = .int 0) ∨ (((mm_new 4).getD [])[j]? = some (some none) ∧ defaultValue (tyX4 j) = .null) := by decide +kernel
theorem mm_cls4 : mm_clsP 4 (RX4, TX4, 6) tyX4 := ⟨mm_inw inX4, tyX4_ok, nmX4, List.mem_filter.mpr ⟨by decide +kernel, rfl⟩, List.mem_filter.mpr ⟨by decide +kernel, rfl⟩, fun ks h => by cases h; exact ⟨rfl, mm_b4⟩⟩
theorem mm_b5 : ∀ j, j < 1 → (((mm_new 5).getD [])[j]? = some none ∧ defaultValue (tyX5 j) = .int 0) ∨ (((mm_new 5).getD [])[j]? = some (some none) ∧ defaultValue (tyX5 j) = .null) := by decide +kernel
theorem mm_cls5 : mm_clsP 5 (RX5, TX5, 1) tyX5 := ⟨mm_inw inX5, tyX5_ok, nmX5, List.mem_filter.mpr ⟨by decide +kernel, rfl⟩, List.mem_filter.mpr ⟨by decide +kernel, rfl⟩, fun ks h => by cases h; exact ⟨rfl, mm_b5⟩⟩
theorem mm_b6 : ∀ j, j < 3 → (((mm_new 6).getD [])[j]? = some none ∧ defaultValue (tyX6 j) = .int 0) ∨ (((mm_new 6).getD [])[j]? = some (some none) ∧ defaultValue (tyX6 j) = .null) := by decide +kernel
theorem mm_cls6 : mm_clsP 6 (RX6, TX6, 3) tyX6 := ⟨mm_inw inX6, tyX6_ok, nmX6, List.mem_filter.mpr ⟨by decide +kernel, rfl⟩, List.mem_filter.mpr ⟨by decide +kernel, rfl⟩, fun ks h => by cases h; exact ⟨rfl, mm_b6⟩⟩
theorem mm_b7 : ∀ j, j < 9 → (((mm_new 7).getD [])[j]? = some none ∧ defaultValue (tyX7 j) = .int 0) ∨ (((mm_new 7).getD [])[j]? = some (some none) ∧ defaultValue (tyX7 j) = .null) := by decide +kernel
theorem mm_cls7 : mm_clsP 7 (RX7, TX7, 9) tyX7 := ⟨mm_inw inX7, tyX7_ok, nmX7, List.mem_filter.mpr ⟨by decide +kernel, rfl⟩, List.mem_filter.mpr ⟨by decide +kernel, rfl⟩, fun ks h => by cases h; exact ⟨rfl, mm_b7⟩⟩
theorem mm_b8 : ∀ j, j < 2 → (((mm_new 8).getD [])[j]? = some none ∧ defaultValue (tyX8 j) = .int 0) ∨ (((mm_new 8).getD [])[j]? = some (some none) ∧ defaultValue (tyX8 j) = .null) := by decide +kernel
theorem mm_cls8 : mm_clsP 8 (RX8, TX8, 2) tyX8 := ⟨mm_inw inX8, tyX8_ok, nmX8, List.mem_filter.mpr ⟨by decide +kernel, rfl⟩, List.mem_filter.mpr ⟨by decide +kernel, rfl⟩, fun ks h => by cases h; exact ⟨rfl, mm_b8⟩⟩
theorem mm_b9 : ∀ j, j < 4 → (((mm_new 9).getD [])[j]? = some none ∧ defaultValue (tyX9 j) = .int 0) ∨ (((mm_new 9).getD [])[j]? = some (some none) ∧ defaultValue (tyX9 j) = .null) := by decide +kernel
theorem mm_cls9 : mm_clsP 9 (RX9, TX9, 4) tyX9 := ⟨mm_inw inX9, tyX9_ok, nmX9, List.mem_filter.mpr ⟨by decide +kernel, rfl⟩, List.mem_filter.mpr ⟨by decide +kernel, rfl⟩, fun ks h => by cases h; exact ⟨rfl, mm_b9⟩⟩
theorem mm_b10 : ∀ j, j < 5 → (((mm_new 10).getD [])[j]? = some none ∧ defaultValue (tyX10 j) = .int 0) ∨ (((mm_new 10).getD [])[j]? = some (some none) ∧ defaultValue (tyX10 j) = .null) := by decide +kernel
theorem mm_cls10 : mm_clsP 10 (RX10, TX10, 5) tyX10 := ⟨mm_inw inX10, tyX10_ok, nmX10, List.mem_filter.mpr ⟨by decide +kernel, rfl⟩, List.mem_filter.mpr ⟨by decide +kernel, rfl⟩, fun ks h => by cases h; exact ⟨rfl, mm_b10⟩⟩
theorem mm_b11 : ∀ j, j < 13 → (((mm_new 11).getD [])[j]? = some none ∧ defaultValue (tyX11 j) = .int 0) ∨ (((mm_new 11).getD [])[j]? = some (some none) ∧ defaultValue (tyX11 j) = .null) := by decide +kernel
theorem mm_cls11 : mm_clsP 11 (RX11, TX11, 13) tyX11 := ⟨mm_inw inX11, tyX11_ok, nmX11, List.mem_filter.mpr ⟨by decide +kernel, rfl⟩, List.mem_filter.mpr ⟨by decide +kernel, rfl⟩, fun ks h => by cases h; exact ⟨rfl, mm_b11⟩⟩
theorem mm_b12 : ∀ j, j < 68 → (((mm_new 12).getD [])[j]? = some none ∧ defaultValue (tyX12 j) = .int 0) ∨ (((mm_new 12).getD [])[j]? = some (some none) ∧ defaultValue (tyX12 j) = .null) := by decide +kernel
theorem mm_cls12 : mm_clsP 12 (RX12, TX12, 68) tyX12 := ⟨mm_inw inX12, tyX12_ok, nmX12, List.mem_filter.mpr ⟨by decide +kernel, rfl⟩, List.mem_filter.mpr ⟨by decide +kernel, rfl⟩, fun ks h => by cases h; exact ⟨rfl, mm_b12⟩⟩
theorem mm_cls {ci : Nat} {q : vw_C} (h : vwCl[ci]? = some q) : ∃ ty, mm_clsP ci q ty := by
  match ci, h with
  | 0, h => cases h; exact ⟨_, mm_cls0⟩
  | 1, h => cases h; exact ⟨_, mm_cls1⟩
  | 2, h => cases h; exact ⟨_, mm_cls2⟩
  | 3, h => cases h; exact ⟨_, mm_cls3⟩
  | 4, h => cases h; exact ⟨_, mm_cls4⟩
  | 5, h => cases h; exact ⟨_, mm_cls5⟩
  | 6, h => cases h; exact ⟨_, mm_cls6⟩
  | 7, h => cases h; exact ⟨_, mm_cls7⟩
  | 8, h => cases h; exact ⟨_, mm_cls8⟩
  | 9, h => cases h; exact ⟨_, mm_cls9⟩
  | 10, h => cases h; exact ⟨_, mm_cls10⟩
  | 11, h => cases h; exact ⟨_, mm_cls11⟩
  | 12, h => cases h; exact ⟨_, mm_cls12⟩
  | n + 13, h => simp at h
section MMS3
variable {p : Program} {l : Launch} {e : Env} {R : Room} {s : State} {m : MethodId} {args : Array Value} {below : List Frame} {meth : Method} {c : Code} {Z : State → Prop} {cc : ByteArray} {own mn : String} {nL : Nat} {D : va_G} {cs : Nat → ClassId} {b : Nat} {ad : Nat → Nat} {n0 s0 : Nat}
variable {pc len : Nat} {L L' : mm_L} {st st' : List Value} {u u' : mm_M} {x1 x2 : Nat} {x3 : Int}
theorem mm_fl_eq {own : String} {ix ci k w : Nat} (h : mm_fl own ix ci k w = true) : ∃ q : vw_C, vwCl[ci]? = some q ∧ k < q.2.2 ∧ mm_wd w = some (.fieldLink own ix (q.2.1 k).1 (q.2.1 k).2.1 (q.2.1 k).2.2.1) := by
  unfold mm_fl at h
  split at h
  · rename_i q hq
    simp only [Bool.and_eq_true, decide_eq_true_eq] at h
    exact ⟨q, hq, h.1, h.2⟩
  · cases h
theorem mm_fit (ty : FieldType) (t : Nat) (v : Value) (ht : (match (some ty : Option FieldType) with
    | some .int => decide (t = 0)
    | some .boolean => decide (t = 1)
    | some (.object _) => decide (t = 2)
    | some (.array _) => decide (t = 2)
    | _ => false) = true) (hv : (t = 0 ∧ ∃ x, v = .int x) ∨ (t = 1 ∧ ∃ x, v = .int x ∧ (x = 0 ∨ x = 1)) ∨ (t = 2 ∧ ∃ a, v = .ref a)) : narrow ty v = v ∧ fits ty v = true := by
  rcases hv with ⟨rfl, x, rfl⟩ | ⟨rfl, x, rfl, rfl | rfl⟩ | ⟨rfl, a, rfl⟩ <;> cases ty <;> first | (simp at ht; done) | exact ⟨rfl, rfl⟩ | exact ⟨by decide +kernel, by decide +kernel⟩
theorem mm_k23 (X : mm_C p s m args meth c cc own mn nL D cs b ad) (hd : mm_one own mn (23, x1, x2, x3) (decode cc pc) = some len) (hs : mm_stp (23, x1, x2, x3) L st u = some (L', st', u')) (k : mm_G p l e R s m args below meth c Z nL D cs b ad n0 s0 (pc + len) L' st' u') : mm_G p l e R s m args below meth c Z nL D cs b ad n0 s0 pc L st u := by
  obtain ⟨hx, hb, hml, hown, hts, hK, had, hmn, hbs⟩ := X
  intro h1 h2 H locs ls hR hS hl
  replace hs : ms_23 x1 x2 x3 L st u = some (L', st', u') := hs
  unfold ms_23 at hs
  replace hd := id hd
  change mc_23 own x1 x2 x3.toNat (decode cc pc) = some len at hd
  unfold mc_23 at hd
  split at hd
  · rename_i ix hdg
    split at hd
    · rename_i hfl
      cases hd
      obtain ⟨q, hq, hk, hw⟩ := mm_fl_eq hfl
      obtain ⟨ty, hin, hty, hnm, -⟩ := mm_cls hq
      split at hs
      · rename_i a st2
        split at hs
        · rename_i ci ks hsh
          split at hs
          · rename_i hci
            subst hci
            obtain ⟨ha, r, hr, hlen, cell, q1, q2, q3, q4⟩ := mm_R_obj hR hsh
            have hrq : r = q := Option.some.inj (hr.symm.trans hq)
            subst hrq
            obtain ⟨hSl, hfc, kC, hkC, hkind⟩ := hK.1 ci _ hq
            obtain ⟨cf, kf, fi, f, hi, hsl⟩ := hSl x2 hk
            have hst := (u_facts hfc hkC (u_lays hts hin hk) hi).1
            split at hs
            · rename_i r2 hr2
              cases hs
              refine W.getf hx hb hown (mm_wd_in ⟨hx, hts⟩ hw) hi hst q1 (by rw [q3]; exact fun h => by cases h) (v := .ref (ad r2)) ?_ rfl rfl hdg (k h1 h2 H locs ls hR hS hl)
              rw [hsl, q4 x2 hk, mm_fv, hr2]
              rfl
            · rename_i hr2
              cases hs
              refine W.getf hx hb hown (mm_wd_in ⟨hx, hts⟩ hw) hi hst q1 (by rw [q3]; exact fun h => by cases h) (v := .int (u.2.2.2.1 a x2)) ?_ rfl rfl hdg (k h1 h2 H locs ls hR hS hl)
              rw [hsl, q4 x2 hk, mm_fv, hr2]
            · cases hs
          · cases hs
        · cases hs
      · cases hs
    · cases hd
  · cases hd
theorem mm_put (X : mm_C p s m args meth c cc own mn nL D cs b ad) {ix w t a ci k2 : Nat} {ks ks' : List (Option (Option Nat))} {I' : Nat → Nat → Int32} {v : Value} (hdg : decode cc pc = .ok (.putfield ix, 3)) (hfl : mm_fl own ix ci k2 w = true) (hfp : mm_fp own mn ci k2 t = true) (hsh : u.2.2.1 a = .inl (ci, ks))
    (hv : (t = 0 ∧ ∃ x, mm_tr ad v = .int x) ∨ (t = 1 ∧ ∃ x, mm_tr ad v = .int x ∧ (x = 0 ∨ x = 1)) ∨ (t = 2 ∧ ∃ z, mm_tr ad v = .ref z)) (hI : ∀ q, q ≠ a → I' q = u.2.2.2.1 q) (hl2 : ks'.length = ks.length) (hfv : ∀ j, mm_fv ad (I' a) ks' j = if j = k2 then mm_tr ad v else mm_fv ad (u.2.2.2.1 a) ks j)
    (k : mm_G p l e R s m args below meth c Z nL D cs b ad n0 s0 (pc + 3) L st (u.1, u.2.1, mm_up u.2.2.1 a (.inl (ci, ks')), I', u.2.2.2.2)) : mm_G p l e R s m args below meth c Z nL D cs b ad n0 s0 pc L (v :: .ref a :: st) u := by
  obtain ⟨hx, hb, hml, hown, hts, hK, had, hmn, hbs⟩ := X
  intro h1 h2 H locs ls hR hS hl
  obtain ⟨q, hq, hk, hw⟩ := mm_fl_eq hfl
  obtain ⟨ty, hin, hty, hnm, -⟩ := mm_cls hq
  obtain ⟨ha, r, hr, hlen, cell, q1, q2, q3, q4⟩ := mm_R_obj hR hsh
  have hrq : r = q := Option.some.inj (hr.symm.trans hq)
  subst hrq
  have hap := va_apart (own := own) hts hin ty hty hnm hK hq
  obtain ⟨hSl, hfc, kC, hkC, hkind⟩ := hK.1 ci _ hq
  obtain ⟨cf, kf, fi, f, hi, hsl⟩ := hSl k2 hk
  have hst := (u_facts hfc hkC (u_lays hts hin hk) hi).1
  have hlay := hts _ (hin _ (u_in_lay hk))
  unfold u_lay at hlay
  unfold mm_fp at hfp
  rw [hq] at hfp
  simp only [Bool.and_eq_true, hty k2 hk] at hfp
  obtain ⟨hfin, hfp⟩ := hfp
  obtain ⟨hn, hfit⟩ := mm_fit (ty k2) t (mm_tr ad v) hfp hv
  have fin : ∀ H' : Heap, H'[ad a]? = some (cell.setSlot f.slot (mm_tr ad v)) → H'.size = H.size → (∀ q, q ≠ ad a → H'[q]? = H[q]?) → W p l e R s m args below meth c H' (locs ++ [⟨ad a, f.slot⟩]) (u.1 - n0) (u.2.1 - s0) Z (F0 m (pc + 3) ls (st.map (mm_tr ad))) := by
    intro H' e1 e2 e3
    refine k h1 h2 H' _ ls (mm_R_set had hR ha rfl (fun z hz => ⟨by simp [mm_up, hz], hI z hz, rfl⟩) e2 e3 ?_) (hS.put e2 e3 (mm_zone had hR ha)) hl
    unfold mm_at
    simp only [mm_up, if_pos]
    rw [hsl] at e1
    exact ⟨ha, r, hq, by rw [hl2]; exact hlen, t_OB.to (V := updV (mm_fv ad (u.2.2.2.1 a) ks) k2 (mm_tr ad v)) ⟨_, e1, q2, q3, t_set q4 hap hk _⟩ (fun j _ => by rw [hfv]; rfl)⟩
  by_cases hf : (r.2.1 k2).2.2.2 = true
  · rw [if_pos hf] at hlay
    simp only [hf, Bool.not_true, Bool.false_or, Bool.and_eq_true, decide_eq_true_eq] at hfin
    have hcf : m.cls = cf := by
      obtain ⟨_, _, c', _, _, _, -, -, hf', -, -, -, hown2, -⟩ := Cond.laysFinal_spec hlay
      have e1 : c' = cf := by have := hi.symm.trans hf'; simp at this; exact this.1.symm
      rw [hfin.2] at hown2
      rw [← e1]; exact Option.some.inj (hown.symm.trans hown2)
    have h6 := u_fits hfc hkC hkind (Or.inr hlay) hi (hty k2 hk) hn hfit
    exact W.putFinK hx hb hown (mm_wd_in ⟨hx, hts⟩ hw) hi hst hcf (hmn.trans hfin.1) (by rw [q2]; exact h6) q1 q3 (by rw [hsl]; exact k2_hasslot (q4 k2 hk)) rfl rfl hdg fin
  · rw [if_neg hf] at hlay
    have h6 := u_store hfc hkC hkind hlay hi (hty k2 hk) hn hfit
    exact W.putK hx hb (f := f) ⟨hown, mm_wd_in ⟨hx, hts⟩ hw, ⟨_, _, _, hi⟩, hst⟩ (by rw [q2]; exact h6) q1 q3 (by rw [hsl]; exact k2_hasslot (q4 k2 hk)) rfl rfl hdg fin
theorem mm_up_self {α : Type} (f : Nat → α) (a : Nat) : mm_up f a (f a) = f := by
  funext j
  unfold mm_up
  split
  · rename_i h; rw [h]
  · rfl
theorem mm_k24 (X : mm_C p s m args meth c cc own mn nL D cs b ad) (hd : mm_one own mn (24, x1, x2, x3) (decode cc pc) = some len) (hs : mm_stp (24, x1, x2, x3) L st u = some (L', st', u')) (k : mm_G p l e R s m args below meth c Z nL D cs b ad n0 s0 (pc + len) L' st' u') : mm_G p l e R s m args below meth c Z nL D cs b ad n0 s0 pc L st u := by
  replace hs : ms_24 x1 x2 x3 L st u = some (L', st', u') := hs
  unfold ms_24 at hs
  replace hd := id hd
  change mc_24 own mn x1 x2 x3.toNat 0 (decode cc pc) = some len at hd
  unfold mc_24 at hd
  split at hd
  · rename_i ix hdg
    split at hd
    · rename_i hfl
      cases hd
      split at hs
      · rename_i x a st2
        split at hs
        · rename_i ci ks hsh
          split at hs
          · rename_i hci
            obtain ⟨rfl, hks⟩ := hci
            cases hs
            refine mm_put X hdg hfl.1 hfl.2 hsh (Or.inl ⟨rfl, x, rfl⟩) (I' := mm_up2 u.2.2.2.1 a x2 x) (ks' := ks) (fun q hq => by funext z; simp [mm_up2, hq]) rfl (fun j => ?_) ?_
            · unfold mm_fv
              by_cases hj : j = x2
              · subst hj
                rw [hks]
                simp [mm_up2, mm_tr]
              · simp [hj, mm_up2]
            · rw [← hsh, mm_up_self]
              exact k
          · cases hs
        · cases hs
      · cases hs
    · cases hd
  · cases hd
theorem mm_k25 (X : mm_C p s m args meth c cc own mn nL D cs b ad) (hd : mm_one own mn (25, x1, x2, x3) (decode cc pc) = some len) (hs : mm_stp (25, x1, x2, x3) L st u = some (L', st', u')) (k : mm_G p l e R s m args below meth c Z nL D cs b ad n0 s0 (pc + len) L' st' u') : mm_G p l e R s m args below meth c Z nL D cs b ad n0 s0 pc L st u := by
  replace hs : ms_25 x1 x2 x3 L st u = some (L', st', u') := hs
  unfold ms_25 at hs
  replace hd := id hd
  change mc_24 own mn x1 x2 x3.toNat 1 (decode cc pc) = some len at hd
  unfold mc_24 at hd
  split at hd
  · rename_i ix hdg
    split at hd
    · rename_i hfl
      cases hd
      split at hs
      · rename_i x a st2
        split at hs
        · rename_i ci ks hsh
          split at hs
          · rename_i hci
            obtain ⟨rfl, hks, hx01⟩ := hci
            cases hs
            refine mm_put X hdg hfl.1 hfl.2 hsh (Or.inr (Or.inl ⟨rfl, x, rfl, hx01⟩)) (I' := mm_up2 u.2.2.2.1 a x2 x) (ks' := ks) (fun q hq => by funext z; simp [mm_up2, hq]) rfl (fun j => ?_) ?_
            · unfold mm_fv
              by_cases hj : j = x2
              · subst hj
                rw [hks]
                simp [mm_up2, mm_tr]
              · simp [hj, mm_up2]
            · rw [← hsh, mm_up_self]
              exact k
          · cases hs
        · cases hs
      · cases hs
    · cases hd
  · cases hd
theorem mm_k26 (X : mm_C p s m args meth c cc own mn nL D cs b ad) (hd : mm_one own mn (26, x1, x2, x3) (decode cc pc) = some len) (hs : mm_stp (26, x1, x2, x3) L st u = some (L', st', u')) (k : mm_G p l e R s m args below meth c Z nL D cs b ad n0 s0 (pc + len) L' st' u') : mm_G p l e R s m args below meth c Z nL D cs b ad n0 s0 pc L st u := by
  replace hs : ms_26 x1 x2 x3 L st u = some (L', st', u') := hs
  unfold ms_26 at hs
  replace hd := id hd
  change mc_24 own mn x1 x2 x3.toNat 2 (decode cc pc) = some len at hd
  unfold mc_24 at hd
  split at hd
  · rename_i ix hdg
    split at hd
    · rename_i hfl
      cases hd
      split at hs
      · rename_i r a st2
        split at hs
        · rename_i ci ks hsh
          split at hs
          · rename_i hci
            obtain ⟨rfl, hks⟩ := hci
            cases hs
            have hlt : x2 < ks.length := by
              rcases Nat.lt_or_ge x2 ks.length with h | h
              · exact h
              · rw [List.getElem?_eq_none h] at hks
                cases hks
            refine mm_put X hdg hfl.1 hfl.2 hsh (Or.inr (Or.inr ⟨rfl, ad r, rfl⟩)) (I' := u.2.2.2.1) (ks' := ks.set x2 (some (some r))) (fun q hq => rfl) (by simp) (fun j => ?_) k
            unfold mm_fv
            by_cases hj : j = x2
            · subst hj
              rw [List.getElem?_set_self hlt]
              simp [mm_tr, va_rf]
            · rw [List.getElem?_set_ne (fun h => hj h.symm), if_neg hj]
          · cases hs
        · cases hs
      · cases hs
    · cases hd
  · cases hd
end MMS3
