/-! ===== The text constants' steps ===== -/
theorem j_gd0 {α : Type} (a b d : α) : [a, b].getD 0 d = a := rfl
theorem j_gd1 {α : Type} (a b d : α) : [a, b].getD 1 d = b := rfl
theorem j_by0 : jBy.getD 0 [] = mm_words := j_gd0 mm_words mm_signs []
theorem j_by1 : jBy.getD 1 [] = mm_signs := j_gd1 mm_words mm_signs []
theorem j_text0 : mm_text 1000000 = jBy.getD 0 [] := (if_pos (c := 1000000 = 1000000) (t := mm_words) rfl).trans j_by0.symm
theorem j_text1 : mm_text 1000001 = jBy.getD 1 [] := ((if_neg (c := 1000001 = 1000000) (t := mm_words) (by omega)).trans (if_pos (c := 1000001 = 1000001) (t := mm_signs) rfl)).trans j_by1.symm
theorem j_ln2 : jLn.getD 0 0 = (jBy.getD 0 []).length ∧ jLn.getD 1 0 = (jBy.getD 1 []).length := ⟨(j_ln 0 (by omega)).1, (j_ln 1 (by omega)).1⟩
theorem j_tx {a : Nat} (h : a = 1000000 ∨ a = 1000001) : ∃ i, i < 2 ∧ a = 1000000 + i ∧ mm_text a = jBy.getD i [] := by
  rcases h with rfl | rfl
  · exact ⟨0, by omega, rfl, j_text0⟩
  · exact ⟨1, by omega, rfl, j_text1⟩
theorem j_textN {a : Nat} (h0 : a ≠ 1000000) (h1 : a ≠ 1000001) : mm_text a = [] := by
  unfold mm_text
  rw [if_neg h0, if_neg h1]
theorem j_SWok {l : Launch} {D : va_G} {cs : Nat → ClassId} {b : Nat} {ad aK aV : Nat → Nat} {z z0 : Value} (hj : jAd ad aK aV z z0) (had : ∀ q, q < 1000000 → ad q = b + q) : mm_SWok l D cs b ad (jSW b aK aV z) := by
  refine ⟨fun s U H locs h hS hU hW _ => jSW_move h hS hU hW, fun U g mk a h => jSW_call h, ?_⟩
  intro p e R s m args below meth c Z cc own mn nL n0 s0 hsw hN X hrm
  intro op x1 x2 x3 pc len L L' st st' u u' hop hroom hd hs k
  rcases hop with rfl | rfl | rfl
  · replace hs : some (L, .ref (1000000 + x1) :: st, u) = some (L', st', u') := hs
    cases hs
    replace hd : mc_9 own x1 (decode cc pc) = some len := hd
    unfold mc_9 at hd
    split at hd
    · rename_i ix hdg
      split at hd
      · rename_i hc
        cases hd
        obtain ⟨rfl, hc⟩ := hc
        obtain ⟨hx, hb, hml, hown, hts, hK, had, hmn, hbs⟩ := X
        intro g1 g2 H locs ls hR hS hl
        have h2 := k g1 g2 H locs ls hR hS hl
        change W p l e R s m args below meth c H locs _ _ Z (F0 m (pc + 2) ls (.ref (ad (1000000 + x1)) :: st.map (mm_tr ad))) at h2
        rcases hc with ⟨rfl, rfl⟩ | ⟨rfl, rfl⟩
        · rw [(hj.1 0 (by omega)).1] at h2
          exact va_ldcS hx hb hown hsw.1 hdg h2
        · rw [(hj.1 1 (by omega)).1] at h2
          exact va_ldcS hx hb hown hsw.2.1 hdg h2
      · cases hd
    · cases hd
  · replace hs : ms_41 x1 x2 x3 L st u = some (L', st', u') := hs
    replace hd : mc_41 own x2 (decode cc pc) = some len := hd
    unfold mc_41 at hd
    split at hd
    · rename_i ix hdg
      split at hd
      · rename_i hw
        cases hd
        unfold ms_41 at hs
        split at hs
        · rename_i j a
          split at hs
          · rename_i hj0
            split at hs
            · rename_i x hx
              cases hs
              have ha : a = 1000000 ∨ a = 1000001 := by
                by_cases e0 : a = 1000000
                · exact Or.inl e0
                · by_cases e1 : a = 1000001
                  · exact Or.inr e1
                  · rw [j_textN e0 e1] at hx
                    cases hx
              obtain ⟨i, hi, rfl, et⟩ := j_tx ha
              rw [et] at hx
              obtain ⟨n, hn, rfl⟩ := nI_of hj0
              rw [nI_clamp hn] at hx
              obtain ⟨hl, ex⟩ := List.getElem?_eq_some_iff.mp hx
              have hjl : n < jLn.getD i 0 := by rw [(j_ln i hi).1]; exact hl
              have ev : (jBy.getD i []).getD n 0 = x := by rw [List.getD_eq_getElem?_getD, hx]; rfl
              refine j_callV (w9 := x2) (d := 3) (as := [.int (nI n)]) (rest := []) (t := jt_cha) (v := some (.int x)) hj X hN hsw jw_cha jc_cha ?_ rfl (by decide) ⟨by omega, by omega⟩ hroom rfl hi (by decide) (ev ▸ j_cha hj had hi hjl) k
              unfold mm_cck
              rw [hdg]
              simp only [hw, Bool.and_eq_true]
              exact ⟨rfl, decide_eq_true rfl⟩
            · cases hs
          · cases hs
        · cases hs
      · cases hd
    · cases hd
  · replace hs : ms_42 x1 x2 x3 L st u = some (L', st', u') := hs
    replace hd : mc_42 own x2 (decode cc pc) = some len := hd
    unfold mc_42 at hd
    split at hd
    · rename_i ix hdg
      split at hd
      · rename_i hw
        cases hd
        unfold ms_42 at hs
        split at hs
        · rename_i x a
          split at hs
          · rename_i ha
            cases hs
            obtain ⟨i, hi, rfl, et⟩ := j_tx ha
            rw [et] at k
            refine j_callV (w9 := x2) (d := 3) (as := [.int x]) (rest := []) (t := jt_io1) (v := some (.int (mm_find x (jBy.getD i []) 0))) hj X hN hsw jw_io1 jc_io1 ?_ rfl (by decide) ⟨by omega, by omega⟩ hroom rfl hi (by decide) (j_io1 hj had hi) k
            unfold mm_cck
            rw [hdg]
            simp only [hw, Bool.and_eq_true]
            exact ⟨rfl, decide_eq_true rfl⟩
          · cases hs
        · cases hs
      · cases hd
    · cases hd
