/-! ===== The small machine is sound ===== -/
/-- the tables fit: each method's words, its labels, its bytes -/
def mm_Tab (tb : Nat → Option mm_T) (Nf : mm_Nf) (Cd : Nat → Nat → List mm_I) (Ml : Nat → Nat) (lab : Nat → Nat → Nat) : Prop := ∀ (y : Nat) (t : mm_T), tb y = some t →
  mm_cw t ∧ mm_tck t = true ∧ t.2.2.1 ≤ 20 ∧ Ml y = t.2.2.1 ∧ Nf y = (t.2.2.2.2.2.2.1 + (if t.2.2.2.2.1 = 0 then 0 else 1), t.2.2.2.2.1, t.2.2.2.2.2.1) ∧ lab y 0 = 0 ∧ ∀ bl, mm_chk tb t.1.cls t.1.name t.2.2.2.1 t.2.1 (lab y) (lab y bl) (Cd y bl) = true
section MME
variable {p : Program} {l : Launch} {e : Env} {R : Room} {s : State} {m : MethodId} {args : Array Value} {below : List Frame} {meth : Method} {c : Code} {cc : ByteArray} {own mn : String} {nL : Nat} {D : va_G} {cs : Nat → ClassId} {b : Nat} {ad : Nat → Nat} {n0 s0 : Nat} {SW : State → Prop} {tb : Nat → Option mm_T} {C : mm_Cs} {d : Nat} {Nf : mm_Nf} {B : Nat → List mm_I} {Cd : Nat → Nat → List mm_I} {Ml : Nat → Nat} {lb : Nat → Nat} {lab : Nat → Nat → Nat} {rt : Option FieldType} {v : Option Value} {w : mm_M}
theorem mm_run_ok (X : mm_C p s m args meth c cc own mn nL D cs b ad) (hN : mm_N s) (hsw : SW s) (hSW : mm_SWok l D cs b ad SW) (hOk : mm_Ok l D cs b ad SW tb d C) (hC : mm_Mono C) (hT : mm_Tab tb Nf Cd Ml lab) (hB : ∀ bl, mm_chk tb own mn rt cc lb (lb bl) (B bl) = true) (hr : meth.sig.returnType = rt) (hlk : meth.locks = false)
    (hRf : d + 11 ≤ R.frames ∧ 40 * d + 440 ≤ R.locals) (hRc : R.cells = w.1 - n0) (hRs : R.slots = w.2.1 - s0) :
    ∀ (n : Nat) (is : List mm_I) (pc : Nat) (L : mm_L) (st : List Value) (u : mm_M), mm_chk tb own mn rt cc lb pc is = true → mm_run C Nf B n is L st u v w →
      mm_G p l e R s m args below meth c (MQ below (mm_Qc D cs b ad v w) args s (w.1 - n0) (w.2.1 - s0) (fun q => b ≤ q)) nL D cs b ad n0 s0 pc L st u := by
  have hrm : 10 ≤ R.frames ∧ 200 ≤ R.locals := ⟨Nat.le_trans (by omega) hRf.1, Nat.le_trans (by omega) hRf.2⟩
  have hstr : ∀ Z, mm_Str p l e R s m args below meth c Z cc own mn nL D cs b ad n0 s0 := fun Z => hSW.2.2 p e R s m args below meth c Z cc own mn nL n0 s0 hsw hN X hrm
  intro n
  induction n with
  | zero => intro is pc L st u _ h; cases is <;> exact h.elim
  | succ n ih =>
    intro is pc L st u hc h
    cases is with
    | nil => exact h.elim
    | cons i is =>
      unfold mm_run at h
      unfold mm_chk at hc
      split at h
      · rename_i hi
        rw [if_pos hi] at hc
        split at h
        · rename_i r hs
          obtain ⟨L2, st2, u2⟩ := r
          split at hc
          · rename_i len hd
            have hm := mm_run_mono hC n _ _ _ _ _ _ h
            exact mm_sok X (hstr _) hrm (by rw [hRc, hRs]; dsimp only at hm; omega) hd hs (ih _ _ _ _ _ hc h)
          · cases hc
        · exact h.elim
      · rename_i hi
        rw [if_neg hi] at hc
        split at h
        · rename_i hi2
          rw [if_pos hi2] at hc
          split at h
          · rename_i r hs
            obtain ⟨b2, st2⟩ := r
            exact mm_jok X hc hs (ih _ _ _ _ _ (hB b2) h)
          · exact h.elim
        · rename_i hi2
          rw [if_neg hi2] at hc
          split at h
          · rename_i hi3
            rw [if_pos hi3] at hc
            split at hc
            · rename_i t ht
              simp only [Bool.and_eq_true] at hc
              obtain ⟨c2, c3⟩ := hc
              obtain ⟨g1, g2, g3, u1v, u1, g4, g5⟩ := h
              obtain ⟨tw, t1, t2, t3, t4, t5, t6⟩ := hT _ t ht
              have hm := mm_run_mono hC n _ _ _ _ _ _ g5
              have hm1 := hC _ _ _ _ _ g4
              refine mm_call X hN hsw hSW hOk ht tw t1 c2 (na := (Nf i.2.1).1) (kd := (Nf i.2.1).2.1) (rc := (Nf i.2.1).2.2) (by rw [t4]) (by rw [t4]) (by rw [t4]) t2 hRf (by rw [hRc, hRs]; omega) hm1.1 hm1.2 g1 g2 g3 g4 (ih _ _ _ _ _ c3 g5)
            · cases hc
          · rename_i hi3
            rw [if_neg hi3] at hc
            obtain ⟨hx, hb, hml, hown, hts, hK, had, hmn, hbs⟩ := X
            intro q1 q2 H locs ls hR hS hl
            split at h
            · rename_i hi4
              rw [if_pos hi4] at hc
              simp only [Bool.and_eq_true, decide_eq_true_eq] at hc
              split at h
              · obtain ⟨rfl, rfl⟩ := h
                exact W.iret hx hb (hr.trans hc.2) (fun t ht hW => ⟨rfl, by rw [ht]; exact hR, hS.F ht⟩) hS.2.2 hc.1 hlk
              · exact h.elim
            · rename_i hi4
              rw [if_neg hi4] at hc
              split at h
              · rename_i hi5
                rw [if_pos hi5] at hc
                simp only [Bool.and_eq_true, decide_eq_true_eq] at hc
                split at h
                · rename_i x
                  obtain ⟨h01, rfl, rfl⟩ := h
                  refine W.zret hx hb (hr.trans hc.2) ?_ (fun t ht hW => ⟨rfl, by rw [ht]; exact hR, hS.F ht⟩) hS.2.2 hc.1 hlk
                  rcases h01 with rfl | rfl <;> decide +kernel
                · exact h.elim
              · rename_i hi5
                rw [if_neg hi5] at hc
                split at h
                · rename_i hi6
                  rw [if_pos hi6] at hc
                  simp only [Bool.and_eq_true, decide_eq_true_eq] at hc
                  split at h
                  · obtain ⟨rfl, rfl⟩ := h
                    exact W.lret hx hb (hr.trans hc.2) (fun t ht hW => ⟨rfl, by rw [ht]; exact hR, hS.F ht⟩) hS.2.2 hc.1 hlk
                  · exact h.elim
                · rename_i hi6
                  rw [if_neg hi6] at hc
                  simp only [Bool.and_eq_true, decide_eq_true_eq] at hc
                  obtain ⟨-, rfl, rfl, rfl⟩ := h
                  exact W.vret hx hb (hr.trans hc.2) (fun t ht hW => ⟨rfl, by rw [ht]; exact hR, hS.F ht⟩) hS.2.2 hc.1 hlk
theorem mm_ev_ok (hSW : mm_SWok l D cs b ad SW) (had : ∀ q, q < 1000000 → ad q = b + q) (hT : mm_Tab tb Nf Cd Ml lab) : ∀ d, mm_Ok l D cs b ad SW tb d (mm_ev Nf Cd Ml d) := by
  intro d
  induction d with
  | zero => intro y as u v w t _ h; exact h.elim
  | succ d ih =>
    intro y as u v w t ht h
    obtain ⟨hlen, n, h⟩ := h
    obtain ⟨tw, t1, t2, t3, t4, t5, t6⟩ := hT y t ht
    have hck := t1
    unfold mm_tck at hck
    simp only [Bool.and_eq_true, decide_eq_true_eq] at hck
    obtain ⟨⟨⟨k2, k3⟩, -⟩, -⟩ := hck
    refine Met.ofW (cc := t.2.1) (maxL := t.2.2.1) (ret := t.2.2.2.1) k3 rfl ?_
    intro p e s m args below meth c s₁ Bd hml hv
    obtain ⟨rfl, hR, hK, hN, hsw⟩ := hv
    have hts0 := atoms_spec (ws := mm_ws t) Bd.pre
    have hts := mm_hts hts0 hN
    have hown : s.vm.findClass t.1.cls = some m.cls := findClass_of_methodNamed Bd.named
    have hnm : meth.name = t.1.name := (name_of_methodNamed Bd.named Bd.method).1
    have X : mm_C p s m (as.map (mm_tr ad)).toArray meth c t.2.1 t.1.cls t.1.name t.2.2.1 D cs b ad := ⟨Bd.exec, Bd.bytes, hml, hown, hts, hK, had, hnm, by rw [hR.1]; omega⟩
    rw [t3] at h hlen
    rw [lg_entry_eq]
    have hG := mm_run_ok (R := (headSpec (mm_ws t) (mm_rm (d + 1) (w.1 - u.1) (w.2.1 - u.2.1))).room) (l := l) (e := e) (below := below) (n0 := u.1) (s0 := u.2.1) X hN hsw hSW ih (mm_ev_mono Nf Cd Ml d) hT t6 Bd.returns Bd.notSynchronized ⟨by show d + 11 ≤ d + 1 + 10; omega, by show 40 * d + 440 ≤ 40 * (d + 1) + 400; omega⟩ rfl rfl n _ 0 _ _ u (by have := t6 0; rw [t5] at this; exact this) h
    have := hG (Nat.le_refl _) (Nat.le_refl _) s.heap [] _ hR va_S.rf (mm_entry hlen)
    rw [Nat.sub_self, Nat.sub_self] at this
    exact this
end MME
