/-! ===== A run of the small machine is the machine's ===== -/
def mm_ws (t : mm_T) : List Jvm.Cond := .code t.1 t.2.1 t.2.2.1 t.2.2.2.1 :: mm_tg
def mm_rm (d mc ms : Nat) : Room := { frames := d + 10, cells := mc, slots := ms, locals := 40 * d + 400 }
/-- the words that are carried beside the others -/
def mm_N (U : State) : Prop := ∀ w ∈ lw_tbl, mm_kn w = true → va_Nw w U
def mm_Wd (D : va_G) (cs : Nat → ClassId) (b : Nat) (ad : Nat → Nat) (SW : State → Prop) (u : mm_M) (U : State) : Prop := mm_R D cs b ad u U.heap ∧ va_K D vwCl (mm_tys cs) U ∧ mm_N U ∧ SW U
def mm_Qc (D : va_G) (cs : Nat → ClassId) (b : Nat) (ad : Nat → Nat) (v : Option Value) (w : mm_M) : Array Value → State → Outcome → State → Prop := fun _ st oc t => oc = .returned (v.map (mm_tr ad)) ∧ mm_R D cs b ad w t.heap ∧ va_F (fun q => b ≤ q) st t
def mm_Ok (l : Launch) (D : va_G) (cs : Nat → ClassId) (b : Nat) (ad : Nat → Nat) (SW : State → Prop) (tb : Nat → Option mm_T) (d : Nat) (C : mm_Cs) : Prop := ∀ (y : Nat) (as : List Value) (u : mm_M) (v : Option Value) (w : mm_M) (t : mm_T), tb y = some t → C y as u v w →
  Met l t.1 (mm_ws t) (mm_rm d (w.1 - u.1) (w.2.1 - u.2.1)) (va_Pc (as.map (mm_tr ad)) (mm_Wd D cs b ad SW u)) (mm_Qc D cs b ad v w) (w.1 - u.1) (w.2.1 - u.2.1) (fun q => b ≤ q)
/-- what is asked of the text constants' world -/
def mm_SWok (l : Launch) (D : va_G) (cs : Nat → ClassId) (b : Nat) (ad : Nat → Nat) (SW : State → Prop) : Prop :=
  (∀ (s U : State) (H : Heap) (locs : List Loc), SW s → va_S (fun q => b ≤ q) s.heap H locs → U.heap = H → s.WarmedH U.vm → b ≤ s.heap.size → SW U) ∧ (∀ (U : State) (g : JFrame) (mk : MethodId) (a : Array Value), SW U → SW (U.calling g mk a)) ∧
  ∀ (p : Program) (e : Env) (R : Room) (s : State) (m : MethodId) (args : Array Value) (below : List Frame) (meth : Method) (c : Code) (Z : State → Prop) (cc : ByteArray) (own mn : String) (nL n0 s0 : Nat), SW s → mm_N s → mm_C p s m args meth c cc own mn nL D cs b ad → (10 ≤ R.frames ∧ 200 ≤ R.locals) → mm_Str p l e R s m args below meth c Z cc own mn nL D cs b ad n0 s0
theorem mm_kn_tab {w : Jvm.Cond} (h : mm_kn w = true) : (∃ a i y h, w = .methodLinkNest a i y h) ∨ ∃ C, w = .arrayOver (.object C) := by
  unfold mm_kn at h
  split at h
  · exact Or.inl ⟨_, _, _, _, rfl⟩
  · exact Or.inr ⟨_, rfl⟩
  · cases h
theorem mm_N_warm {s U : State} (hW : s.WarmedH U.vm) (h : mm_N s) : mm_N U := by
  intro w hw hk
  have h1 := h w hw hk
  rcases mm_kn_tab hk with ⟨a, i, y, h9, rfl⟩ | ⟨C, rfl⟩
  · exact va_Nw.warmM hW h1
  · exact va_AO.moved (C := C) hW.alike h1
theorem mm_N_same {u U : State} (hv : u.vm = U.vm) (h : mm_N u) : mm_N U := by
  intro w hw hk
  have h1 := h w hw hk
  rcases mm_kn_tab hk with ⟨a, i, y, h9, rfl⟩ | ⟨C, rfl⟩
  · exact va_Nw.same rfl hv h1
  · exact va_AO.moved (C := C) (by rw [hv]; exact Vm.Alike.refl U.vm) h1
theorem mm_hts {t : mm_T} {args : Array Value} {s : State} (h : ∀ w ∈ mm_ws t, w.before args s = true) (hN : mm_N s) : ∀ w ∈ mm_tb, w.before args s = true := by
  intro w hw
  obtain ⟨h1, h2⟩ := List.mem_filter.mp hw
  by_cases hk : mm_kg w = true
  · exact h w (List.mem_cons_of_mem _ (List.mem_filter.mpr ⟨h1, hk⟩))
  · have hk2 : mm_kn w = true := by
      cases hkk : mm_kg w
      · rw [hkk] at h2; exact h2
      · exact absurd hkk hk
    have h3 := hN w h1 hk2
    rcases mm_kn_tab hk2 with ⟨a, i, y, h9, rfl⟩ | ⟨C, rfl⟩
    · exact va_Nw.use rfl h3
    · exact va_AO.use (C := C) h3
theorem mm_blind {D : va_G} {cs : Nat → ClassId} {b : Nat} {ad : Nat → Nat} {SW : State → Prop} {as : List Value} {u : mm_M} {l : Launch} (hSW : mm_SWok l D cs b ad SW) : FrameBlind (va_Pc (as.map (mm_tr ad)) (mm_Wd D cs b ad SW u)) := by
  intro a U g mk q
  obtain ⟨q0, qR, qK, qN, qS⟩ := q
  exact ⟨q0, qR, va_K.moved (u := U) (U := U.calling g mk a) (Vm.Alike.refl U.vm) qK, mm_N_same (u := U) (U := U.calling g mk a) rfl qN, hSW.2.1 U g mk a qS⟩
theorem mm_good {w : Nat} {x : Jvm.Cond} (h : mm_wd w = some x) (hk : mm_kg x = true := by rfl) : x ∈ mm_tg := List.mem_filter.mpr ⟨mm_wd_mem h, hk⟩
/-- a callee's words are the caller's -/
theorem mm_gin {t : mm_T} (h : mm_wd (t.2.2.2.2.2.2.2.getD 0 0) = some (.code t.1 t.2.1 t.2.2.1 t.2.2.2.1)) {t0 : mm_T} : GoodIn (mm_ws t0) (mm_ws t) := by
  intro w hw
  have hm : w ∈ mm_tg := by
    rcases List.mem_cons.mp hw with rfl | hw
    · exact mm_good h
    · exact hw
  exact ⟨List.mem_cons_of_mem _ hm, (mm_tg_good w hm).2⟩
section MMC
variable {p : Program} {l : Launch} {e : Env} {R : Room} {s : State} {m : MethodId} {args : Array Value} {below : List Frame} {meth : Method} {c : Code} {Z : State → Prop} {cc : ByteArray} {own mn : String} {nL : Nat} {D : va_G} {cs : Nat → ClassId} {b : Nat} {ad : Nat → Nat} {n0 s0 : Nat}
variable {pc : Nat} {L : mm_L} {st : List Value} {u w : mm_M}
/-- behind a call -/
theorem mm_after {v : Option Value} {H : Heap} {locs : List Loc} {ls : Array Slot} {st0 : List Value} {a : Array Value} (hn : n0 ≤ u.1) (hs : s0 ≤ u.2.1) (hm1 : u.1 ≤ w.1) (hm2 : u.2.1 ≤ w.2.1) (hS : va_S (fun q => b ≤ q) s.heap H locs) (hl : mm_lv ad ls nL L)
    (hr : va_Run p l e R s m args below meth c H locs (u.1 - n0) (u.2.1 - s0) (w.1 - u.1) (w.2.1 - u.2.1) (F0 m pc ls st0) (st.map (mm_tr ad)) (mm_Qc D cs b ad v w a) (fun q => b ≤ q))
    (k : mm_G p l e R s m args below meth c Z nL D cs b ad n0 s0 (pc + 3) L (v.toList ++ st) w) : W p l e R s m args below meth c H locs (u.1 - n0) (u.2.1 - s0) Z (F0 m pc ls st0) := by
  intro T hT X
  obtain ⟨v1, st₀, t, T', L1, g0, X', hL, e1, e2, ⟨hv, hR1, hz, hk⟩, stp⟩ := hr T hT X
  cases hv
  rw [g0] at hz hk
  rw [show u.1 - n0 + (w.1 - u.1) = w.1 - n0 by omega, show u.2.1 - s0 + (w.2.1 - u.2.1) = w.2.1 - s0 by omega] at X'
  obtain ⟨t2, a1, b1⟩ := k (by omega) (by omega) T'.heap (locs ++ L1) ls (by rw [e1]; exact hR1) ⟨Nat.le_trans hS.1 (by rw [e1]; exact hz), fun q h1 h2 => by rw [e1, hk q (Nat.lt_of_lt_of_le h1 hS.1) h2]; exact hS.2.1 q h1 h2, fun q hq => by
      rcases List.mem_append.mp hq with h | h
      · exact hS.2.2 q h
      · exact hL q h⟩ hl T' rfl X'
  refine ⟨t2, stp t2 ?_, b1⟩
  have e9 : (v.map (mm_tr ad)).toList ++ st.map (mm_tr ad) = (v.toList ++ st).map (mm_tr ad) := by cases v <;> simp
  rw [e9]
  exact a1
end MMC
