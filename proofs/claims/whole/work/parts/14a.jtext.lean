/-! ===== The text constants: their world, and rules over it ===== -/
def jBy : List (List Int32) := [mm_words, mm_signs]
def jLn : List Nat := [168, 9]
def jSW (b : Nat) (aK aV : Nat → Nat) (z : Value) (U : State) : Prop :=
  vk_R "FenceSides$Tokens" 25 "field   person  hedge   heirs   grows   dies    falls   costs   seed    if      then    else    high    years   age     faces   which   outer   inner   clipped gaps    " (aK 0) U ∧ vk_R "FenceSides$Tokens" 71 ";=+-*/<()" (aK 1) U ∧ vk_S 2 jLn jBy aK aV (fun q => b ≤ q) U U.heap ∧ va_Z "java/lang/String" "COMPACT_STRINGS" "Z" (.int 1) (fun q => b ≤ q) U U.heap ∧ va_Z "jdk/internal/util/Preconditions" "SIOOBE_FORMATTER" "Ljava/util/function/BiFunction;" z (fun q => b ≤ q) U U.heap
/-- the names of their cells -/
def jAd (ad aK aV : Nat → Nat) (z z0 : Value) : Prop := (∀ i, i < 2 → ad (1000000 + i) = aK i ∧ ad (1000003 + i) = aV i) ∧ mm_tr ad z0 = z ∧ (z0 = .null ∨ z0 = .ref 1000005)
theorem jSW_move {b : Nat} {aK aV : Nat → Nat} {z : Value} {s U : State} {H : Heap} {locs : List Loc} (h : jSW b aK aV z s) (hS : va_S (fun q => b ≤ q) s.heap H locs) (hU : U.heap = H) (hW : s.WarmedH U.vm) : jSW b aK aV z U := by
  obtain ⟨h1, h2, h3, h4, h5⟩ := h
  have hk : ∀ a : Nat, a < s.heap.size → ¬ b ≤ a → U.heap[a]? = s.heap[a]? := fun a ha hb => by rw [hU]; exact hS.2.1 a ha hb
  exact ⟨vk_R.warm hW h1, vk_R.warm hW h2, (vk_S.moved hW.alike h3).kept hk, (va_Z.moved hW.alike h4).kept hk, (va_Z.moved hW.alike h5).kept hk⟩
theorem jSW_call {b : Nat} {aK aV : Nat → Nat} {z : Value} {U : State} {g : JFrame} {mk : MethodId} {a : Array Value} (h : jSW b aK aV z U) : jSW b aK aV z (U.calling g mk a) := by
  obtain ⟨h1, h2, h3, h4, h5⟩ := h
  exact ⟨vk_R.same (u := U) rfl h1, vk_R.same (u := U) rfl h2, vk_S.moved (u := U) (U := U.calling g mk a) (Vm.Alike.refl U.vm) h3, va_Z.moved (u := U) (U := U.calling g mk a) (Vm.Alike.refl U.vm) h4, va_Z.moved (u := U) (U := U.calling g mk a) (Vm.Alike.refl U.vm) h5⟩
/-- room of a text's method with d calls below it -/
def jr (d : Nat) : Room := { frames := d, cells := 0, slots := 0, locals := 30 * d }
def jM (l : Launch) (D : va_G) (cs : Nat → ClassId) (b : Nat) (ad aK aV : Nat → Nat) (z : Value) (t : mm_T) (d : Nat) (as : List Value) (v : Option Value) : Prop := ∀ u : mm_M, Met l t.1 (mm_ws t) (jr d) (va_Pc (as.map (mm_tr ad)) (mm_Wd D cs b ad (jSW b aK aV z) u)) (mm_Qc D cs b ad v u) 0 0 (fun q => b ≤ q)
theorem j_blind {D : va_G} {cs : Nat → ClassId} {b : Nat} {ad aK aV : Nat → Nat} {z : Value} {as : List Value} {u : mm_M} : FrameBlind (va_Pc (as.map (mm_tr ad)) (mm_Wd D cs b ad (jSW b aK aV z) u)) := by
  intro a U g mk q
  obtain ⟨q0, qR, qK, qN, qS⟩ := q
  exact ⟨q0, qR, va_K.moved (u := U) (U := U.calling g mk a) (Vm.Alike.refl U.vm) qK, mm_N_same (u := U) (U := U.calling g mk a) rfl qN, jSW_call qS⟩
/-- the words of a text's method -/
def jck (t : mm_T) : Bool :=
  decide (mm_wd (t.2.2.2.2.2.2.2.getD 3 0) = some (.initialized t.1.cls)) && plainName t.1.cls &&
  (decide (t.1.cls ≠ "java/lang/invoke/MethodHandle") && decide (t.1.cls ≠ "java/lang/invoke/VarHandle") && decide ((parseMethodDescriptor t.1.desc).map (fun d => d.parameters.length) = some t.2.2.2.2.2.2.1)) &&
  (match t.2.2.2.2.1 with
  | 0 => decide (mm_wd (t.2.2.2.2.2.2.2.getD 1 0) = some (.static t.1))
  | _ => decide (mm_wd (t.2.2.2.2.2.2.2.getD 1 0) = some (.instanceMethod t.1)) && decide (mm_wd (t.2.2.2.2.2.2.2.getD 2 0) = some (.selects t.1.cls t.1 t.1)) && decide (t.1.cls = "java/lang/String"))
section JTX
variable {p : Program} {l : Launch} {e : Env} {R : Room} {s : State} {m : MethodId} {args : Array Value} {below : List Frame} {meth : Method} {c : Code} {Z : State → Prop} {cc : ByteArray} {own mn : String} {nL : Nat} {D : va_G} {cs : Nat → ClassId} {b : Nat} {ad : Nat → Nat} {n0 s0 : Nat}
variable {pc len : Nat} {L L' : mm_L} {st st' as rest : List Value} {u u' : mm_M} {aK aV : Nat → Nat} {z z0 : Value} {t : mm_T} {d i : Nat} {v : Option Value}
theorem jM_of (hck : jck t = true) (hlen : (mm_slots as).length ≤ t.2.2.1) (h : ∀ (u : mm_M) (p : Program) (e : Env) (s : State) (m : MethodId) (args : Array Value) (below : List Frame) (meth : Method) (c : Code), mm_C p s m args meth c t.2.1 t.1.cls t.1.name t.2.2.1 D cs b ad → mm_N s → jSW b aK aV z s → meth.sig.returnType = t.2.2.2.1 → meth.locks = false →
    mm_G p l e (jr d) s m args below meth c (MQ below (mm_Qc D cs b ad v u) args s 0 0 (fun q => b ≤ q)) t.2.2.1 D cs b ad u.1 u.2.1 0 (mm_fr t.2.2.1 as) [] u) (had : ∀ q, q < 1000000 → ad q = b + q) : jM l D cs b ad aK aV z t d as v := by
  intro u
  unfold jck at hck
  simp only [Bool.and_eq_true] at hck
  obtain ⟨⟨⟨k2, k3⟩, -⟩, -⟩ := hck
  refine Met.ofW (cc := t.2.1) (maxL := t.2.2.1) (ret := t.2.2.2.1) k3 rfl ?_
  intro p e s m args below meth c s₁ Bd hml hv
  obtain ⟨rfl, hR, hK, hN, hsw⟩ := hv
  have hts0 := atoms_spec (ws := mm_ws t) Bd.pre
  have hts := mm_hts hts0 hN
  have hown : s.vm.findClass t.1.cls = some m.cls := findClass_of_methodNamed Bd.named
  have hnm : meth.name = t.1.name := (name_of_methodNamed Bd.named Bd.method).1
  have X : mm_C p s m (as.map (mm_tr ad)).toArray meth c t.2.1 t.1.cls t.1.name t.2.2.1 D cs b ad := ⟨Bd.exec, Bd.bytes, hml, hown, hts, hK, had, hnm, by rw [hR.1]; omega⟩
  rw [lg_entry_eq]
  have hG := h u p e s m _ below meth c X hN hsw Bd.returns Bd.notSynchronized
  have := hG (Nat.le_refl _) (Nat.le_refl _) s.heap [] _ hR va_S.rf (mm_entry hlen)
  rw [Nat.sub_self, Nat.sub_self] at this
  exact this
/-- a straight step without a call or a making -/
theorem js_ok (X : mm_C p s m args meth c cc own mn nL D cs b ad) {i : mm_I} (hop : i.1 < 36 ∧ i.1 ≠ 9) (hd : mm_one own mn i (decode cc pc) = some len) (hs : mm_stp i L st u = some (L', st', u')) (k : mm_G p l e R s m args below meth c Z nL D cs b ad n0 s0 (pc + len) L' st' u') : mm_G p l e R s m args below meth c Z nL D cs b ad n0 s0 pc L st u := by
  obtain ⟨op, x1, x2, x3⟩ := i
  have hs0 := hs
  unfold mm_stp at hs
  dsimp only at hs
  split at hs
  · exact mm_k0 X hd hs0 k
  · exact mm_k1 X hd hs0 k
  · exact mm_k2 X hd hs0 k
  · exact mm_k3 X hd hs0 k
  · exact mm_k4 X hd hs0 k
  · exact mm_k5 X hd hs0 k
  · exact mm_k6 X hd hs0 k
  · exact mm_k7 X hd hs0 k
  · exact mm_k8 X hd hs0 k
  · exact absurd rfl hop.2
  · exact mm_k10 X hd hs0 k
  · exact mm_k11 X hd hs0 k
  · exact mm_k12 X hd hs0 k
  · exact mm_k13 X hd hs0 k
  · exact mm_k14 X hd hs0 k
  · exact mm_k15 X hd hs0 k
  · exact mm_k16 X hd hs0 k
  · exact mm_k17 X hd hs0 k
  · exact mm_k18 X hd hs0 k
  · exact mm_k19 X hd hs0 k
  · exact mm_k20 X hd hs0 k
  · exact mm_k21 X hd hs0 k
  · exact mm_k22 X hd hs0 k
  · exact mm_k23 X hd hs0 k
  · exact mm_k24 X hd hs0 k
  · exact mm_k25 X hd hs0 k
  · exact mm_k26 X hd hs0 k
  · exact mm_k27 X hd hs0 k
  · exact mm_k28 X hd hs0 k
  · exact mm_k29 X hd hs0 k
  · exact mm_k30 X hd hs0 k
  · exact mm_k31 X hd hs0 k
  · exact mm_k32 X hd hs0 k
  · exact mm_k33 X hd hs0 k
  · exact mm_k34 X hd hs0 k
  · exact mm_k35 X hd hs0 k
  all_goals first | (exfalso; have h9 := hop.1; dsimp only at h9; omega) | (cases hs; done)
/-- a method's end -/
theorem j_ret {x : Int32} {ty : FieldType} (X : mm_C p s m args meth c cc own mn nL D cs b ad) (hr : meth.sig.returnType = some ty) (hlk : meth.locks = false) (hn : narrow ty (.int x) = .int x) (hd : decode cc pc = .ok (.ireturn, 1)) : mm_G p l e R s m args below meth c (MQ below (mm_Qc D cs b ad (some (.int x)) u) args s 0 0 (fun q => b ≤ q)) nL D cs b ad u.1 u.2.1 pc L [.int x] u := by
  obtain ⟨hx, hb, -⟩ := X
  intro q1 q2 H locs ls hR hS hl
  rw [Nat.sub_self, Nat.sub_self]
  exact W.zret hx hb hr hn (fun t ht hW => ⟨rfl, by rw [ht]; exact hR, hS.F ht⟩) hS.2.2 hd hlk
theorem j_retv (X : mm_C p s m args meth c cc own mn nL D cs b ad) (hr : meth.sig.returnType = none) (hlk : meth.locks = false) (hd : decode cc pc = .ok (.return_, 1)) : mm_G p l e R s m args below meth c (MQ below (mm_Qc D cs b ad none u) args s 0 0 (fun q => b ≤ q)) nL D cs b ad u.1 u.2.1 pc L [] u := by
  obtain ⟨hx, hb, -⟩ := X
  intro q1 q2 H locs ls hR hS hl
  rw [Nat.sub_self, Nat.sub_self]
  exact W.vret hx hb hr (fun t ht hW => ⟨rfl, by rw [ht]; exact hR, hS.F ht⟩) hS.2.2 hd hlk
/-- calls -/
theorem j_callS {w9 : Nat} (X : mm_C p s m args meth c cc own mn nL D cs b ad) (hN : mm_N s) (hsw : jSW b aK aV z s) (k1 : mm_cw t) (hck : jck t = true) (hcc : mm_cck own t w9 (decode cc pc) = true) (h0 : t.2.2.2.2.1 = 0) (hmL : t.2.2.1 ≤ 10) (hRf : d + 1 ≤ R.frames ∧ 30 * d + 30 ≤ R.locals) (hroom : u.1 - n0 ≤ R.cells ∧ u.2.1 - s0 ≤ R.slots) (hn : as.length = t.2.2.2.2.2.2.1) (h3 : (rest.map fun x => x.category).sum ≤ 8) (hM : jM l D cs b ad aK aV z t d as v)
    (k : mm_G p l e R s m args below meth c Z nL D cs b ad n0 s0 (pc + 3) L (v.toList ++ rest) u) : mm_G p l e R s m args below meth c Z nL D cs b ad n0 s0 pc L (as.reverse ++ rest) u := by
  obtain ⟨hx, hb, hml, hown, hts, hK, had, hmn, hbs⟩ := X
  intro g1 g2 H locs ls hR hS hl
  unfold jck at hck
  rw [h0] at hck
  simp only [Bool.and_eq_true, decide_eq_true_eq] at hck
  obtain ⟨⟨⟨k2, k3⟩, ⟨k4, k5⟩, k6⟩, k7⟩ := hck
  have hPre : ∀ U : State, U.heap = H → s.WarmedH U.vm → va_Pc (as.map (mm_tr ad)) (mm_Wd D cs b ad (jSW b aK aV z) u) (as.map (mm_tr ad)).toArray U := fun U hU hW => ⟨rfl, by rw [hU]; exact hR, va_K.moved hW.alike hK, mm_N_warm hW hN, jSW_move hsw hS hU hW⟩
  have hw3 : 2 * (F0 m pc ls ((as.reverse ++ rest).map (mm_tr ad))).monitorRoom + ((rest.map (mm_tr ad)).map fun x => x.category).sum ≤ 8 := by rw [mm_cats]; exact lv_room h3
  have hRR : (jr d).frames + 1 ≤ R.frames ∧ 8 + (t.2.2.1 + 11) + (jr d).locals ≤ R.locals := ⟨hRf.1, by have := hRf.2; show 8 + (t.2.2.1 + 11) + 30 * d ≤ R.locals; omega⟩
  unfold mm_cck at hcc
  split at hcc
  · rename_i ix hdg
    simp only [Bool.and_eq_true, decide_eq_true_eq] at hcc
    have cb := callB_of (R := R) (mc := 0) (ms := 0) (rm := jr d) t.2.2.2.2.2.2.1 hts (mm_gtb k1) rfl rfl rfl (mm_wd_in (p := p) ⟨hx, hts⟩ k2) (mm_wd_in ⟨hx, hts⟩ hcc.2) ⟨k4, k5, k6⟩ hRR
    have hr := va_runS (l := l) (e := e) (below := below) (meth := meth) (H := H) (locs := locs) (cells := u.1 - n0) (slots := u.2.1 - s0) (As := as.map (mm_tr ad)) (rest := rest.map (mm_tr ad)) (g := F0 m pc ls ((as.reverse ++ rest).map (mm_tr ad))) ⟨hx, hb, hml, hown, hts⟩ (hM u) ⟨cb, mm_wd_in ⟨hx, hts⟩ k7⟩ ⟨j_blind, hPre⟩ rfl (by rw [List.length_map, hn]) hl.2.1 (by show List.map (mm_tr ad) (as.reverse ++ rest) = _; rw [List.map_append, List.map_reverse]) hw3 hdg (by omega)
    refine mm_after (w := u) (D := D) (cs := cs) (v := v) (st := rest) (a := (as.map (mm_tr ad)).toArray) g1 g2 (Nat.le_refl _) (Nat.le_refl _) hS hl ?_ k
    rw [Nat.sub_self, Nat.sub_self]
    exact hr
  · simp only [Bool.and_eq_true, decide_eq_true_eq] at hcc
    rw [h0] at hcc
    exact absurd hcc.1 (by omega)
  · simp only [Bool.and_eq_true, decide_eq_true_eq] at hcc
    rw [h0] at hcc
    exact absurd hcc.1 (by omega)
  · cases hcc
theorem j_callV {w9 : Nat} (hj : jAd ad aK aV z z0) (X : mm_C p s m args meth c cc own mn nL D cs b ad) (hN : mm_N s) (hsw : jSW b aK aV z s) (k1 : mm_cw t) (hck : jck t = true) (hcc : mm_cck own t w9 (decode cc pc) = true) (h0 : t.2.2.2.2.1 = 1) (hmL : t.2.2.1 ≤ 10) (hRf : d + 1 ≤ R.frames ∧ 30 * d + 30 ≤ R.locals) (hroom : u.1 - n0 ≤ R.cells ∧ u.2.1 - s0 ≤ R.slots) (hn : as.length = t.2.2.2.2.2.2.1) (hi : i < 2) (h3 : (rest.map fun x => x.category).sum ≤ 8) (hM : jM l D cs b ad aK aV z t d (.ref (1000000 + i) :: as) v)
    (k : mm_G p l e R s m args below meth c Z nL D cs b ad n0 s0 (pc + 3) L (v.toList ++ rest) u) : mm_G p l e R s m args below meth c Z nL D cs b ad n0 s0 pc L (as.reverse ++ (.ref (1000000 + i) :: rest)) u := by
  obtain ⟨hx, hb, hml, hown, hts, hK, had, hmn, hbs⟩ := X
  intro g1 g2 H locs ls hR hS hl
  unfold jck at hck
  rw [h0] at hck
  simp only [Bool.and_eq_true, decide_eq_true_eq] at hck
  obtain ⟨⟨⟨k2, k3⟩, ⟨k4, k5⟩, k6⟩, ⟨k7, k8⟩, k9⟩ := hck
  have hPre : ∀ U : State, U.heap = H → s.WarmedH U.vm → va_Pc ((.ref (1000000 + i) :: as).map (mm_tr ad)) (mm_Wd D cs b ad (jSW b aK aV z) u) ((.ref (1000000 + i) :: as).map (mm_tr ad)).toArray U := fun U hU hW => ⟨rfl, by rw [hU]; exact hR, va_K.moved hW.alike hK, mm_N_warm hW hN, jSW_move hsw hS hU hW⟩
  have hw3 : 2 * (F0 m pc ls ((as.reverse ++ (.ref (1000000 + i) :: rest)).map (mm_tr ad))).monitorRoom + ((rest.map (mm_tr ad)).map fun x => x.category).sum ≤ 8 := by rw [mm_cats]; exact lv_room h3
  have hRR : (jr d).frames + 1 ≤ R.frames ∧ 8 + (t.2.2.1 + 11) + (jr d).locals ≤ R.locals := ⟨hRf.1, by have := hRf.2; show 8 + (t.2.2.1 + 11) + 30 * d ≤ R.locals; omega⟩
  have hcell : ∃ cellB : Cell, H[ad (1000000 + i)]? = some cellB ∧ cellB.vm.isStatics = false ∧ s.vm.findClass t.1.cls = some cellB.cls := by
    rw [(hj.1 i hi).1, k9]
    exact vk_recv hsw.2.2.1 hi hS
  unfold mm_cck at hcc
  split at hcc
  · simp only [Bool.and_eq_true, decide_eq_true_eq] at hcc
    rw [h0] at hcc
    exact absurd hcc.1 (by omega)
  · rename_i ix hdg
    simp only [Bool.and_eq_true, decide_eq_true_eq] at hcc
    have cb := callB_of (R := R) (mc := 0) (ms := 0) (rm := jr d) t.2.2.2.2.2.2.1 hts (mm_gtb k1) rfl rfl rfl (mm_wd_in (p := p) ⟨hx, hts⟩ k2) (mm_wd_in ⟨hx, hts⟩ hcc.2) ⟨k4, k5, k6⟩ hRR
    have hr := va_runV (l := l) (e := e) (below := below) (meth := meth) (H := H) (locs := locs) (cells := u.1 - n0) (slots := u.2.1 - s0) (C := t.1.cls) (b := ad (1000000 + i)) (As := as.map (mm_tr ad)) (rest := rest.map (mm_tr ad)) (g := F0 m pc ls ((as.reverse ++ (.ref (1000000 + i) :: rest)).map (mm_tr ad))) ⟨hx, hb, hml, hown, hts⟩ (hM u) ⟨cb, mm_wd_in ⟨hx, hts⟩ k7, mm_wd_in ⟨hx, hts⟩ k8⟩ ⟨j_blind, hcell, hPre⟩ rfl (by rw [List.length_map, hn]) hl.2.1 (by show List.map (mm_tr ad) (as.reverse ++ (.ref (1000000 + i) :: rest)) = _; rw [List.map_append, List.map_reverse]; rfl) hw3 hdg (by omega)
    refine mm_after (w := u) (D := D) (cs := cs) (v := v) (st := rest) (a := (Value.ref (ad (1000000 + i)) :: as.map (mm_tr ad)).toArray) g1 g2 (Nat.le_refl _) (Nat.le_refl _) hS hl ?_ k
    rw [Nat.sub_self, Nat.sub_self]
    exact hr
  · simp only [Bool.and_eq_true, decide_eq_true_eq] at hcc
    rw [h0] at hcc
    exact absurd hcc.1 (by omega)
  · cases hcc
/-- reads -/
theorem j_compact {ix w : Nat} (X : mm_C p s m args meth c cc own mn nL D cs b ad) (hsw : jSW b aK aV z s) (hw : mm_wd w = some (.fieldLink own ix "java/lang/String" "COMPACT_STRINGS" "Z")) (hd : decode cc pc = .ok (.getstatic ix, 3)) (k : mm_G p l e R s m args below meth c Z nL D cs b ad n0 s0 (pc + 3) L (.int 1 :: st) u) : mm_G p l e R s m args below meth c Z nL D cs b ad n0 s0 pc L st u := by
  obtain ⟨hx, hb, hml, hown, hts, hK, had, hmn, hbs⟩ := X
  intro g1 g2 H locs ls hR hS hl
  exact va_gets hx hb hsw.2.2.2.1 hS hown (mm_wd_in ⟨hx, hts⟩ hw) (fun _ h => h) hd (k g1 g2 H locs ls hR hS hl)
theorem j_format {ix w : Nat} (hj : jAd ad aK aV z z0) (X : mm_C p s m args meth c cc own mn nL D cs b ad) (hsw : jSW b aK aV z s) (hw : mm_wd w = some (.fieldLink own ix "jdk/internal/util/Preconditions" "SIOOBE_FORMATTER" "Ljava/util/function/BiFunction;")) (hd : decode cc pc = .ok (.getstatic ix, 3)) (k : mm_G p l e R s m args below meth c Z nL D cs b ad n0 s0 (pc + 3) L (z0 :: st) u) : mm_G p l e R s m args below meth c Z nL D cs b ad n0 s0 pc L st u := by
  obtain ⟨hx, hb, hml, hown, hts, hK, had, hmn, hbs⟩ := X
  intro g1 g2 H locs ls hR hS hl
  have h2 := k g1 g2 H locs ls hR hS hl
  rw [List.map_cons, hj.2.1] at h2
  exact va_gets hx hb hsw.2.2.2.2 hS hown (mm_wd_in ⟨hx, hts⟩ hw) (fun _ h => h) hd h2
theorem j_value {ix w : Nat} (hj : jAd ad aK aV z z0) (X : mm_C p s m args meth c cc own mn nL D cs b ad) (hsw : jSW b aK aV z s) (hi : i < 2) (hw : mm_wd w = some (.fieldLink own ix "java/lang/String" "value" "[B")) (hd : decode cc pc = .ok (.getfield ix, 3)) (k : mm_G p l e R s m args below meth c Z nL D cs b ad n0 s0 (pc + 3) L (.ref (1000003 + i) :: st) u) : mm_G p l e R s m args below meth c Z nL D cs b ad n0 s0 pc L (.ref (1000000 + i) :: st) u := by
  obtain ⟨hx, hb, hml, hown, hts, hK, had, hmn, hbs⟩ := X
  intro g1 g2 H locs ls hR hS hl
  have h2 := k g1 g2 H locs ls hR hS hl
  change W p l e R s m args below meth c H locs _ _ Z (F0 m (pc + 3) ls (.ref (ad (1000003 + i)) :: st.map (mm_tr ad))) at h2
  rw [(hj.1 i hi).2] at h2
  show W p l e R s m args below meth c H locs _ _ Z (F0 m pc ls (.ref (ad (1000000 + i)) :: st.map (mm_tr ad)))
  rw [(hj.1 i hi).1]
  exact vk_getf hx hb (hsw.2.2.1.1 i hi).2.2.1 hS hown (mm_wd_in ⟨hx, hts⟩ hw) (fun _ h => h) hd h2
theorem j_coder {ix w : Nat} (hj : jAd ad aK aV z z0) (X : mm_C p s m args meth c cc own mn nL D cs b ad) (hsw : jSW b aK aV z s) (hi : i < 2) (hw : mm_wd w = some (.fieldLink own ix "java/lang/String" "coder" "B")) (hd : decode cc pc = .ok (.getfield ix, 3)) (k : mm_G p l e R s m args below meth c Z nL D cs b ad n0 s0 (pc + 3) L (.int 0 :: st) u) : mm_G p l e R s m args below meth c Z nL D cs b ad n0 s0 pc L (.ref (1000000 + i) :: st) u := by
  obtain ⟨hx, hb, hml, hown, hts, hK, had, hmn, hbs⟩ := X
  intro g1 g2 H locs ls hR hS hl
  have h2 := k g1 g2 H locs ls hR hS hl
  show W p l e R s m args below meth c H locs _ _ Z (F0 m pc ls (.ref (ad (1000000 + i)) :: st.map (mm_tr ad)))
  rw [(hj.1 i hi).1]
  exact vk_getf hx hb (hsw.2.2.1.1 i hi).2.1 hS hown (mm_wd_in ⟨hx, hts⟩ hw) (fun _ h => h) hd h2
theorem j_baload {k : Int32} (hj : jAd ad aK aV z z0) (X : mm_C p s m args meth c cc own mn nL D cs b ad) (hsw : jSW b aK aV z s) (hi : i < 2) (hin : vp_in k (jLn.getD i 0)) (hd : decode cc pc = .ok (.baload, 1)) (kk : mm_G p l e R s m args below meth c Z nL D cs b ad n0 s0 (pc + 1) L (.int ((jBy.getD i []).getD k.toNatClampNeg 0) :: st) u) : mm_G p l e R s m args below meth c Z nL D cs b ad n0 s0 pc L (.int k :: .ref (1000003 + i) :: st) u := by
  obtain ⟨hx, hb, hml, hown, hts, hK, had, hmn, hbs⟩ := X
  intro g1 g2 H locs ls hR hS hl
  have h2 := kk g1 g2 H locs ls hR hS hl
  show W p l e R s m args below meth c H locs _ _ Z (F0 m pc ls (.int k :: .ref (ad (1000003 + i)) :: st.map (mm_tr ad)))
  rw [(hj.1 i hi).2]
  exact va_tb hx hb (hsw.2.2.1.1 i hi).2.2.2 hS hin rfl hd h2
theorem j_len (hj : jAd ad aK aV z z0) (X : mm_C p s m args meth c cc own mn nL D cs b ad) (hsw : jSW b aK aV z s) (hi : i < 2) (hd : decode cc pc = .ok (.arraylength, 1)) (kk : mm_G p l e R s m args below meth c Z nL D cs b ad n0 s0 (pc + 1) L (.int (nI (jLn.getD i 0)) :: st) u) : mm_G p l e R s m args below meth c Z nL D cs b ad n0 s0 pc L (.ref (1000003 + i) :: st) u := by
  obtain ⟨hx, hb, hml, hown, hts, hK, had, hmn, hbs⟩ := X
  intro g1 g2 H locs ls hR hS hl
  have h2 := kk g1 g2 H locs ls hR hS hl
  show W p l e R s m args below meth c H locs _ _ Z (F0 m pc ls (.ref (ad (1000003 + i)) :: st.map (mm_tr ad)))
  rw [(hj.1 i hi).2]
  exact va_tlen hx hb (hsw.2.2.1.1 i hi).2.2.2 hS rfl hd h2
theorem j_max {ix w : Nat} {x y : Int32} (X : mm_C p s m args meth c cc own mn nL D cs b ad) (hw : mm_wd w = some (.methodLink own ix Lib.Math.max.name)) (hR1 : 1 ≤ R.frames ∧ 30 ≤ R.locals) (hroom : u.1 - n0 ≤ R.cells ∧ u.2.1 - s0 ≤ R.slots) (h3 : (rest.map fun x => x.category).sum ≤ 8) (hd : decode cc pc = .ok (.invokestatic ix, 3)) (k : mm_G p l e R s m args below meth c Z nL D cs b ad n0 s0 (pc + 3) L (.int (if x < y then y else x) :: rest) u) : mm_G p l e R s m args below meth c Z nL D cs b ad n0 s0 pc L (.int y :: .int x :: rest) u := by
  obtain ⟨hx, hb, hml, hown, hts, hK, had, hmn, hbs⟩ := X
  intro g1 g2 H locs ls hR hS hl
  exact va_mmax hx hb (by rw [hml]; exact hl.2.1.symm) hown (mm_wd_in ⟨hx, hts⟩ hw) (mm_wd_in ⟨hx, hts⟩ mm_wmaxs) (mm_wd_in ⟨hx, hts⟩ mm_wmath) (mm_wd_in ⟨hx, hts⟩ mm_wmaxc) hR1.1 (by rw [mm_cats]; omega) hroom.1 hroom.2 hd (k g1 g2 H locs ls hR hS hl)
theorem j_min {ix w : Nat} {x y : Int32} (X : mm_C p s m args meth c cc own mn nL D cs b ad) (hw : mm_wd w = some (.methodLink own ix Lib.Math.min.name)) (hR1 : 1 ≤ R.frames ∧ 30 ≤ R.locals) (hroom : u.1 - n0 ≤ R.cells ∧ u.2.1 - s0 ≤ R.slots) (h3 : (rest.map fun x => x.category).sum ≤ 8) (hd : decode cc pc = .ok (.invokestatic ix, 3)) (k : mm_G p l e R s m args below meth c Z nL D cs b ad n0 s0 (pc + 3) L (.int (if y < x then y else x) :: rest) u) : mm_G p l e R s m args below meth c Z nL D cs b ad n0 s0 pc L (.int y :: .int x :: rest) u := by
  obtain ⟨hx, hb, hml, hown, hts, hK, had, hmn, hbs⟩ := X
  intro g1 g2 H locs ls hR hS hl
  exact va_mmin hx hb (by rw [hml]; exact hl.2.1.symm) hown (mm_wd_in ⟨hx, hts⟩ hw) (mm_wd_in ⟨hx, hts⟩ mm_wmins) (mm_wd_in ⟨hx, hts⟩ mm_wmath) (mm_wd_in ⟨hx, hts⟩ mm_wminc) hR1.1 (by rw [mm_cats]; omega) hroom.1 hroom.2 hd (k g1 g2 H locs ls hR hS hl)
end JTX
