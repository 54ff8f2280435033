/-! ===== Pairs: what is asked ===== -/
section Rq
variable {w : Bool} {nx ns : Nat} {I X Y : Nat → Nat → Int32} {J J' : Nat → Nat → Int64} {B B2 lv P H F U nxt T m hb : Nat} {L : Nat → Option (List PI × PC)} {tf tm tt te fl nl : Nat → Nat}
theorem cx_ago (hc : Cx I X) {st n : Nat} : a_go X tf tm tt te fl nl lv P H st n = a_go I tf tm tt te fl nl lv P H st n := by
  have e : ∀ b, 323 ≤ b → X b = I b := fun b hb => hc.1 b (by omega) (by omega)
  unfold a_go
  rw [e 358 (by decide)]
  refine go_congr (X := m_cp X lv st) (I := m_cp I lv st) (e _ (by decide)) (e _ (by decide)) (e _ (by decide)) (e _ (by decide)) (e _ (by decide)) ?_ rfl n
  show X 345 lv = I 345 lv
  rw [e _ (by decide)]
theorem cx_agok (hc : Cx I X) {k : Int32} {n : Nat} : a_gok X tf tm tt te fl nl lv P H k n = a_gok I tf tm tt te fl nl lv P H k n := by
  have e : ∀ b, 323 ≤ b → X b = I b := fun b hb => hc.1 b (by omega) (by omega)
  unfold a_gok
  rw [e 358 (by decide)]
  refine go_congr (X := m_cpk X lv k) (I := m_cpk I lv k) (e _ (by decide)) (e _ (by decide)) (e _ (by decide)) (e _ (by decide)) (e _ (by decide)) ?_ rfl n
  show X 345 lv + k = I 345 lv + k
  rw [e _ (by decide)]
theorem cx_ln (hc : Cx I X) {k n : Nat} : ∀ r : Nat → Int32, a_ln X lv H k r n = a_ln I lv H k r n := by
  have e := cx_die (lv := lv) (H := H) hc
  induction n with
  | zero => intro r; rfl
  | succ n ih =>
    intro r
    simp only [a_ln, e, ih]
theorem pp_hedge {a x : Int32} (h : IVb B w I J lv P H F L tf tm tt te fl nl U nxt T m hb) : PP B 40 5 125 [.int a, .int x] (nx, ns, SH w, I, J) := by
  refine PP_q (d2 := 10) h (by omega) (by omega) (xv_hedge h.1) (fun X hc h2 => ?_)
  have e : a_hedge X tf tm tt te fl nl lv H a x = a_hedge I tf tm tt te fl nl lv H a x := by
    show a_hedge (cutM X) tf tm tt te fl nl lv H a x = a_hedge (cutM I) tf tm tt te fl nl lv H a x
    rw [cutM_cx hc]
  rw [← e]
  exact EV_up (by omega) (v_hedge h2.1.1.1)
theorem pp_person {a x : Int32} (h : IVb B w I J lv P H F L tf tm tt te fl nl U nxt T m hb) : PP B 40 6 126 [.int a, .int x] (nx, ns, SH w, I, J) := by
  refine PP_q (d2 := 10) h (by omega) (by omega) (xv_person h.1) (fun X hc h2 => ?_)
  have e : a_person X tf tm tt te fl nl lv P H a x = a_person I tf tm tt te fl nl lv P H a x := by
    show a_person (cutM X) tf tm tt te fl nl lv P H a x = a_person (cutM I) tf tm tt te fl nl lv P H a x
    rw [cutM_cx hc]
  rw [← e]
  exact EV_up (by omega) (v_person h2.1.1.1)
theorem pp_crosses {a e : Int32} (h : IVb B w I J lv P H F L tf tm tt te fl nl U nxt T m hb) : PP B 40 19 144 [.int a, .int e] (nx, ns, SH w, I, J) := by
  refine PP_q (d2 := 10) h (by omega) (by omega) (xv_crosses h.1) (fun X hc h2 => ?_)
  have e : a_crosses (X 358) P H a e = a_crosses (I 358) P H a e := by
    rw [hc.1 358 (by decide) (by decide)]
  rw [← e]
  exact EV_up (by omega) (v_crosses h2.1.1.1)
theorem pp_ask {a f t x : Int32} (h : IVb B w I J lv P H F L tf tm tt te fl nl U nxt T m hb) : PP B 40 20 145 [.int a, .int f, .int t, .int x] (nx, ns, SH w, I, J) := by
  refine PP_q (d2 := 10) h (by omega) (by omega) (xv_ask h.1) (fun X hc h2 => ?_)
  have e : a_ask X lv P H F a f t x = a_ask I lv P H F a f t x := by
    show a_ask (cutM X) lv P H F a f t x = a_ask (cutM I) lv P H F a f t x
    rw [cutM_cx hc]
  rw [← e]
  exact EV_up (by omega) (v_ask h2.1.1.1)
theorem pp_open {a f : Int32} (h : IVb B w I J lv P H F L tf tm tt te fl nl U nxt T m hb) : PP B 40 21 146 [.int a, .int f] (nx, ns, SH w, I, J) := by
  refine PP_q (d2 := 10) h (by omega) (by omega) (xv_open h.1) (fun X hc h2 => ?_)
  have e : a_open X lv P H F a f = a_open I lv P H F a f := by
    show a_open (cutM X) lv P H F a f = a_open (cutM I) lv P H F a f
    rw [cutM_cx hc]
  rw [← e]
  exact EV_up (by omega) (v_open h2.1.1.1)
theorem pp_shut {a : Int32} (h : IVb B w I J lv P H F L tf tm tt te fl nl U nxt T m hb) : PP B 40 22 147 [.int a] (nx, ns, SH w, I, J) := by
  refine PP_q (d2 := 10) h (by omega) (by omega) (xv_shut h.1) (fun X hc h2 => ?_)
  have e : a_shut X lv P H F a = a_shut I lv P H F a := by
    show a_shut (cutM X) lv P H F a = a_shut (cutM I) lv P H F a
    rw [cutM_cx hc]
  rw [← e]
  exact EV_up (by omega) (v_shut h2.1.1.1)
theorem pp_matched {i : Int32} (h : IVb B w I J lv P H F L tf tm tt te fl nl U nxt T m hb) : PP B 40 23 155 [.int i] (nx, ns, SH w, I, J) := by
  refine PP_q (d2 := 10) h (by omega) (by omega) (xv_matched h.1) (fun X hc h2 => ?_)
  have e : a_matched (X 358) P H i = a_matched (I 358) P H i := by
    rw [hc.1 358 (by decide) (by decide)]
  rw [← e]
  exact EV_up (by omega) (v_matched h2.1.1.1)
theorem pp_will {a b : Int32} (h : IVb B w I J lv P H F L tf tm tt te fl nl U nxt T m hb) : PP B 40 24 156 [.int a, .int b] (nx, ns, SH w, I, J) := by
  refine PP_q (d2 := 10) h (by omega) (by omega) (xv_will h.1) (fun X hc h2 => ?_)
  have e : a_will X lv P H a b = a_will I lv P H a b := by
    show a_will (cutM X) lv P H a b = a_will (cutM I) lv P H a b
    rw [cutM_cx hc]
  rw [← e]
  exact EV_up (by omega) (v_will h2.1.1.1)
theorem pp_highest {n x : Int32} (h : IVb B w I J lv P H F L tf tm tt te fl nl U nxt T m hb) : PP B 40 25 157 [.int n, .int x] (nx, ns, SH w, I, J) := by
  refine PP_q (d2 := 10) h (by omega) (by omega) (xv_highest h.1) (fun X hc h2 => ?_)
  have e : a_highest X tf tm tt te fl nl lv P H n x = a_highest I tf tm tt te fl nl lv P H n x := by
    unfold a_highest
    simp only [cx_ago hc]
  rw [← e]
  exact EV_up (by omega) (v_highest h2.1.1.1)
theorem pp_due {a : Int32} (h : IVb B w I J lv P H F L tf tm tt te fl nl U nxt T m hb) : PP B 40 26 159 [.int a] (nx, ns, SH w, I, J) := by
  refine PP_q (d2 := 10) h (by omega) (by omega) (xv_due h.1) (fun X hc h2 => ?_)
  have e : a_due X tf tm tt te fl nl P H a = a_due I tf tm tt te fl nl P H a := by
    show a_due (cutM X) tf tm tt te fl nl P H a = a_due (cutM I) tf tm tt te fl nl P H a
    rw [cutM_cx hc]
  rw [← e]
  exact EV_up (by omega) (v_due h2.1.1.1)
theorem pp_buy {a f t : Int32} (h : IVb B w I J lv P H F L tf tm tt te fl nl U nxt T m hb) : PP B 40 27 148 [.int a, .int f, .int t] (nx, ns, SH w, I, J) := by
  refine PP_q (d2 := 10) h (by omega) (by omega) (xv_buy h.1) (fun X hc h2 => ?_)
  have e : a_buy X lv P H F a f t = a_buy I lv P H F a f t := by
    show a_buy (cutM X) lv P H F a f t = a_buy (cutM I) lv P H F a f t
    rw [cutM_cx hc]
  rw [← e]
  exact EV_up (by omega) (v_buy h2.1.1.1)
theorem pp_gates {a f t : Int32} (h : IVb B w I J lv P H F L tf tm tt te fl nl U nxt T m hb) : PP B 40 28 149 [.int a, .int f, .int t] (nx, ns, SH w, I, J) := by
  refine PP_q (d2 := 10) h (by omega) (by omega) (xv_gates h.1) (fun X hc h2 => ?_)
  have e : a_gates X lv P H F a f t = a_gates I lv P H F a f t := by
    show a_gates (cutM X) lv P H F a f t = a_gates (cutM I) lv P H F a f t
    rw [cutM_cx hc]
  rw [← e]
  exact EV_up (by omega) (v_gates h2.1.1.1)
theorem pp_line {e f i : Int32} (h : IVb B w I J lv P H F L tf tm tt te fl nl U nxt T m hb) : PP B 40 29 160 [.int e, .int f, .int i] (nx, ns, SH w, I, J) := by
  refine PP_q (d2 := 10) h (by omega) (by omega) (xv_line h.1) (fun X hc h2 => ?_)
  have e : a_line X lv H e f i = a_line I lv H e f i := by
    unfold a_line
    simp only [cx_ln hc, hc.1 358 (by decide) (by decide)]
  rw [← e]
  exact EV_up (by omega) (v_line h2.1.1.1)
theorem pp_eldest {x : Int32} (h : IVb B w I J lv P H F L tf tm tt te fl nl U nxt T m hb) : PP B 40 30 161 [.int x] (nx, ns, SH w, I, J) := by
  refine PP_q (d2 := 10) h (by omega) (by omega) (xv_eldest h.1) (fun X hc h2 => ?_)
  have e : a_eld (X 358) P (fun p => X 358 (6 + p)) x = a_eld (I 358) P (fun p => I 358 (6 + p)) x := by
    rw [hc.1 358 (by decide) (by decide)]
  rw [← e]
  exact EV_up (by omega) (v_eldest h2.1.1.1)
theorem pp_ones (h : IVb B w I J lv P H F L tf tm tt te fl nl U nxt T m hb) : PP B 40 31 163 [] (nx, ns, SH w, I, J) := by
  refine PP_q (d2 := 10) h (by omega) (by omega) (xv_ones h.1) (fun X hc h2 => ?_)
  have e : a_onesb (X 358) H = a_onesb (I 358) H := by
    rw [hc.1 358 (by decide) (by decide)]
  rw [← e]
  exact EV_up (by omega) (v_ones h2.1.1.1)
theorem pp_neighbours {a : Int32} (h : IVb B w I J lv P H F L tf tm tt te fl nl U nxt T m hb) : PP B 40 32 164 [.int a] (nx, ns, SH w, I, J) := by
  refine PP_q (d2 := 10) h (by omega) (by omega) (xv_neighbours h.1) (fun X hc h2 => ?_)
  have e : a_neighbours (X 358) P H a = a_neighbours (I 358) P H a := by
    rw [hc.1 358 (by decide) (by decide)]
  rw [← e]
  exact EV_up (by omega) (v_neighbours h2.1.1.1)
theorem pp_between {f g : Int32} (h : IVb B w I J lv P H F L tf tm tt te fl nl U nxt T m hb) : PP B 40 33 165 [.int f, .int g] (nx, ns, SH w, I, J) := by
  refine PP_q (d2 := 10) h (by omega) (by omega) (xv_between h.1) (fun X hc h2 => ?_)
  have e : a_between X lv H F f g = a_between I lv H F f g := by
    show a_between (cutM X) lv H F f g = a_between (cutM I) lv H F f g
    rw [cutM_cx hc]
  rw [← e]
  exact EV_up (by omega) (v_between h2.1.1.1)
theorem pp_gaps {n : Int32} (h : IVb B w I J lv P H F L tf tm tt te fl nl U nxt T m hb) : PP B 40 34 166 [.int n] (nx, ns, SH w, I, J) := by
  refine PP_q (d2 := 10) h (by omega) (by omega) (xv_gaps h.1) (fun X hc h2 => ?_)
  have e : a_gaps X tf tm tt te fl nl lv P H n = a_gaps I tf tm tt te fl nl lv P H n := by
    unfold a_gaps
    simp only [cx_ago hc]
  rw [← e]
  exact EV_up (by omega) (v_gaps h2.1.1.1)
theorem pp_most {x : Int32} (h : IVb B w I J lv P H F L tf tm tt te fl nl U nxt T m hb) : PP B 40 35 162 [.int x] (nx, ns, SH w, I, J) := by
  refine PP_q (d2 := 10) h (by omega) (by omega) (xv_most h.1) (fun X hc h2 => ?_)
  have e : a_eld (X 358) P (fun p => nI (m_fc (X 358) (nI p) H)) x = a_eld (I 358) P (fun p => nI (m_fc (I 358) (nI p) H)) x := by
    rw [hc.1 358 (by decide) (by decide)]
  rw [← e]
  exact EV_up (by omega) (v_most h2.1.1.1)
theorem pp_whose {e f n : Int32} (h : IVb B w I J lv P H F L tf tm tt te fl nl U nxt T m hb) : PP B 40 36 167 [.int e, .int f, .int n] (nx, ns, SH w, I, J) := by
  refine PP_q (d2 := 10) h (by omega) (by omega) (xv_whose h.1) (fun X hc h2 => ?_)
  have e : a_whose X tf tm tt te fl nl lv P H e f n = a_whose I tf tm tt te fl nl lv P H e f n := by
    unfold a_whose
    simp only [cx_ago hc]
  rw [← e]
  exact EV_up (by omega) (v_whose h2.1.1.1)
theorem pp_then {e n x : Int32} (h : IVb B w I J lv P H F L tf tm tt te fl nl U nxt T m hb) : PP B 40 37 168 [.int e, .int n, .int x] (nx, ns, SH w, I, J) := by
  refine PP_q (d2 := 10) h (by omega) (by omega) (xv_then h.1) (fun X hc h2 => ?_)
  have e : a_then X tf tm tt te fl nl lv P H e n x = a_then I tf tm tt te fl nl lv P H e n x := by
    unfold a_then
    simp only [cx_ago hc]
  rw [← e]
  exact EV_up (by omega) (v_then h2.1.1.1)
theorem pp_aliveIn {n : Int32} (h : IVb B w I J lv P H F L tf tm tt te fl nl U nxt T m hb) : PP B 40 38 169 [.int n] (nx, ns, SH w, I, J) := by
  refine PP_q (d2 := 10) h (by omega) (by omega) (xv_aliveIn h.1) (fun X hc h2 => ?_)
  have e : a_aliveIn X tf tm tt te fl nl lv P H n = a_aliveIn I tf tm tt te fl nl lv P H n := by
    unfold a_aliveIn
    simp only [cx_ago hc]
  rw [← e]
  exact EV_up (by omega) (v_aliveIn h2.1.1.1)
theorem pp_year {a n s : Int32} (h : IVb B w I J lv P H F L tf tm tt te fl nl U nxt T m hb) : PP B 40 39 170 [.int a, .int n, .int s] (nx, ns, SH w, I, J) := by
  refine PP_q (d2 := 10) h (by omega) (by omega) (xv_year h.1) (fun X hc h2 => ?_)
  have e : a_year X tf tm tt te fl nl lv P H a n s = a_year I tf tm tt te fl nl lv P H a n s := by
    unfold a_year
    simp only [cx_agok hc]
  rw [← e]
  exact EV_up (by omega) (v_year h2.1.1.1)
theorem tk_of (h : TdR I H T) (hH : H ≤ 10) (he : X 365 = I 365) : ∀ i, i < T → X 365 i = nI (tkF I i) ∧ tkF I i < 69 := by
  intro i hi
  obtain ⟨f, f1, f2, f3, -⟩ := h.2.2.2 i hi
  have ef : tkF I i = a_fk f := by unfold tkF; rw [f2, nI_clamp (by omega)]
  rw [ef, he]
  refine ⟨f3, ?_⟩
  rcases fk_cases f with ⟨e, e1, e2⟩ | ⟨e, e1, e2⟩
  · omega
  · omega
theorem pp_died {k x : Int32} (h : IVb B w I J lv P H F L tf tm tt te fl nl U nxt T m hb) : PP B 40 42 175 [.int k, .int x] (nx, ns, SH w, I, J) := by
  have hT := h.2.2.2.1
  refine PP_q (d2 := 10) h (by omega) (by omega) (xv_died h.1 hT) (fun X hc h2 => ?_)
  have e : a_died X lv P H T (tkF I) k x = a_died I lv P H T (tkF I) k x := by
    show a_died (cutM X) lv P H T (tkF I) k x = a_died (cutM I) lv P H T (tkF I) k x
    rw [cutM_cx hc]
  rw [← e]
  exact EV_up (by omega) (v_died hT.1 h2.2.2.2.1.2.2.1 (tk_of hT h.1.1.1.1.2.2.2.2.2.1 (hc.1 _ (by decide) (by decide))) h2.1.1.1)
theorem pp_look {k : Int32} (h : IVb B w I J lv P H F L tf tm tt te fl nl U nxt T m hb) : PP B 40 43 177 [.int k] (nx, ns, SH w, I, J) := by
  have hT := h.2.2.2.1
  refine PP_q (d2 := 10) h (by omega) (by omega) (xv_look h.1 hT) (fun X hc h2 => ?_)
  have e : a_look X lv P H T (tkF I) k = a_look I lv P H T (tkF I) k := by
    show a_look (cutM X) lv P H T (tkF I) k = a_look (cutM I) lv P H T (tkF I) k
    rw [cutM_cx hc]
  rw [← e]
  exact EV_up (by omega) (v_look hT.1 h2.2.2.2.1.2.2.1 (tk_of hT h.1.1.1.1.2.2.2.2.2.1 (hc.1 _ (by decide) (by decide))) h2.1.1.1)
end Rq
