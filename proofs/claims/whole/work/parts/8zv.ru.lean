/-! ===== Pairs: what is done by hand, years ===== -/
section Ru
variable {w : Bool} {nx ns : Nat} {I X Y G : Nat → Nat → Int32} {J J' : Nat → Nat → Int64} {B B2 lv P H F U nxt T n hb : Nat} {L : Nat → Option (List PI × PC)} {tf tm tt te fl nl : Nat → Nat} {r : Nat → Int32}
theorem y4_68 {ho hi dn : Nat → Int32} (hH : H ≤ 10) : ∀ a, a ≤ 6 → m_y4 ho hi dn H r a 68 = r 68 := by
  intro a
  induction a with
  | zero => intro _; rfl
  | succ a ih =>
    intro ha
    simp only [m_y4]
    have h1 : m_y4a ho hi dn H (m_y4 ho hi dn H r a) a 68 = r 68 := by
      unfold m_y4a
      split
      · exact ih (by omega)
      · unfold m_leave
        rw [if_neg (show ¬ (18 ≤ 68 ∧ 68 < 18 + H) by omega), if_neg (show ¬ (28 ≤ 68 ∧ 68 < 28 + H) by omega), ite_self]
        exact ih (by omega)
    unfold m_y4b
    split
    · exact h1
    · rw [up_ne (by omega)]; exact h1
theorem y5_68 {gn fn : Nat → Int32} : ∀ e, e ≤ 10 → m_y5 gn fn r e 68 = r 68 := by
  intro e
  induction e with
  | zero => intro _; rfl
  | succ e ih =>
    intro he
    simp only [m_y5]
    unfold m_y5b m_y5a
    split
    · exact ih (by omega)
    · split
      · rw [up_ne (by omega), up_ne (by omega)]; exact ih (by omega)
      · rw [up_ne (by omega)]; exact ih (by omega)
theorem yr_68 (hP : P ≤ 6) (hH : H ≤ 10) : m_yr I tf tm tt te fl nl lv P H r 68 = r 68 + nI 1 := by
  unfold m_yr
  rw [up_at rfl, y5_68 H hH, y4_68 hH P hP]
  unfold m_y3
  rw [if_neg (by omega)]
theorem go_68 (hP : P ≤ 6) (hH : H ≤ 10) : ∀ n, m_go I tf tm tt te fl nl lv P H r n 68 = r 68 + nI n := by
  intro n
  induction n with
  | zero => show r 68 = r 68 + nI 0; simp [nI]
  | succ n ih =>
    show m_yr I tf tm tt te fl nl lv P H (m_go I tf tm tt te fl nl lv P H r n) 68 = _
    rw [yr_68 hP hH, ih, ← nI_add, Int32.add_assoc]
theorem RI_58 {e : Nat} {x : Int32} (hP : P ≤ 6) (hH : H ≤ 10) (hR : RI P H r) (he : e < H) (hx : ∃ y, y < 2 ^ 31 ∧ x = nI y) : RI P H (mm_up r (58 + e) x) :=
  RI_up hP hH hR (by omega) (fun h => by omega) (fun z h1 h2 => by omega) (fun z h1 h2 => by omega) (fun z h1 h2 => by omega) (fun z h1 h2 => ⟨Or.inr hx, fun h => by omega⟩) (fun p h1 h2 => by omega)
theorem RI_12 {p q : Nat} (hP : P ≤ 6) (hH : H ≤ 10) (hR : RI P H r) (hp : p < P) (hq : q < P) : RI P H (mm_up r (12 + p) (nI q)) :=
  RI_up hP hH hR (by omega) (fun h => Or.inr ⟨q, by omega, rfl⟩) (fun z h1 h2 => by omega) (fun z h1 h2 => by omega) (fun z h1 h2 => by omega) (fun z h1 h2 => by omega) (fun p h1 h2 => Or.inr ⟨q, hq, rfl⟩)
theorem YB_68 {r2 : Nat → Int32} (h : YB B r) (e : r2 68 = r 68) : YB (B + 60) r2 := by
  obtain ⟨y, h1, h2⟩ := h
  exact ⟨y, by omega, by rw [e]; exact h2⟩
theorem YB_nn (h : YB B r) (hB : B < 2 ^ 30) : nI 0 ≤ r 68 := by
  obtain ⟨y, h1, h2⟩ := h
  rw [h2, nI_leI (by omega) (by omega)]
  omega
theorem pp_clip {a e : Int32} (hB : B < 2 ^ 30) (h : IVb B w I J lv P H F L tf tm tt te fl nl U nxt T n hb) : PP B 40 13 130 [.int a, .int e] (nx, ns, SH w, I, J) := by
  obtain ⟨hq, -, ⟨s1, s2, s3, s4, s5, -⟩, -, -, -, -, -, -, hy, -⟩ := id h
  have hP : P ≤ 6 := hq.1.1.1.2.2.2.1
  have hH : H ≤ 10 := hq.1.1.1.2.2.2.2.2.1
  refine PP_d h (by omega) (d2 := 5) (by omega) (xv_clip hq s1 s2 s3 s4 (YB_nn hy hB)) (fun X eX hM hU => ?_) (fun c => ?_) (fun c => ?_)
  · have := v_clip (nx := nx) (ns := ns) (w := w) (J := J) (a := a) (e := e) hM s1 hU
    rw [eX 358 (by decide)] at this
    exact this
  · obtain ⟨i, hi, rfl⟩ := m_th_ne hH c
    rw [nI_clamp (by omega), a_clip_eq (by omega)]
    obtain ⟨y, y1, y2⟩ := hy
    exact RI_58 hP hH (RI_up38 hP hH hq.2.2 (by omega) (by omega)) hi ⟨y, by omega, y2⟩
  · obtain ⟨i, hi, rfl⟩ := m_th_ne hH c
    rw [nI_clamp (by omega), a_clip_eq (by omega)]
    exact YB_68 hy (by rw [up_ne (by omega), up_ne (by omega)])
theorem pp_close {a e : Int32} (hB : B < 2 ^ 30) (h : IVb B w I J lv P H F L tf tm tt te fl nl U nxt T n hb) : PP B 40 15 133 [.int a, .int e] (nx, ns, SH w, I, J) := by
  obtain ⟨hq, -, ⟨s1, s2, s3, s4, s5, -⟩, -, -, -, -, -, -, hy, -⟩ := id h
  have hP : P ≤ 6 := hq.1.1.1.2.2.2.1
  have hH : H ≤ 10 := hq.1.1.1.2.2.2.2.2.1
  have hne : ¬ a_closeok (I 358) P H a e = nI 0 → ∃ i, i < H ∧ e = nI i := fun c => by
    unfold a_closeok at c
    exact m_th_ne hH (fun q => c (if_pos q))
  refine PP_d h (by omega) (d2 := 5) (by omega) (xv_close hq s1 s2 s3 s4 (YB_nn hy hB)) (fun X eX hM hU => ?_) (fun c => ?_) (fun c => ?_)
  · have := v_close (nx := nx) (ns := ns) (w := w) (J := J) (a := a) (e := e) hM s1 hU
    rw [eX 358 (by decide)] at this
    exact this
  · obtain ⟨i, hi, rfl⟩ := hne c
    rw [nI_clamp (by omega)]
    unfold a_cut
    obtain ⟨y, y1, y2⟩ := hy
    exact RI_58 hP hH (RI_48 hP hH (RI_up38 hP hH hq.2.2 (by omega) (by omega)) hi (Or.inl rfl)) hi ⟨y, by omega, y2⟩
  · obtain ⟨i, hi, rfl⟩ := hne c
    rw [nI_clamp (by omega)]
    unfold a_cut
    exact YB_68 hy (by rw [up_ne (by omega), up_ne (by omega), up_ne (by omega)])
theorem pp_sell {e f a : Int32} (h : IVb B w I J lv P H F L tf tm tt te fl nl U nxt T n hb) : PP B 40 14 132 [.int e, .int f, .int a] (nx, ns, SH w, I, J) := by
  obtain ⟨hq, -, ⟨s1, s2, s3, s4, s5, -⟩, -, -, -, -, -, -, hy, -⟩ := id h
  have hP : P ≤ 6 := hq.1.1.1.2.2.2.1
  have hH : H ≤ 10 := hq.1.1.1.2.2.2.2.2.1
  have hne : ¬ a_sellok (I 358) P H e f a = nI 0 → ∃ i j p, i < H ∧ j < 2 ∧ p < P ∧ e = nI i ∧ f = nI j ∧ a = nI p ∧ I 358 p = nI 1 := fun c => by
    unfold a_sellok at c
    have c1 : ¬ m_fa e f H = nI 0 := fun q => c (if_pos q)
    rw [if_neg c1] at c
    have c2 : ¬ m_liv (I 358) P a = nI 0 := fun q => c (if_pos q)
    obtain ⟨i, j, hi, hj, rfl, rfl⟩ := m_fa_ne hH c1
    obtain ⟨p, hp, rfl, hp1⟩ := m_liv_ne hP c2
    exact ⟨i, j, p, hi, hj, hp, rfl, rfl, rfl, hp1⟩
  refine PP_d h (by omega) (d2 := 5) (by omega) (xv_sell hq s1 s2 s3 s4) (fun X eX hM hU => ?_) (fun c => ?_) (fun c => ?_)
  · have := v_sell (nx := nx) (ns := ns) (w := w) (J := J) (e := e) (f := f) (a := a) hM s1 hU
    rw [eX 358 (by decide)] at this
    exact this
  · obtain ⟨i, j, p, hi, hj, hp, rfl, rfl, rfl, hp1⟩ := hne c
    rw [nI_clamp (by omega), nI_clamp (by omega)]
    have ek : 18 + 10 * j + i = a_fk (2 * i + j) := by
      rcases (show j = 0 ∨ j = 1 by omega) with rfl | rfl
      · exact (fk_2 i).symm
      · rw [fk_21]
    rw [ek]
    exact RI_own hP hH hq.2.2 (by omega) hp hp1
  · obtain ⟨i, j, p, hi, hj, hp, rfl, rfl, rfl, hp1⟩ := hne c
    rw [nI_clamp (by omega), nI_clamp (by omega)]
    exact YB_68 hy (by rw [up_ne (by omega)])
theorem pp_marry {a b : Int32} (h : IVb B w I J lv P H F L tf tm tt te fl nl U nxt T n hb) : PP B 40 16 134 [.int a, .int b] (nx, ns, SH w, I, J) := by
  obtain ⟨hq, -, ⟨s1, s2, s3, s4, s5, -⟩, -, -, -, -, -, -, hy, -⟩ := id h
  have hP : P ≤ 6 := hq.1.1.1.2.2.2.1
  have hH : H ≤ 10 := hq.1.1.1.2.2.2.2.2.1
  have hne : ¬ a_marok (I 358) P a b = nI 0 → ∃ i j, i < P ∧ j < P ∧ a = nI i ∧ b = nI j := fun c => by
    unfold a_marok at c
    have c1 : ¬ m_liv (I 358) P a = nI 0 := fun q => c (if_pos q)
    rw [if_neg c1] at c
    have c2 : ¬ m_liv (I 358) P b = nI 0 := fun q => c (if_pos q)
    obtain ⟨i, hi, rfl, -⟩ := m_liv_ne hP c1
    obtain ⟨j, hj, rfl, -⟩ := m_liv_ne hP c2
    exact ⟨i, j, hi, hj, rfl, rfl⟩
  refine PP_d h (by omega) (d2 := 5) (by omega) (xv_marry hq s1 s2 s3 s4) (fun X eX hM hU => ?_) (fun c => ?_) (fun c => ?_)
  · have := v_marry (nx := nx) (ns := ns) (w := w) (J := J) (a := a) (b := b) hM s1 hU
    rw [eX 358 (by decide)] at this
    exact this
  · obtain ⟨i, j, hi, hj, rfl, rfl⟩ := hne c
    rw [nI_clamp (by omega), nI_clamp (by omega)]
    exact RI_12 hP hH (RI_12 hP hH hq.2.2 hi hj) hj hi
  · obtain ⟨i, j, hi, hj, rfl, rfl⟩ := hne c
    rw [nI_clamp (by omega), nI_clamp (by omega)]
    exact YB_68 hy (by rw [up_ne (by omega), up_ne (by omega)])
theorem pp_years {a : Int32} (h : IVb B w I J lv P H F L tf tm tt te fl nl U nxt T n hb) : PP B 40 17 136 [.int a] (nx, ns, SH w, I, J) := by
  obtain ⟨hq, -, ⟨s1, s2, s3, s4, s5, -⟩, -, -, -, -, -, -, hy, -⟩ := id h
  have hP : P ≤ 6 := hq.1.1.1.2.2.2.1
  have hH : H ≤ 10 := hq.1.1.1.2.2.2.2.2.1
  have hHB := hq.1.1.2.2.2.2.1
  refine PP_ev (d2 := 10) (by omega) (xv_years (nx := nx) (ns := ns) (J := J) (n := a) hq s1 s2 s3 s4) (by omega) (fun v u hQ => ?_)
  by_cases c1 : m_ok a 61 = nI 0
  · rw [if_pos c1] at hQ
    obtain ⟨rfl, rfl⟩ := hQ
    refine ⟨nM1, rfl, EV_mono (EV_up (by omega) (v_years (nx := nx) (ns := ns) (w := w) (J := J) (n := a) hq.1.1 s1 s5)) (fun v u hN => ?_)⟩
    rw [if_pos c1] at hN
    obtain ⟨rfl, Z, rfl, hz⟩ := hN
    exact ⟨rfl, w, Z, J, rfl, IV_of (IVb_cr h hz)⟩
  · rw [if_neg c1] at hQ
    by_cases c2 : a = nI 0
    · rw [if_pos c2] at hQ
      obtain ⟨rfl, rfl⟩ := hQ
      refine ⟨_, rfl, EV_mono (EV_up (by omega) (v_years (nx := nx) (ns := ns) (w := w) (J := J) (n := a) hq.1.1 s1 s5)) (fun v u hN => ?_)⟩
      rw [if_neg c1, if_pos c2] at hN
      obtain ⟨rfl, Z, rfl, hz⟩ := hN
      exact ⟨rfl, w, Z, J, rfl, IV_of (IVb_cr h hz)⟩
    · rw [if_neg c2] at hQ
      obtain ⟨rfl, X, rfl, hk⟩ := hQ
      have e : ∀ b, 323 ≤ b → X b = I b := fun b hb => hk.1.1 b (by omega) (by omega) (by omega)
      have hgo : ∀ st m, a_go X tf tm tt te fl nl lv P H st m = a_go I tf tm tt te fl nl lv P H st m := fun st m => by
        unfold a_go
        rw [e 358 (by decide)]
        refine go_congr (X := m_cp X lv st) (I := m_cp I lv st) (e _ (by decide)) (e _ (by decide)) (e _ (by decide)) (e _ (by decide)) (e _ (by decide)) ?_ rfl m
        show X 345 lv = I 345 lv
        rw [e _ (by decide)]
      refine ⟨_, rfl, EV_mono (EV_up (by omega) (v_years (nx := nx) (ns := ns) (w := w) (J := J) (n := a) (MST_hi hq.1.1 e) s1 (by rw [e 323 (by omega)]; exact s5))) (fun v u hN => ?_)⟩
      rw [if_neg c1, if_neg c2, hgo] at hN
      obtain ⟨rfl, G, rfl, hc, hg⟩ := hN
      obtain ⟨m, hm, rfl⟩ := m_ok_ne (by omega) c1
      rw [nI_clamp (by omega)] at hg hk ⊢
      refine ⟨rfl, w, _, J, rfl, IV_of2 (IVb_rec h hk hc hg ?_ ?_)⟩
      · unfold a_go
        exact RI_go (I := m_cp I lv 0) hP hH hq.2.2 hHB m
      · obtain ⟨y, y1, y2⟩ := hy
        unfold a_go
        exact ⟨y + m, by omega, by rw [go_68 hP hH, y2, nI_add]⟩
end Ru
