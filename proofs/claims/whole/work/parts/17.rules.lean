/-! ===== Running the small machine: a rule an instruction ===== -/
abbrev mm_E (d : Nat) : mm_Cs := mm_ev mm_nf mm_Cd mm_Ml d
/-- from here to the end, calls d deep at most; what holds then -/
def WP (d y : Nat) (is : List mm_I) (L : mm_L) (st : List Value) (u : mm_M) (Q : Option Value → mm_M → Prop) : Prop := ∃ (n : Nat) (v : Option Value) (w : mm_M), mm_run (mm_E d) mm_nf (mm_Cd y) n is L st u v w ∧ Q v w
/-- a method's run -/
def EV (d y : Nat) (as : List Value) (u : mm_M) (Q : Option Value → mm_M → Prop) : Prop := ∃ (v : Option Value) (w : mm_M), mm_E d y as u v w ∧ Q v w
def mm_go (r : Option (mm_L × List Value × mm_M)) (k : mm_L → List Value → mm_M → Prop) : Prop := match r with
  | some r => k r.1 r.2.1 r.2.2
  | none => False
def mm_gj (r : Option (Nat × List Value)) (k : Nat → List Value → Prop) : Prop := match r with
  | some r => k r.1 r.2
  | none => False
theorem mm_go_some {L : mm_L} {st : List Value} {u : mm_M} {k : mm_L → List Value → mm_M → Prop} : mm_go (some (L, st, u)) k = k L st u := rfl
theorem mm_go_none {k : mm_L → List Value → mm_M → Prop} : mm_go none k = False := rfl
theorem mm_go_ite {c : Prop} {_ : Decidable c} {r : mm_L × List Value × mm_M} {k : mm_L → List Value → mm_M → Prop} : mm_go (if c then some r else none) k ↔ (c ∧ k r.1 r.2.1 r.2.2) := by
  by_cases h : c
  · simp [h, mm_go]
  · simp [h, mm_go]
theorem mm_go_ite2 {c : Prop} {_ : Decidable c} {r : mm_L × List Value × mm_M} {k : mm_L → List Value → mm_M → Prop} : mm_go (if c then none else some r) k ↔ (¬ c ∧ k r.1 r.2.1 r.2.2) := by
  by_cases h : c
  · simp [h, mm_go]
  · simp [h, mm_go]
section WPS
variable {d y : Nat} {is : List mm_I} {L : mm_L} {st : List Value} {u : mm_M} {Q : Option Value → mm_M → Prop} {k a b x1 x2 : Nat} {x3 : Int} {nx ns : Nat} {sh : Nat → mm_Sh} {I : Nat → Nat → Int32} {J : Nat → Nat → Int64}
/-- what a step gives, and goes on -/
theorem WP_s {i : mm_I} (h : i.1 < 50) : WP d y (i :: is) L st u Q ↔ mm_go (mm_stp i L st u) (fun L st u => WP d y is L st u Q) := by
  unfold WP mm_go
  constructor
  · rintro ⟨n, v, w, h1, h2⟩
    cases n with
    | zero => exact h1.elim
    | succ n =>
      unfold mm_run at h1
      rw [if_pos h] at h1
      cases hr : mm_stp i L st u with
      | none => rw [hr] at h1; exact h1.elim
      | some r => rw [hr] at h1; exact ⟨n, v, w, h1, h2⟩
  · intro h1
    cases hr : mm_stp i L st u with
    | none => rw [hr] at h1; exact h1.elim
    | some r =>
      rw [hr] at h1
      obtain ⟨n, v, w, h1, h2⟩ := h1
      refine ⟨n + 1, v, w, ?_, h2⟩
      unfold mm_run
      rw [if_pos h, hr]
      exact h1
theorem WP_j {i : mm_I} (h : 50 ≤ i.1) (h' : i.1 < 70) : WP d y (i :: is) L st u Q ↔ mm_gj (mm_jmp i st) (fun b st => WP d y (mm_Cd y b) L st u Q) := by
  unfold WP mm_gj
  constructor
  · rintro ⟨n, v, w, h1, h2⟩
    cases n with
    | zero => exact h1.elim
    | succ n =>
      unfold mm_run at h1
      rw [if_neg (by omega), if_pos h'] at h1
      cases hr : mm_jmp i st with
      | none => rw [hr] at h1; exact h1.elim
      | some r => rw [hr] at h1; exact ⟨n, v, w, h1, h2⟩
  · intro h1
    cases hr : mm_jmp i st with
    | none => rw [hr] at h1; exact h1.elim
    | some r =>
      rw [hr] at h1
      obtain ⟨n, v, w, h1, h2⟩ := h1
      refine ⟨n + 1, v, w, ?_, h2⟩
      unfold mm_run
      rw [if_neg (by omega), if_pos h', hr]
      exact h1
theorem wp_iload : WP d y ((0, x1, x2, x3) :: is) L st u Q ↔ (match L[x1]? with | some (some (.int x)) => WP d y is L (.int x :: st) u Q | _ => False) := (WP_s (show 0 < 50 by decide)).trans (by show mm_go (ms_0 x1 x2 x3 L st u) _ ↔ _; unfold ms_0; generalize L[x1]? = z; rcases z with _ | _ | v <;> first | exact Iff.rfl | (cases v <;> exact Iff.rfl))
theorem wp_lload : WP d y ((1, x1, x2, x3) :: is) L st u Q ↔ (match L[x1]? with | some (some (.long x)) => WP d y is L (.long x :: st) u Q | _ => False) := (WP_s (show 1 < 50 by decide)).trans (by show mm_go (ms_1 x1 x2 x3 L st u) _ ↔ _; unfold ms_1; generalize L[x1]? = z; rcases z with _ | _ | v <;> first | exact Iff.rfl | (cases v <;> exact Iff.rfl))
theorem wp_aload : WP d y ((2, x1, x2, x3) :: is) L st u Q ↔ (match L[x1]? with | some (some (.ref x)) => WP d y is L (.ref x :: st) u Q | _ => False) := (WP_s (show 2 < 50 by decide)).trans (by show mm_go (ms_2 x1 x2 x3 L st u) _ ↔ _; unfold ms_2; generalize L[x1]? = z; rcases z with _ | _ | v <;> first | exact Iff.rfl | (cases v <;> exact Iff.rfl))
theorem wp_istore {x : Int32} : WP d y ((3, x1, x2, x3) :: is) L (.int x :: st) u Q ↔ (x1 < L.length ∧ WP d y is (mm_sto1 L x1 (.int x)) st u Q) := (WP_s (show 3 < 50 by decide)).trans (by show mm_go (ms_3 x1 x2 x3 L (.int x :: st) u) _ ↔ _; unfold ms_3; first | exact mm_go_ite | exact mm_go_ite2)
theorem wp_lstore {x : Int64} : WP d y ((4, x1, x2, x3) :: is) L (.long x :: st) u Q ↔ (x1 + 1 < L.length ∧ WP d y is (mm_sto2 L x1 (.long x)) st u Q) := (WP_s (show 4 < 50 by decide)).trans (by show mm_go (ms_4 x1 x2 x3 L (.long x :: st) u) _ ↔ _; unfold ms_4; first | exact mm_go_ite | exact mm_go_ite2)
theorem wp_astore {x : Nat} : WP d y ((5, x1, x2, x3) :: is) L (.ref x :: st) u Q ↔ (x1 < L.length ∧ WP d y is (mm_sto1 L x1 (.ref x)) st u Q) := (WP_s (show 5 < 50 by decide)).trans (by show mm_go (ms_5 x1 x2 x3 L (.ref x :: st) u) _ ↔ _; unfold ms_5; first | exact mm_go_ite | exact mm_go_ite2)
theorem wp_iinc : WP d y ((6, x1, x2, x3) :: is) L st u Q ↔ (match L[x1]? with | some (some (.int x)) => WP d y is (mm_sto1 L x1 (.int (x + Int32.ofInt x3))) st u Q | _ => False) := (WP_s (show 6 < 50 by decide)).trans (by show mm_go (ms_6 x1 x2 x3 L st u) _ ↔ _; unfold ms_6; generalize L[x1]? = z; rcases z with _ | _ | v <;> first | exact Iff.rfl | (cases v <;> exact Iff.rfl))
theorem wp_iconst : WP d y ((7, x1, x2, x3) :: is) L st u Q ↔ WP d y is L (.int (Int32.ofInt x3) :: st) u Q := (WP_s (show 7 < 50 by decide)).trans (by show mm_go (ms_7 x1 x2 x3 L st u) _ ↔ _; exact Iff.rfl)
theorem wp_lconst : WP d y ((8, x1, x2, x3) :: is) L st u Q ↔ WP d y is L (.long (Int64.ofInt x3) :: st) u Q := (WP_s (show 8 < 50 by decide)).trans (by show mm_go (ms_8 x1 x2 x3 L st u) _ ↔ _; exact Iff.rfl)
theorem wp_sconst : WP d y ((9, x1, x2, x3) :: is) L st u Q ↔ WP d y is L (.ref (1000000 + x1) :: st) u Q := (WP_s (show 9 < 50 by decide)).trans (by show mm_go (ms_9 x1 x2 x3 L st u) _ ↔ _; exact Iff.rfl)
theorem wp_pop_int {x : Int32} : WP d y ((10, x1, x2, x3) :: is) L (.int x :: st) u Q ↔ WP d y is L st u Q := (WP_s (show 10 < 50 by decide)).trans (by show mm_go (ms_10 x1 x2 x3 L (.int x :: st) u) _ ↔ _; exact Iff.rfl)
theorem wp_dup_int {x : Int32} : WP d y ((11, x1, x2, x3) :: is) L (.int x :: st) u Q ↔ WP d y is L (.int x :: .int x :: st) u Q := (WP_s (show 11 < 50 by decide)).trans (by show mm_go (ms_11 x1 x2 x3 L (.int x :: st) u) _ ↔ _; exact Iff.rfl)
theorem wp_pop_ref {x : Nat} : WP d y ((10, x1, x2, x3) :: is) L (.ref x :: st) u Q ↔ WP d y is L st u Q := (WP_s (show 10 < 50 by decide)).trans (by show mm_go (ms_10 x1 x2 x3 L (.ref x :: st) u) _ ↔ _; exact Iff.rfl)
theorem wp_dup_ref {x : Nat} : WP d y ((11, x1, x2, x3) :: is) L (.ref x :: st) u Q ↔ WP d y is L (.ref x :: .ref x :: st) u Q := (WP_s (show 11 < 50 by decide)).trans (by show mm_go (ms_11 x1 x2 x3 L (.ref x :: st) u) _ ↔ _; exact Iff.rfl)
theorem wp_dup2_ri {x : Int32} {z : Nat} : WP d y ((12, x1, x2, x3) :: is) L (.int x :: .ref z :: st) u Q ↔ WP d y is L (.int x :: .ref z :: .int x :: .ref z :: st) u Q := (WP_s (show 12 < 50 by decide)).trans (by show mm_go (ms_12 x1 x2 x3 L (.int x :: .ref z :: st) u) _ ↔ _; exact Iff.rfl)
theorem wp_ibin {x y2 : Int32} : WP d y ((13, x1, x2, x3) :: is) L (.int y2 :: .int x :: st) u Q ↔ WP d y is L (.int (mm_ibin x1 x y2) :: st) u Q := (WP_s (show 13 < 50 by decide)).trans (by show mm_go (ms_13 x1 x2 x3 L (.int y2 :: .int x :: st) u) _ ↔ _; exact Iff.rfl)
theorem wp_idiv {x y2 : Int32} : WP d y ((14, x1, x2, x3) :: is) L (.int y2 :: .int x :: st) u Q ↔ (¬ y2 = 0 ∧ WP d y is L (.int (x / y2) :: st) u Q) := (WP_s (show 14 < 50 by decide)).trans (by show mm_go (ms_14 x1 x2 x3 L (.int y2 :: .int x :: st) u) _ ↔ _; unfold ms_14; first | exact mm_go_ite | exact mm_go_ite2)
theorem wp_irem {x y2 : Int32} : WP d y ((15, x1, x2, x3) :: is) L (.int y2 :: .int x :: st) u Q ↔ (¬ y2 = 0 ∧ WP d y is L (.int (x - x / y2 * y2) :: st) u Q) := (WP_s (show 15 < 50 by decide)).trans (by show mm_go (ms_15 x1 x2 x3 L (.int y2 :: .int x :: st) u) _ ↔ _; unfold ms_15; first | exact mm_go_ite | exact mm_go_ite2)
theorem wp_lbin {x y2 : Int64} : WP d y ((16, x1, x2, x3) :: is) L (.long y2 :: .long x :: st) u Q ↔ WP d y is L (.long (mm_lbin x1 x y2) :: st) u Q := (WP_s (show 16 < 50 by decide)).trans (by show mm_go (ms_16 x1 x2 x3 L (.long y2 :: .long x :: st) u) _ ↔ _; exact Iff.rfl)
theorem wp_lshl {x : Int64} {y2 : Int32} : WP d y ((17, x1, x2, x3) :: is) L (.int y2 :: .long x :: st) u Q ↔ WP d y is L (.long (x <<< (y2.toInt64 &&& 63)) :: st) u Q := (WP_s (show 17 < 50 by decide)).trans (by show mm_go (ms_17 x1 x2 x3 L (.int y2 :: .long x :: st) u) _ ↔ _; exact Iff.rfl)
theorem wp_lcmp {x y2 : Int64} : WP d y ((18, x1, x2, x3) :: is) L (.long y2 :: .long x :: st) u Q ↔ WP d y is L (.int (lg_cmp x y2) :: st) u Q := (WP_s (show 18 < 50 by decide)).trans (by show mm_go (ms_18 x1 x2 x3 L (.long y2 :: .long x :: st) u) _ ↔ _; exact Iff.rfl)
theorem wp_i2l {x : Int32} : WP d y ((19, x1, x2, x3) :: is) L (.int x :: st) u Q ↔ WP d y is L (.long x.toInt64 :: st) u Q := (WP_s (show 19 < 50 by decide)).trans (by show mm_go (ms_19 x1 x2 x3 L (.int x :: st) u) _ ↔ _; exact Iff.rfl)
theorem wp_l2i {x : Int64} : WP d y ((20, x1, x2, x3) :: is) L (.long x :: st) u Q ↔ WP d y is L (.int x.toInt32 :: st) u Q := (WP_s (show 20 < 50 by decide)).trans (by show mm_go (ms_20 x1 x2 x3 L (.long x :: st) u) _ ↔ _; exact Iff.rfl)
theorem wp_i2b {x : Int32} : WP d y ((21, x1, x2, x3) :: is) L (.int x :: st) u Q ↔ WP d y is L (.int x.toInt8.toInt32 :: st) u Q := (WP_s (show 21 < 50 by decide)).trans (by show mm_go (ms_21 x1 x2 x3 L (.int x :: st) u) _ ↔ _; exact Iff.rfl)
theorem wp_i2c {x : Int32} : WP d y ((22, x1, x2, x3) :: is) L (.int x :: st) u Q ↔ WP d y is L (.int (x.toUInt32 % 65536).toInt32 :: st) u Q := (WP_s (show 22 < 50 by decide)).trans (by show mm_go (ms_22 x1 x2 x3 L (.int x :: st) u) _ ↔ _; exact Iff.rfl)
theorem wp_max {x y2 : Int32} : WP d y ((43, x1, x2, x3) :: is) L (.int y2 :: .int x :: st) u Q ↔ ((st.map fun x => x.category).sum ≤ 8 ∧ WP d y is L (.int (if x < y2 then y2 else x) :: st) u Q) := (WP_s (show 43 < 50 by decide)).trans (by show mm_go (ms_43 x1 x2 x3 L (.int y2 :: .int x :: st) u) _ ↔ _; unfold ms_43; first | exact mm_go_ite | exact mm_go_ite2)
theorem wp_min {x y2 : Int32} : WP d y ((44, x1, x2, x3) :: is) L (.int y2 :: .int x :: st) u Q ↔ ((st.map fun x => x.category).sum ≤ 8 ∧ WP d y is L (.int (if y2 < x then y2 else x) :: st) u Q) := (WP_s (show 44 < 50 by decide)).trans (by show mm_go (ms_44 x1 x2 x3 L (.int y2 :: .int x :: st) u) _ ↔ _; unfold ms_44; first | exact mm_go_ite | exact mm_go_ite2)
theorem wp_23 : WP d y ((23, x1, x2, x3) :: is) L st u Q ↔ mm_go (ms_23 x1 x2 x3 L st u) (fun L st u => WP d y is L st u Q) := WP_s (show 23 < 50 by decide)
theorem wp_24 : WP d y ((24, x1, x2, x3) :: is) L st u Q ↔ mm_go (ms_24 x1 x2 x3 L st u) (fun L st u => WP d y is L st u Q) := WP_s (show 24 < 50 by decide)
theorem wp_25 : WP d y ((25, x1, x2, x3) :: is) L st u Q ↔ mm_go (ms_25 x1 x2 x3 L st u) (fun L st u => WP d y is L st u Q) := WP_s (show 25 < 50 by decide)
theorem wp_26 : WP d y ((26, x1, x2, x3) :: is) L st u Q ↔ mm_go (ms_26 x1 x2 x3 L st u) (fun L st u => WP d y is L st u Q) := WP_s (show 26 < 50 by decide)
theorem wp_27 : WP d y ((27, x1, x2, x3) :: is) L st u Q ↔ mm_go (ms_27 x1 x2 x3 L st u) (fun L st u => WP d y is L st u Q) := WP_s (show 27 < 50 by decide)
theorem wp_28 : WP d y ((28, x1, x2, x3) :: is) L st u Q ↔ mm_go (ms_28 x1 x2 x3 L st u) (fun L st u => WP d y is L st u Q) := WP_s (show 28 < 50 by decide)
theorem wp_29 : WP d y ((29, x1, x2, x3) :: is) L st u Q ↔ mm_go (ms_29 x1 x2 x3 L st u) (fun L st u => WP d y is L st u Q) := WP_s (show 29 < 50 by decide)
theorem wp_30 : WP d y ((30, x1, x2, x3) :: is) L st u Q ↔ mm_go (ms_30 x1 x2 x3 L st u) (fun L st u => WP d y is L st u Q) := WP_s (show 30 < 50 by decide)
theorem wp_31 : WP d y ((31, x1, x2, x3) :: is) L st u Q ↔ mm_go (ms_31 x1 x2 x3 L st u) (fun L st u => WP d y is L st u Q) := WP_s (show 31 < 50 by decide)
theorem wp_32 : WP d y ((32, x1, x2, x3) :: is) L st u Q ↔ mm_go (ms_32 x1 x2 x3 L st u) (fun L st u => WP d y is L st u Q) := WP_s (show 32 < 50 by decide)
theorem wp_33 : WP d y ((33, x1, x2, x3) :: is) L st u Q ↔ mm_go (ms_33 x1 x2 x3 L st u) (fun L st u => WP d y is L st u Q) := WP_s (show 33 < 50 by decide)
theorem wp_34 : WP d y ((34, x1, x2, x3) :: is) L st u Q ↔ mm_go (ms_34 x1 x2 x3 L st u) (fun L st u => WP d y is L st u Q) := WP_s (show 34 < 50 by decide)
theorem wp_35 : WP d y ((35, x1, x2, x3) :: is) L st u Q ↔ mm_go (ms_35 x1 x2 x3 L st u) (fun L st u => WP d y is L st u Q) := WP_s (show 35 < 50 by decide)
theorem wp_36 : WP d y ((36, x1, x2, x3) :: is) L st u Q ↔ mm_go (ms_36 x1 x2 x3 L st u) (fun L st u => WP d y is L st u Q) := WP_s (show 36 < 50 by decide)
theorem wp_37 : WP d y ((37, x1, x2, x3) :: is) L st u Q ↔ mm_go (ms_37 x1 x2 x3 L st u) (fun L st u => WP d y is L st u Q) := WP_s (show 37 < 50 by decide)
theorem wp_38 : WP d y ((38, x1, x2, x3) :: is) L st u Q ↔ mm_go (ms_38 x1 x2 x3 L st u) (fun L st u => WP d y is L st u Q) := WP_s (show 38 < 50 by decide)
theorem wp_39 : WP d y ((39, x1, x2, x3) :: is) L st u Q ↔ mm_go (ms_39 x1 x2 x3 L st u) (fun L st u => WP d y is L st u Q) := WP_s (show 39 < 50 by decide)
theorem wp_40 : WP d y ((40, x1, x2, x3) :: is) L st u Q ↔ mm_go (ms_40 x1 x2 x3 L st u) (fun L st u => WP d y is L st u Q) := WP_s (show 40 < 50 by decide)
theorem wp_41 : WP d y ((41, x1, x2, x3) :: is) L st u Q ↔ mm_go (ms_41 x1 x2 x3 L st u) (fun L st u => WP d y is L st u Q) := WP_s (show 41 < 50 by decide)
theorem wp_42 : WP d y ((42, x1, x2, x3) :: is) L st u Q ↔ mm_go (ms_42 x1 x2 x3 L st u) (fun L st u => WP d y is L st u Q) := WP_s (show 42 < 50 by decide)
theorem wp_goto : WP d y ((50, x1, x2, x3) :: is) L st u Q ↔ WP d y (mm_Cd y x1) L st u Q := (WP_j (show 50 ≤ 50 by decide) (show 50 < 70 by decide)).trans Iff.rfl
theorem wp_jmp : WP d y ((51, x1, x2, x3) :: is) L st u Q ↔ WP d y (mm_Cd y x1) L st u Q := (WP_j (show 50 ≤ 51 by decide) (show 51 < 70 by decide)).trans Iff.rfl
theorem wp_switch {x : Int32} : WP d y ((58, x1, x2, x3) :: is) L (.int x :: st) u Q ↔ WP d y (mm_Cd y (if x.toInt < x3 ∨ x3 + (x2 : Int) ≤ x.toInt then x1 + x2 else x1 + (x.toInt - x3).toNat)) L st u Q := (WP_j (show 50 ≤ 58 by decide) (show 58 < 70 by decide)).trans Iff.rfl
theorem wp_ifz0 {x : Int32} : WP d y ((52, x1, x2, x3) :: is) L (.int x :: st) u Q ↔ if x = 0 then WP d y (mm_Cd y x1) L st u Q else WP d y (mm_Cd y x2) L st u Q := (WP_j (show 50 ≤ 52 by decide) (show 52 < 70 by decide)).trans (by show WP d y (mm_Cd y (if mm_cmp 0 _ _ then _ else _)) _ _ _ _ ↔ _; unfold mm_cmp; by_cases h : x = 0 <;> simp [h])
theorem wp_if0 {x : Int32} : WP d y ((52, x1, x2, x3) :: is) L (.int x :: st) u Q ↔ if x = nI 0 then WP d y (mm_Cd y x1) L st u Q else WP d y (mm_Cd y x2) L st u Q := wp_ifz0
theorem wp_icmp0 {x y2 : Int32} : WP d y ((60, x1, x2, x3) :: is) L (.int y2 :: .int x :: st) u Q ↔ if x = y2 then WP d y (mm_Cd y x1) L st u Q else WP d y (mm_Cd y x2) L st u Q := (WP_j (show 50 ≤ 60 by decide) (show 60 < 70 by decide)).trans (by show WP d y (mm_Cd y (if mm_cmp 0 _ _ then _ else _)) _ _ _ _ ↔ _; unfold mm_cmp; by_cases h : x = y2 <;> simp [h])
theorem wp_ifz1 {x : Int32} : WP d y ((53, x1, x2, x3) :: is) L (.int x :: st) u Q ↔ if ¬ x = 0 then WP d y (mm_Cd y x1) L st u Q else WP d y (mm_Cd y x2) L st u Q := (WP_j (show 50 ≤ 53 by decide) (show 53 < 70 by decide)).trans (by show WP d y (mm_Cd y (if mm_cmp 1 _ _ then _ else _)) _ _ _ _ ↔ _; unfold mm_cmp; by_cases h : x = 0 <;> simp [h])
theorem wp_if1 {x : Int32} : WP d y ((53, x1, x2, x3) :: is) L (.int x :: st) u Q ↔ if ¬ x = nI 0 then WP d y (mm_Cd y x1) L st u Q else WP d y (mm_Cd y x2) L st u Q := wp_ifz1
theorem wp_icmp1 {x y2 : Int32} : WP d y ((61, x1, x2, x3) :: is) L (.int y2 :: .int x :: st) u Q ↔ if ¬ x = y2 then WP d y (mm_Cd y x1) L st u Q else WP d y (mm_Cd y x2) L st u Q := (WP_j (show 50 ≤ 61 by decide) (show 61 < 70 by decide)).trans (by show WP d y (mm_Cd y (if mm_cmp 1 _ _ then _ else _)) _ _ _ _ ↔ _; unfold mm_cmp; by_cases h : x = y2 <;> simp [h])
theorem wp_ifz2 {x : Int32} : WP d y ((54, x1, x2, x3) :: is) L (.int x :: st) u Q ↔ if x < 0 then WP d y (mm_Cd y x1) L st u Q else WP d y (mm_Cd y x2) L st u Q := (WP_j (show 50 ≤ 54 by decide) (show 54 < 70 by decide)).trans (by show WP d y (mm_Cd y (if mm_cmp 2 _ _ then _ else _)) _ _ _ _ ↔ _; unfold mm_cmp; by_cases h : x < 0 <;> simp [h])
theorem wp_if2 {x : Int32} : WP d y ((54, x1, x2, x3) :: is) L (.int x :: st) u Q ↔ if x < nI 0 then WP d y (mm_Cd y x1) L st u Q else WP d y (mm_Cd y x2) L st u Q := wp_ifz2
theorem wp_icmp2 {x y2 : Int32} : WP d y ((62, x1, x2, x3) :: is) L (.int y2 :: .int x :: st) u Q ↔ if x < y2 then WP d y (mm_Cd y x1) L st u Q else WP d y (mm_Cd y x2) L st u Q := (WP_j (show 50 ≤ 62 by decide) (show 62 < 70 by decide)).trans (by show WP d y (mm_Cd y (if mm_cmp 2 _ _ then _ else _)) _ _ _ _ ↔ _; unfold mm_cmp; by_cases h : x < y2 <;> simp [h])
theorem wp_ifz3 {x : Int32} : WP d y ((55, x1, x2, x3) :: is) L (.int x :: st) u Q ↔ if 0 ≤ x then WP d y (mm_Cd y x1) L st u Q else WP d y (mm_Cd y x2) L st u Q := (WP_j (show 50 ≤ 55 by decide) (show 55 < 70 by decide)).trans (by show WP d y (mm_Cd y (if mm_cmp 3 _ _ then _ else _)) _ _ _ _ ↔ _; unfold mm_cmp; by_cases h : 0 ≤ x <;> simp [h])
theorem wp_if3 {x : Int32} : WP d y ((55, x1, x2, x3) :: is) L (.int x :: st) u Q ↔ if nI 0 ≤ x then WP d y (mm_Cd y x1) L st u Q else WP d y (mm_Cd y x2) L st u Q := wp_ifz3
theorem wp_icmp3 {x y2 : Int32} : WP d y ((63, x1, x2, x3) :: is) L (.int y2 :: .int x :: st) u Q ↔ if y2 ≤ x then WP d y (mm_Cd y x1) L st u Q else WP d y (mm_Cd y x2) L st u Q := (WP_j (show 50 ≤ 63 by decide) (show 63 < 70 by decide)).trans (by show WP d y (mm_Cd y (if mm_cmp 3 _ _ then _ else _)) _ _ _ _ ↔ _; unfold mm_cmp; by_cases h : y2 ≤ x <;> simp [h])
theorem wp_ifz4 {x : Int32} : WP d y ((56, x1, x2, x3) :: is) L (.int x :: st) u Q ↔ if 0 < x then WP d y (mm_Cd y x1) L st u Q else WP d y (mm_Cd y x2) L st u Q := (WP_j (show 50 ≤ 56 by decide) (show 56 < 70 by decide)).trans (by show WP d y (mm_Cd y (if mm_cmp 4 _ _ then _ else _)) _ _ _ _ ↔ _; unfold mm_cmp; by_cases h : 0 < x <;> simp [h])
theorem wp_if4 {x : Int32} : WP d y ((56, x1, x2, x3) :: is) L (.int x :: st) u Q ↔ if nI 0 < x then WP d y (mm_Cd y x1) L st u Q else WP d y (mm_Cd y x2) L st u Q := wp_ifz4
theorem wp_icmp4 {x y2 : Int32} : WP d y ((64, x1, x2, x3) :: is) L (.int y2 :: .int x :: st) u Q ↔ if y2 < x then WP d y (mm_Cd y x1) L st u Q else WP d y (mm_Cd y x2) L st u Q := (WP_j (show 50 ≤ 64 by decide) (show 64 < 70 by decide)).trans (by show WP d y (mm_Cd y (if mm_cmp 4 _ _ then _ else _)) _ _ _ _ ↔ _; unfold mm_cmp; by_cases h : y2 < x <;> simp [h])
theorem wp_ifz5 {x : Int32} : WP d y ((57, x1, x2, x3) :: is) L (.int x :: st) u Q ↔ if x ≤ 0 then WP d y (mm_Cd y x1) L st u Q else WP d y (mm_Cd y x2) L st u Q := (WP_j (show 50 ≤ 57 by decide) (show 57 < 70 by decide)).trans (by show WP d y (mm_Cd y (if mm_cmp 5 _ _ then _ else _)) _ _ _ _ ↔ _; unfold mm_cmp; by_cases h : x ≤ 0 <;> simp [h])
theorem wp_if5 {x : Int32} : WP d y ((57, x1, x2, x3) :: is) L (.int x :: st) u Q ↔ if x ≤ nI 0 then WP d y (mm_Cd y x1) L st u Q else WP d y (mm_Cd y x2) L st u Q := wp_ifz5
theorem wp_icmp5 {x y2 : Int32} : WP d y ((65, x1, x2, x3) :: is) L (.int y2 :: .int x :: st) u Q ↔ if x ≤ y2 then WP d y (mm_Cd y x1) L st u Q else WP d y (mm_Cd y x2) L st u Q := (WP_j (show 50 ≤ 65 by decide) (show 65 < 70 by decide)).trans (by show WP d y (mm_Cd y (if mm_cmp 5 _ _ then _ else _)) _ _ _ _ ↔ _; unfold mm_cmp; by_cases h : x ≤ y2 <;> simp [h])
theorem wp_iret {x : Int32} : WP d y ((71, x1, x2, x3) :: is) L [.int x] u Q ↔ Q (some (.int x)) u := by
  unfold WP
  constructor
  · rintro ⟨n, v, w, h1, h2⟩
    cases n with
    | zero => exact h1.elim
    | succ n =>
      unfold mm_run at h1
      rw [if_neg (show ¬ (71 : Nat) < 50 by decide), if_neg (show ¬ (71 : Nat) < 70 by decide), if_neg (show ¬ (71 : Nat) = 70 by decide), if_pos rfl] at h1
      obtain ⟨rfl, rfl⟩ := h1; exact h2
  · intro h
    refine ⟨1, some (.int x), u, ?_, h⟩
    unfold mm_run
    rw [if_neg (show ¬ (71 : Nat) < 50 by decide), if_neg (show ¬ (71 : Nat) < 70 by decide), if_neg (show ¬ (71 : Nat) = 70 by decide), if_pos rfl]
    exact ⟨rfl, rfl⟩
theorem wp_zret {x : Int32} : WP d y ((72, x1, x2, x3) :: is) L [.int x] u Q ↔ ((x = 0 ∨ x = 1) ∧ Q (some (.int x)) u) := by
  unfold WP
  constructor
  · rintro ⟨n, v, w, h1, h2⟩
    cases n with
    | zero => exact h1.elim
    | succ n =>
      unfold mm_run at h1
      rw [if_neg (show ¬ (72 : Nat) < 50 by decide), if_neg (show ¬ (72 : Nat) < 70 by decide), if_neg (show ¬ (72 : Nat) = 70 by decide), if_neg (show ¬ (72 : Nat) = 71 by decide), if_pos rfl] at h1
      obtain ⟨g1, rfl, rfl⟩ := h1; exact ⟨g1, h2⟩
  · intro h
    refine ⟨1, some (.int x), u, ?_, h.2⟩
    unfold mm_run
    rw [if_neg (show ¬ (72 : Nat) < 50 by decide), if_neg (show ¬ (72 : Nat) < 70 by decide), if_neg (show ¬ (72 : Nat) = 70 by decide), if_neg (show ¬ (72 : Nat) = 71 by decide), if_pos rfl]
    exact ⟨h.1, rfl, rfl⟩
theorem wp_lret {x : Int64} : WP d y ((73, x1, x2, x3) :: is) L [.long x] u Q ↔ Q (some (.long x)) u := by
  unfold WP
  constructor
  · rintro ⟨n, v, w, h1, h2⟩
    cases n with
    | zero => exact h1.elim
    | succ n =>
      unfold mm_run at h1
      rw [if_neg (show ¬ (73 : Nat) < 50 by decide), if_neg (show ¬ (73 : Nat) < 70 by decide), if_neg (show ¬ (73 : Nat) = 70 by decide), if_neg (show ¬ (73 : Nat) = 71 by decide), if_neg (show ¬ (73 : Nat) = 72 by decide), if_pos rfl] at h1
      obtain ⟨rfl, rfl⟩ := h1; exact h2
  · intro h
    refine ⟨1, some (.long x), u, ?_, h⟩
    unfold mm_run
    rw [if_neg (show ¬ (73 : Nat) < 50 by decide), if_neg (show ¬ (73 : Nat) < 70 by decide), if_neg (show ¬ (73 : Nat) = 70 by decide), if_neg (show ¬ (73 : Nat) = 71 by decide), if_neg (show ¬ (73 : Nat) = 72 by decide), if_pos rfl]
    exact ⟨rfl, rfl⟩
theorem wp_vret : WP d y ((74, x1, x2, x3) :: is) L [] u Q ↔ Q none u := by
  unfold WP
  constructor
  · rintro ⟨n, v, w, h1, h2⟩
    cases n with
    | zero => exact h1.elim
    | succ n =>
      unfold mm_run at h1
      rw [if_neg (show ¬ (74 : Nat) < 50 by decide), if_neg (show ¬ (74 : Nat) < 70 by decide), if_neg (show ¬ (74 : Nat) = 70 by decide), if_neg (show ¬ (74 : Nat) = 71 by decide), if_neg (show ¬ (74 : Nat) = 72 by decide), if_neg (show ¬ (74 : Nat) = 73 by decide)] at h1
      obtain ⟨-, -, rfl, rfl⟩ := h1; exact h2
  · intro h
    refine ⟨1, none, u, ?_, h⟩
    unfold mm_run
    rw [if_neg (show ¬ (74 : Nat) < 50 by decide), if_neg (show ¬ (74 : Nat) < 70 by decide), if_neg (show ¬ (74 : Nat) = 70 by decide), if_neg (show ¬ (74 : Nat) = 71 by decide), if_neg (show ¬ (74 : Nat) = 72 by decide), if_neg (show ¬ (74 : Nat) = 73 by decide)]
    exact ⟨rfl, rfl, rfl, rfl⟩
/-- a call -/
theorem wp_call : WP d y ((70, x1, x2, x3) :: is) L st u Q ↔ ((mm_nf x1).1 ≤ st.length ∧ mm_rc (mm_nf x1).2.1 (mm_nf x1).2.2 (st.take (mm_nf x1).1).reverse u.2.2.1 = true ∧ ((st.drop (mm_nf x1).1).map fun x => x.category).sum ≤ 8 ∧ EV d x1 (st.take (mm_nf x1).1).reverse u (fun v w => WP d y is L (v.toList ++ st.drop (mm_nf x1).1) w Q)) := by
  unfold WP EV
  constructor
  · rintro ⟨n, v, w, h1, h2⟩
    cases n with
    | zero => exact h1.elim
    | succ n =>
      unfold mm_run at h1
      rw [if_neg (show ¬ (70 : Nat) < 50 by decide), if_neg (show ¬ (70 : Nat) < 70 by decide), if_pos rfl] at h1
      obtain ⟨g1, g2, g3, v1, u1, g4, g5⟩ := h1
      exact ⟨g1, g2, g3, v1, u1, g4, n, v, w, g5, h2⟩
  · rintro ⟨g1, g2, g3, v1, u1, g4, n, v, w, g5, h2⟩
    refine ⟨n + 1, v, w, ?_, h2⟩
    unfold mm_run
    rw [if_neg (show ¬ (70 : Nat) < 50 by decide), if_neg (show ¬ (70 : Nat) < 70 by decide), if_pos rfl]
    exact ⟨g1, g2, g3, v1, u1, g4, g5⟩
theorem EV_mono {as : List Value} {Q' : Option Value → mm_M → Prop} (h : EV d y as u Q) (hq : ∀ v w, Q v w → Q' v w) : EV d y as u Q' := by
  obtain ⟨v, w, h1, h2⟩ := h
  exact ⟨v, w, h1, hq v w h2⟩
theorem EV_of {as : List Value} (hl : (mm_slots as).length ≤ mm_Ml y) (h : WP d y (mm_Cd y 0) (mm_fr (mm_Ml y) as) [] u Q) : EV (d + 1) y as u Q := by
  obtain ⟨n, v, w, h1, h2⟩ := h
  exact ⟨v, w, ⟨hl, n, h1⟩, h2⟩
theorem mm_run_up {C C' : mm_Cs} (hC : ∀ y as u v w, C y as u v w → C' y as u v w) {Nf : mm_Nf} {B : Nat → List mm_I} : ∀ (n : Nat) (is : List mm_I) (L : mm_L) (st : List Value) (u : mm_M) (v : Option Value) (w : mm_M), mm_run C Nf B n is L st u v w → mm_run C' Nf B n is L st u v w := by
  intro n
  induction n with
  | zero => intro is L st u v w h; cases is <;> exact h.elim
  | succ n ih =>
    intro is L st u v w h
    cases is with
    | nil => exact h.elim
    | cons i is =>
      unfold mm_run at h ⊢
      split at h
      · rename_i hi
        rw [if_pos hi]
        split at h
        · rename_i r hr
          exact ih _ _ _ _ _ _ h
        · exact h.elim
      · rename_i hi
        rw [if_neg hi]
        split at h
        · rename_i hi2
          rw [if_pos hi2]
          split at h
          · exact ih _ _ _ _ _ _ h
          · exact h.elim
        · rename_i hi2
          rw [if_neg hi2]
          split at h
          · rename_i hi3
            rw [if_pos hi3]
            obtain ⟨g1, g2, g3, v1, u1, g4, g5⟩ := h
            exact ⟨g1, g2, g3, v1, u1, hC _ _ _ _ _ g4, ih _ _ _ _ _ _ g5⟩
          · rename_i hi3
            rw [if_neg hi3]
            exact h
theorem mm_E_up : ∀ (d y : Nat) (as : List Value) (u : mm_M) (v : Option Value) (w : mm_M), mm_E d y as u v w → mm_E (d + 1) y as u v w := by
  intro d
  induction d with
  | zero => intro y as u v w h; exact h.elim
  | succ d ih =>
    intro y as u v w h
    obtain ⟨h0, n, h⟩ := h
    exact ⟨h0, n, mm_run_up ih n _ _ _ _ _ _ h⟩
/-- deeper is no less -/
theorem EV_up {d' : Nat} {as : List Value} (hd : d ≤ d') (h : EV d y as u Q) : EV d' y as u Q := by
  induction hd with
  | refl => exact h
  | step _ ih =>
    obtain ⟨v, w, h1, h2⟩ := ih
    exact ⟨v, w, mm_E_up _ _ _ _ _ _ h1, h2⟩
end WPS
theorem down_ind {W : Nat → Prop} (n : Nat) (hn : W n) (hs : ∀ j, j < n → W (j + 1) → W j) : ∀ j, j ≤ n → W j := by
  intro j hj
  induction h : n - j generalizing j with
  | zero => rw [show j = n by omega]; exact hn
  | succ k ih =>
    by_cases e : j = n
    · rw [e]; exact hn
    · exact hs j (by omega) (ih (j + 1) (by omega) (by omega))
