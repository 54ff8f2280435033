/-! ===== numbers ===== -/
theorem nl_eq (a : Nat) : (OfNat.ofNat a : Int32) = nI a := rfl
theorem nl_add (a b : Nat) : (OfNat.ofNat a : Int32) + nI b = nI (a + b) := nI_add a b
theorem nl_add' (a b : Nat) : nI a + (OfNat.ofNat b : Int32) = nI (a + b) := nI_add a b
theorem nl_mul (a b : Nat) : (OfNat.ofNat a : Int32) * nI b = nI (a * b) := pk_mul a b
theorem nl_mul' (a b : Nat) : nI a * (OfNat.ofNat b : Int32) = nI (a * b) := pk_mul a b
theorem nl_le {a b : Nat} (ha : a < 2 ^ 31) (hb : b < 2 ^ 31) : ((OfNat.ofNat a : Int32) ≤ nI b) ↔ a ≤ b := nI_leI ha hb
theorem nl_le' {a b : Nat} (ha : a < 2 ^ 31) (hb : b < 2 ^ 31) : (nI a ≤ (OfNat.ofNat b : Int32)) ↔ a ≤ b := nI_leI ha hb
theorem nl_lt {a b : Nat} (ha : a < 2 ^ 31) (hb : b < 2 ^ 31) : ((OfNat.ofNat a : Int32) < nI b) ↔ a < b := nI_ltI ha hb
theorem nl_lt' {a b : Nat} (ha : a < 2 ^ 31) (hb : b < 2 ^ 31) : (nI a < (OfNat.ofNat b : Int32)) ↔ a < b := nI_ltI ha hb
theorem nl_eqI {a b : Nat} (ha : a < 2 ^ 31) (hb : b < 2 ^ 31) : ((OfNat.ofNat a : Int32) = nI b) ↔ a = b := nI_eq ha hb
theorem nl_eqI' {a b : Nat} (ha : a < 2 ^ 31) (hb : b < 2 ^ 31) : (nI a = (OfNat.ofNat b : Int32)) ↔ a = b := nI_eq ha hb
theorem nl_in {a n : Nat} (h : a < n) (hn : n < 2 ^ 31) : vp_in (OfNat.ofNat a : Int32) n := vp_in_nI h hn
theorem mm_up2_eq {α : Type} (I : Nat → Nat → α) (a k : Nat) (x : α) : mm_up2 I a k x = mm_up I a (mm_up (I a) k x) := by
  funext b j
  simp only [mm_up2, mm_up]
  by_cases h : b = a
  · subst h; by_cases h2 : j = k <;> simp [h2, mm_up]
  · simp [h]
theorem mm_up_up {α : Type} (f : Nat → α) (a : Nat) (x y : α) : mm_up (mm_up f a x) a y = mm_up f a y := by
  funext b
  simp only [mm_up]
  by_cases h : b = a <;> simp [h]
theorem mm_up_app {α : Type} (f : Nat → α) (a : Nat) (x : α) (b : Nat) : mm_up f a x b = if b = a then x else f b := rfl
theorem mm_up_id {α : Type} (f : Nat → α) (a : Nat) : mm_up f a (f a) = f := mm_up_self f a
/-! literals -/
theorem li_0 : (0 : Int32) = nI 0 := rfl
theorem li_1 : (1 : Int32) = nI 1 := rfl
theorem li_2 : (2 : Int32) = nI 2 := rfl
theorem li_3 : (3 : Int32) = nI 3 := rfl
theorem li_4 : (4 : Int32) = nI 4 := rfl
theorem li_5 : (5 : Int32) = nI 5 := rfl
theorem li_6 : (6 : Int32) = nI 6 := rfl
theorem li_7 : (7 : Int32) = nI 7 := rfl
theorem li_8 : (8 : Int32) = nI 8 := rfl
theorem li_9 : (9 : Int32) = nI 9 := rfl
theorem li_10 : (10 : Int32) = nI 10 := rfl
theorem li_11 : (11 : Int32) = nI 11 := rfl
theorem li_12 : (12 : Int32) = nI 12 := rfl
theorem li_13 : (13 : Int32) = nI 13 := rfl
theorem li_14 : (14 : Int32) = nI 14 := rfl
theorem li_15 : (15 : Int32) = nI 15 := rfl
theorem li_16 : (16 : Int32) = nI 16 := rfl
theorem li_17 : (17 : Int32) = nI 17 := rfl
theorem li_18 : (18 : Int32) = nI 18 := rfl
theorem li_19 : (19 : Int32) = nI 19 := rfl
theorem li_20 : (20 : Int32) = nI 20 := rfl
theorem li_21 : (21 : Int32) = nI 21 := rfl
theorem li_22 : (22 : Int32) = nI 22 := rfl
theorem li_23 : (23 : Int32) = nI 23 := rfl
theorem li_24 : (24 : Int32) = nI 24 := rfl
theorem li_25 : (25 : Int32) = nI 25 := rfl
theorem li_26 : (26 : Int32) = nI 26 := rfl
theorem li_27 : (27 : Int32) = nI 27 := rfl
theorem li_28 : (28 : Int32) = nI 28 := rfl
theorem li_29 : (29 : Int32) = nI 29 := rfl
theorem li_30 : (30 : Int32) = nI 30 := rfl
theorem li_31 : (31 : Int32) = nI 31 := rfl
theorem li_32 : (32 : Int32) = nI 32 := rfl
theorem li_33 : (33 : Int32) = nI 33 := rfl
theorem li_36 : (36 : Int32) = nI 36 := rfl
theorem li_38 : (38 : Int32) = nI 38 := rfl
theorem li_40 : (40 : Int32) = nI 40 := rfl
theorem li_41 : (41 : Int32) = nI 41 := rfl
theorem li_42 : (42 : Int32) = nI 42 := rfl
theorem li_43 : (43 : Int32) = nI 43 := rfl
theorem li_45 : (45 : Int32) = nI 45 := rfl
theorem li_47 : (47 : Int32) = nI 47 := rfl
theorem li_48 : (48 : Int32) = nI 48 := rfl
theorem li_57 : (57 : Int32) = nI 57 := rfl
theorem li_58 : (58 : Int32) = nI 58 := rfl
theorem li_59 : (59 : Int32) = nI 59 := rfl
theorem li_60 : (60 : Int32) = nI 60 := rfl
theorem li_61 : (61 : Int32) = nI 61 := rfl
theorem li_63 : (63 : Int32) = nI 63 := rfl
theorem li_64 : (64 : Int32) = nI 64 := rfl
theorem li_68 : (68 : Int32) = nI 68 := rfl
theorem li_69 : (69 : Int32) = nI 69 := rfl
theorem li_97 : (97 : Int32) = nI 97 := rfl
theorem li_99 : (99 : Int32) = nI 99 := rfl
theorem li_100 : (100 : Int32) = nI 100 := rfl
theorem li_101 : (101 : Int32) = nI 101 := rfl
theorem li_102 : (102 : Int32) = nI 102 := rfl
theorem li_103 : (103 : Int32) = nI 103 := rfl
theorem li_104 : (104 : Int32) = nI 104 := rfl
theorem li_105 : (105 : Int32) = nI 105 := rfl
theorem li_108 : (108 : Int32) = nI 108 := rfl
theorem li_110 : (110 : Int32) = nI 110 := rfl
theorem li_111 : (111 : Int32) = nI 111 := rfl
theorem li_112 : (112 : Int32) = nI 112 := rfl
theorem li_114 : (114 : Int32) = nI 114 := rfl
theorem li_115 : (115 : Int32) = nI 115 := rfl
theorem li_116 : (116 : Int32) = nI 116 := rfl
theorem li_117 : (117 : Int32) = nI 117 := rfl
theorem li_119 : (119 : Int32) = nI 119 := rfl
theorem li_121 : (121 : Int32) = nI 121 := rfl
theorem li_122 : (122 : Int32) = nI 122 := rfl
theorem li_130 : (130 : Int32) = nI 130 := rfl
theorem li_155 : (155 : Int32) = nI 155 := rfl
theorem li_199 : (199 : Int32) = nI 199 := rfl
theorem li_207 : (207 : Int32) = nI 207 := rfl
theorem li_255 : (255 : Int32) = nI 255 := rfl
theorem li_260 : (260 : Int32) = nI 260 := rfl
theorem li_400 : (400 : Int32) = nI 400 := rfl
theorem li_401 : (401 : Int32) = nI 401 := rfl
theorem li_403 : (403 : Int32) = nI 403 := rfl
theorem li_404 : (404 : Int32) = nI 404 := rfl
theorem li_420 : (420 : Int32) = nI 420 := rfl
theorem li_840 : (840 : Int32) = nI 840 := rfl
theorem li_2000 : (2000 : Int32) = nI 2000 := rfl
theorem li_2691 : (2691 : Int32) = nI 2691 := rfl
theorem li_2760 : (2760 : Int32) = nI 2760 := rfl
theorem li_9999 : (9999 : Int32) = nI 9999 := rfl
theorem li_12345 : (12345 : Int32) = nI 12345 := rfl
theorem li_252645135 : (252645135 : Int32) = nI 252645135 := rfl
theorem li_858993459 : (858993459 : Int32) = nI 858993459 := rfl
theorem li_1103515245 : (1103515245 : Int32) = nI 1103515245 := rfl
theorem li_1431655765 : (1431655765 : Int32) = nI 1431655765 := rfl
def nM1 : Int32 := -1
def nM2 : Int32 := -2
theorem lm_1 : (-nI 1 : Int32) = nM1 := rfl
theorem lm_2 : (-nI 2 : Int32) = nM2 := rfl
theorem lm_1' : (-1 : Int32) = nM1 := rfl
theorem lm_2' : (-2 : Int32) = nM2 := rfl
theorem nM1_lt {n : Nat} (h : n < 2 ^ 31) : nM1 < nI n := by
  rw [Int32.lt_iff_toInt_lt, nI_toInt h]
  have : nM1.toInt = -1 := rfl
  omega
theorem nM2_lt {n : Nat} (h : n < 2 ^ 31) : nM2 < nI n := by
  rw [Int32.lt_iff_toInt_lt, nI_toInt h]
  have : nM2.toInt = -2 := rfl
  omega
theorem nI_nM1 {n : Nat} (h : n < 2 ^ 31) : (nI n = nM1) ↔ False := by
  refine ⟨fun e => ?_, False.elim⟩
  have := nM1_lt h
  rw [← e] at this
  exact Int32.lt_irrefl this
theorem nI_nM2 {n : Nat} (h : n < 2 ^ 31) : (nI n = nM2) ↔ False := by
  refine ⟨fun e => ?_, False.elim⟩
  have := nM2_lt h
  rw [← e] at this
  exact Int32.lt_irrefl this
theorem nM1_nI {n : Nat} (h : n < 2 ^ 31) : (nM1 = nI n) ↔ False := by rw [eq_comm, nI_nM1 h]
theorem nM2_nI {n : Nat} (h : n < 2 ^ 31) : (nM2 = nI n) ↔ False := by rw [eq_comm, nI_nM2 h]
theorem nI_le_nM {n : Nat} (h : n < 2 ^ 31) : (nI n ≤ nM1) ↔ False := by
  refine ⟨fun e => ?_, False.elim⟩
  exact Int32.lt_irrefl (Int32.lt_of_le_of_lt e (nM1_lt h))
theorem nI_le_nM2 {n : Nat} (h : n < 2 ^ 31) : (nI n ≤ nM2) ↔ False := by
  refine ⟨fun e => ?_, False.elim⟩
  exact Int32.lt_irrefl (Int32.lt_of_le_of_lt e (nM2_lt h))
theorem nI_lt_nM {n : Nat} (h : n < 2 ^ 31) : (nI n < nM1) ↔ False := by
  refine ⟨fun e => ?_, False.elim⟩
  exact Int32.lt_irrefl (Int32.lt_trans e (nM1_lt h))
theorem nI_lt_nM2 {n : Nat} (h : n < 2 ^ 31) : (nI n < nM2) ↔ False := by
  refine ⟨fun e => ?_, False.elim⟩
  exact Int32.lt_irrefl (Int32.lt_trans e (nM2_lt h))
theorem nM12 : (nM1 = nM2) ↔ False := by decide
theorem nM21 : (nM2 = nM1) ↔ False := by decide
