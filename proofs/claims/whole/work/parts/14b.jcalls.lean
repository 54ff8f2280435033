/-! ===== The JDK's methods of the text constants (by program, gen/mkj.py) ===== -/
def jt_lat : mm_T := (⟨"java/lang/String", "isLatin1", "()Z"⟩, prog_18_method_154_code, 1, some .boolean, 1, 0, 0, [1066, 1064, 1065, 1005])
theorem jw_lat : mm_cw jt_lat := rfl
theorem jc_lat : jck jt_lat = true := by decide +kernel
def jt_cod : mm_T := (⟨"java/lang/String", "coder", "()B"⟩, prog_18_method_152_code, 1, some .byte, 1, 0, 0, [3055, 3053, 3054, 1005])
theorem jw_cod : mm_cw jt_cod := rfl
theorem jc_cod : jck jt_cod = true := by decide +kernel
def jt_lng : mm_T := (⟨"java/lang/String", "length", "()I"⟩, prog_18_method_54_code, 1, some .int, 1, 0, 0, [3051, 3049, 3050, 1005])
theorem jw_lng : mm_cw jt_lng := rfl
theorem jc_lng : jck jt_lng = true := by decide +kernel
def jt_can : mm_T := (⟨"java/lang/StringLatin1", "canEncode", "(I)Z"⟩, prog_19_method_4_code, 1, some .boolean, 0, 0, 1, [3061, 3060, 0, 1006])
theorem jw_can : mm_cw jt_can := rfl
theorem jc_can : jck jt_can = true := by decide +kernel
def jt_pci : mm_T := (⟨"jdk/internal/util/Preconditions", "checkIndex", "(IILjava/util/function/BiFunction;)I"⟩, prog_22_method_11_code, 3, some .int, 0, 0, 3, [1079, 1078, 0, 1007])
theorem jw_pci : mm_cw jt_pci := rfl
theorem jc_pci : jck jt_pci = true := by decide +kernel
def jt_sci : mm_T := (⟨"java/lang/String", "checkIndex", "(II)V"⟩, prog_18_method_155_code, 2, none, 0, 0, 2, [1074, 1073, 0, 1005])
theorem jw_sci : mm_cw jt_sci := rfl
theorem jc_sci : jck jt_sci = true := by decide +kernel
def jt_lca : mm_T := (⟨"java/lang/StringLatin1", "charAt", "([BI)C"⟩, prog_19_method_2_code, 2, some .char, 0, 0, 2, [1071, 1070, 0, 1006])
theorem jw_lca : mm_cw jt_lca := rfl
theorem jc_lca : jck jt_lca = true := by decide +kernel
def jt_cha : mm_T := (⟨"java/lang/String", "charAt", "(I)C"⟩, prog_18_method_56_code, 2, some .char, 1, 0, 1, [1062, 1060, 1061, 1005])
theorem jw_cha : mm_cw jt_cha := rfl
theorem jc_cha : jck jt_cha = true := by decide +kernel
def jt_ioc : mm_T := (⟨"java/lang/StringLatin1", "indexOfChar", "([BIII)I"⟩, prog_19_method_23_code, 6, some .int, 0, 0, 4, [3070, 3069, 0, 1006])
theorem jw_ioc : mm_cw jt_ioc := rfl
theorem jc_ioc : jck jt_ioc = true := by decide +kernel
def jt_lio : mm_T := (⟨"java/lang/StringLatin1", "indexOf", "([BIII)I"⟩, prog_19_method_22_code, 4, some .int, 0, 0, 4, [3058, 3057, 0, 1006])
theorem jw_lio : mm_cw jt_lio := rfl
theorem jc_lio : jck jt_lio = true := by decide +kernel
def jt_io2 : mm_T := (⟨"java/lang/String", "indexOf", "(II)I"⟩, prog_18_method_80_code, 3, some .int, 1, 0, 2, [3047, 3045, 3046, 1005])
theorem jw_io2 : mm_cw jt_io2 := rfl
theorem jc_io2 : jck jt_io2 = true := by decide +kernel
def jt_io1 : mm_T := (⟨"java/lang/String", "indexOf", "(I)I"⟩, prog_18_method_79_code, 2, some .int, 1, 0, 1, [3043, 3041, 3042, 1005])
theorem jw_io1 : mm_cw jt_io1 := rfl
theorem jc_io1 : jck jt_io1 = true := by decide +kernel
theorem jj2t {f : Nat} {x y : Int32} (h : mm_cmp f x y = true) : mj_2 f 0 1 [.int y, .int x] = some (0, []) := by simp [mj_2, h]
theorem jj2f {f : Nat} {x y : Int32} (h : mm_cmp f x y = false) : mj_2 f 0 1 [.int y, .int x] = some (1, []) := by simp [mj_2, h]
section JCL
variable {l : Launch} {D : va_G} {cs : Nat → ClassId} {b : Nat} {ad : Nat → Nat} {aK aV : Nat → Nat} {z z0 : Value} {i : Nat}
theorem j_lat (hj : jAd ad aK aV z z0) (had : ∀ q, q < 1000000 → ad q = b + q) (hi : i < 2) : jM l D cs b ad aK aV z jt_lat 0 [.ref (1000000 + i)] (some (.int 1)) := by
  refine jM_of jc_lat (Nat.le_of_ble_eq_true rfl) ?_ had
  intro u p e s m args below meth c X hN hsw hr hlk
  change mm_C p s m args meth c prog_18_method_154_code "java/lang/String" "isLatin1" 1 D cs b ad at X
  refine j_compact (pc := 0) (ix := 38) (w := 1067) X hsw rfl (by decide +kernel) ?_
  refine mm_jok (i := (52, 0, 1, 0)) (lab := fun k => if k = 0 then 17 else 6) (pc := 3) (b' := 1) X (by decide +kernel) (rfl) ?_
  refine js_ok (i := (2, 0, 0, 0)) (len := 1) (pc := 6) X (by decide) (by decide +kernel) rfl ?_
  refine j_coder (pc := 7) (ix := 15) (w := 8116) hj X hsw hi rfl (by decide +kernel) ?_
  refine mm_jok (i := (53, 0, 1, 0)) (lab := fun k => if k = 0 then 17 else 13) (pc := 10) (b' := 1) X (by decide +kernel) (rfl) ?_
  refine js_ok (i := (7, 0, 0, 1)) (len := 1) (pc := 13) X (by decide) (by decide +kernel) rfl ?_
  refine mm_jok (i := (50, 0, 0, 0)) (lab := fun _ => 18) (pc := 14) (b' := 0) X (by decide +kernel) rfl ?_
  exact j_ret (pc := 18) X hr hlk (by decide +kernel) (by decide +kernel)
theorem j_cod (hj : jAd ad aK aV z z0) (had : ∀ q, q < 1000000 → ad q = b + q) (hi : i < 2) : jM l D cs b ad aK aV z jt_cod 0 [.ref (1000000 + i)] (some (.int 0)) := by
  refine jM_of jc_cod (Nat.le_of_ble_eq_true rfl) ?_ had
  intro u p e s m args below meth c X hN hsw hr hlk
  change mm_C p s m args meth c prog_18_method_152_code "java/lang/String" "coder" 1 D cs b ad at X
  refine j_compact (pc := 0) (ix := 38) (w := 1067) X hsw rfl (by decide +kernel) ?_
  refine mm_jok (i := (52, 0, 1, 0)) (lab := fun k => if k = 0 then 13 else 6) (pc := 3) (b' := 1) X (by decide +kernel) (rfl) ?_
  refine js_ok (i := (2, 0, 0, 0)) (len := 1) (pc := 6) X (by decide) (by decide +kernel) rfl ?_
  refine j_coder (pc := 7) (ix := 15) (w := 8116) hj X hsw hi rfl (by decide +kernel) ?_
  refine mm_jok (i := (50, 0, 0, 0)) (lab := fun _ => 14) (pc := 10) (b' := 0) X (by decide +kernel) rfl ?_
  exact j_ret (pc := 14) X hr hlk (by decide +kernel) (by decide +kernel)
theorem j_shr : ∀ i, i < 2 → mm_ibin 7 (nI (jLn.getD i 0)) 0 = nI (jLn.getD i 0) := by decide +kernel
theorem j_lng (hj : jAd ad aK aV z z0) (had : ∀ q, q < 1000000 → ad q = b + q) (hi : i < 2) : jM l D cs b ad aK aV z jt_lng 1 [.ref (1000000 + i)] (some (.int (nI (jLn.getD i 0)))) := by
  refine jM_of jc_lng (Nat.le_of_ble_eq_true rfl) ?_ had
  intro u p e s m args below meth c X hN hsw hr hlk
  change mm_C p s m args meth c prog_18_method_54_code "java/lang/String" "length" 1 D cs b ad at X
  refine js_ok (i := (2, 0, 0, 0)) (len := 1) (pc := 0) X (by decide) (by decide +kernel) rfl ?_
  refine j_value (pc := 1) (ix := 9) (w := 8117) hj X hsw hi rfl (by decide +kernel) ?_
  refine j_len (pc := 4) hj X hsw hi (by decide +kernel) ?_
  refine js_ok (i := (2, 0, 0, 0)) (len := 1) (pc := 5) X (by decide) (by decide +kernel) rfl ?_
  refine j_callV (pc := 6) (w9 := 3052) (d := 0) (as := []) (t := jt_cod) hj X hN hsw jw_cod jc_cod (by decide +kernel) rfl (by decide) ⟨by decide, by decide⟩ (by rw [Nat.sub_self, Nat.sub_self]; exact ⟨by decide, by decide⟩) rfl hi (Nat.le_of_ble_eq_true rfl) (j_cod hj had hi) ?_
  refine js_ok (i := (13, 7, 0, 0)) (len := 1) (pc := 9) X (by decide) (by decide +kernel) rfl ?_
  rw [j_shr i hi]
  exact j_ret (pc := 10) X hr hlk (rfl) (by decide +kernel)
def jce (x : Int32) : Int32 := if x < 0 then 0 else if 255 < x then 0 else 1
theorem j_can (hj : jAd ad aK aV z z0) (had : ∀ q, q < 1000000 → ad q = b + q) {x : Int32} : jM l D cs b ad aK aV z jt_can 0 [.int x] (some (.int (jce x))) := by
  refine jM_of jc_can (Nat.le_of_ble_eq_true rfl) ?_ had
  intro u p e s m args below meth c X hN hsw hr hlk
  change mm_C p s m args meth c prog_19_method_4_code "java/lang/StringLatin1" "canEncode" 1 D cs b ad at X
  refine js_ok (i := (0, 0, 0, 0)) (len := 1) (pc := 0) X (by decide) (by decide +kernel) rfl ?_
  by_cases h1 : x < 0
  · have e1 : jce x = 0 := if_pos h1
    rw [e1]
    refine mm_jok (i := (54, 0, 1, 0)) (lab := fun k => if k = 0 then 15 else 4) (pc := 1) (b' := 0) (st' := []) X (by decide +kernel) (by show mj_1 2 0 1 [.int x] = some (0, []); simp [mj_1, mm_cmp, h1]) ?_
    refine js_ok (i := (7, 0, 0, 0)) (len := 1) (pc := 15) X (by decide) (by decide +kernel) rfl ?_
    exact j_ret (pc := 16) X hr hlk (by decide +kernel) (by decide +kernel)
  · refine mm_jok (i := (54, 0, 1, 0)) (lab := fun k => if k = 0 then 15 else 4) (pc := 1) (b' := 1) (st' := []) X (by decide +kernel) (by show mj_1 2 0 1 [.int x] = some (1, []); simp [mj_1, mm_cmp, h1]) ?_
    refine js_ok (i := (0, 0, 0, 0)) (len := 1) (pc := 4) X (by decide) (by decide +kernel) rfl ?_
    refine js_ok (i := (7, 0, 0, 255)) (len := 3) (pc := 5) X (by decide) (by decide +kernel) rfl ?_
    by_cases h2 : 255 < x
    · have e1 : jce x = 0 := (if_neg h1).trans (if_pos h2)
      rw [e1]
      refine mm_jok (i := (64, 0, 1, 0)) (lab := fun k => if k = 0 then 15 else 11) (pc := 8) (b' := 0) (st' := []) X (by decide +kernel) (by show mj_2 4 0 1 [.int 255, .int x] = some (0, []); simp [mj_2, mm_cmp, h2]) ?_
      refine js_ok (i := (7, 0, 0, 0)) (len := 1) (pc := 15) X (by decide) (by decide +kernel) rfl ?_
      exact j_ret (pc := 16) X hr hlk (by decide +kernel) (by decide +kernel)
    · have e1 : jce x = 1 := (if_neg h1).trans (if_neg h2)
      rw [e1]
      refine mm_jok (i := (64, 0, 1, 0)) (lab := fun k => if k = 0 then 15 else 11) (pc := 8) (b' := 1) (st' := []) X (by decide +kernel) (by show mj_2 4 0 1 [.int 255, .int x] = some (1, []); simp [mj_2, mm_cmp, h2]) ?_
      refine js_ok (i := (7, 0, 0, 1)) (len := 1) (pc := 11) X (by decide) (by decide +kernel) rfl ?_
      refine mm_jok (i := (50, 0, 0, 0)) (lab := fun _ => 16) (pc := 12) (b' := 0) X (by decide +kernel) rfl ?_
      exact j_ret (pc := 16) X hr hlk (by decide +kernel) (by decide +kernel)
theorem j_pci (hj : jAd ad aK aV z z0) (had : ∀ q, q < 1000000 → ad q = b + q) {k n : Int32} (h1 : ¬ k < 0) (h2 : k < n) : jM l D cs b ad aK aV z jt_pci 0 [.int k, .int n, z0] (some (.int k)) := by
  rcases hj.2.2 with rfl | rfl
  · refine jM_of jc_pci (Nat.le_of_ble_eq_true rfl) ?_ had
    intro u p e s m args below meth c X hN hsw hr hlk
    change mm_C p s m args meth c prog_22_method_11_code "jdk/internal/util/Preconditions" "checkIndex" 3 D cs b ad at X
    refine js_ok (i := (0, 0, 0, 0)) (len := 1) (pc := 0) X (by decide) (by decide +kernel) rfl ?_
    refine mm_jok (i := (54, 0, 1, 0)) (lab := fun k => if k = 0 then 9 else 4) (pc := 1) (b' := 1) (st' := []) X (by decide +kernel) (by show mj_1 2 0 1 [.int k] = some (1, []); simp [mj_1, mm_cmp, h1]) ?_
    refine js_ok (i := (0, 0, 0, 0)) (len := 1) (pc := 4) X (by decide) (by decide +kernel) rfl ?_
    refine js_ok (i := (0, 1, 0, 0)) (len := 1) (pc := 5) X (by decide) (by decide +kernel) rfl ?_
    refine mm_jok (i := (62, 0, 1, 0)) (lab := fun k => if k = 0 then 16 else 9) (pc := 6) (b' := 0) (st' := []) X (by decide +kernel) (by show mj_2 2 0 1 [.int n, .int k] = some (0, []); simp [mj_2, mm_cmp, h2]) ?_
    refine js_ok (i := (0, 0, 0, 0)) (len := 1) (pc := 16) X (by decide) (by decide +kernel) rfl ?_
    exact j_ret (pc := 17) X hr hlk (rfl) (by decide +kernel)
  · refine jM_of jc_pci (Nat.le_of_ble_eq_true rfl) ?_ had
    intro u p e s m args below meth c X hN hsw hr hlk
    change mm_C p s m args meth c prog_22_method_11_code "jdk/internal/util/Preconditions" "checkIndex" 3 D cs b ad at X
    refine js_ok (i := (0, 0, 0, 0)) (len := 1) (pc := 0) X (by decide) (by decide +kernel) rfl ?_
    refine mm_jok (i := (54, 0, 1, 0)) (lab := fun k => if k = 0 then 9 else 4) (pc := 1) (b' := 1) (st' := []) X (by decide +kernel) (by show mj_1 2 0 1 [.int k] = some (1, []); simp [mj_1, mm_cmp, h1]) ?_
    refine js_ok (i := (0, 0, 0, 0)) (len := 1) (pc := 4) X (by decide) (by decide +kernel) rfl ?_
    refine js_ok (i := (0, 1, 0, 0)) (len := 1) (pc := 5) X (by decide) (by decide +kernel) rfl ?_
    refine mm_jok (i := (62, 0, 1, 0)) (lab := fun k => if k = 0 then 16 else 9) (pc := 6) (b' := 0) (st' := []) X (by decide +kernel) (by show mj_2 2 0 1 [.int n, .int k] = some (0, []); simp [mj_2, mm_cmp, h2]) ?_
    refine js_ok (i := (0, 0, 0, 0)) (len := 1) (pc := 16) X (by decide) (by decide +kernel) rfl ?_
    exact j_ret (pc := 17) X hr hlk (rfl) (by decide +kernel)
theorem j_sci (hj : jAd ad aK aV z z0) (had : ∀ q, q < 1000000 → ad q = b + q) {k n : Int32} (h1 : ¬ k < 0) (h2 : k < n) : jM l D cs b ad aK aV z jt_sci 1 [.int k, .int n] none := by
  refine jM_of jc_sci (Nat.le_of_ble_eq_true rfl) ?_ had
  intro u p e s m args below meth c X hN hsw hr hlk
  change mm_C p s m args meth c prog_18_method_155_code "java/lang/String" "checkIndex" 2 D cs b ad at X
  refine js_ok (i := (0, 0, 0, 0)) (len := 1) (pc := 0) X (by decide) (by decide +kernel) rfl ?_
  refine js_ok (i := (0, 1, 0, 0)) (len := 1) (pc := 1) X (by decide) (by decide +kernel) rfl ?_
  refine j_format (pc := 2) (ix := 1053) (w := 1075) hj X hsw rfl (by decide +kernel) ?_
  refine j_callS (pc := 5) (w9 := 1077) (d := 0) (rest := []) (as := [.int k, .int n, z0]) (t := jt_pci) X hN hsw jw_pci jc_pci (by decide +kernel) rfl (by decide) ⟨by decide, by decide⟩ (by rw [Nat.sub_self, Nat.sub_self]; exact ⟨by decide, by decide⟩) rfl (Nat.le_of_ble_eq_true rfl) (j_pci hj had h1 h2) ?_
  refine js_ok (i := (10, 0, 0, 0)) (len := 1) (pc := 8) X (by decide) (by decide +kernel) rfl ?_
  exact j_retv (pc := 9) X hr hlk (by decide +kernel)
theorem j_chr : ∀ i, i < 2 → ∀ j, j < jLn.getD i 0 → ((mm_ibin 3 ((jBy.getD i []).getD j 0) (Int32.ofInt 255)).toUInt32 % 65536).toInt32 = (jBy.getD i []).getD j 0 := by decide +kernel
theorem j_nar : ∀ i, i < 2 → ∀ j, j < jLn.getD i 0 → narrow .char (.int ((jBy.getD i []).getD j 0)) = .int ((jBy.getD i []).getD j 0) := by decide +kernel
theorem j_ln : ∀ i, i < 2 → jLn.getD i 0 = (jBy.getD i []).length ∧ jLn.getD i 0 < 200 ∧ 0 < jLn.getD i 0 := by decide +kernel
theorem j_sm : ∀ i, i < 2 → ∀ y ∈ jBy.getD i [], ¬ y < 0 ∧ y < 128 := by decide +kernel
theorem j_lca (hj : jAd ad aK aV z z0) (had : ∀ q, q < 1000000 → ad q = b + q) {j : Nat} (hi : i < 2) (hjl : j < jLn.getD i 0) : jM l D cs b ad aK aV z jt_lca 2 [.ref (1000003 + i), .int (nI j)] (some (.int ((jBy.getD i []).getD j 0))) := by
  refine jM_of jc_lca (Nat.le_of_ble_eq_true rfl) ?_ had
  intro u p e s m args below meth c X hN hsw hr hlk
  change mm_C p s m args meth c prog_19_method_2_code "java/lang/StringLatin1" "charAt" 2 D cs b ad at X
  have hl := (j_ln i hi).2.1
  refine js_ok (i := (0, 1, 0, 0)) (len := 1) (pc := 0) X (by decide) (by decide +kernel) rfl ?_
  refine js_ok (i := (2, 0, 0, 0)) (len := 1) (pc := 1) X (by decide) (by decide +kernel) rfl ?_
  refine j_len (pc := 2) hj X hsw hi (by decide +kernel) ?_
  refine j_callS (pc := 3) (w9 := 1072) (d := 1) (rest := []) (as := [.int (nI j), .int (nI (jLn.getD i 0))]) (t := jt_sci) X hN hsw jw_sci jc_sci (by decide +kernel) rfl (by decide) ⟨by decide, by decide⟩ (by rw [Nat.sub_self, Nat.sub_self]; exact ⟨by decide, by decide⟩) rfl (Nat.le_of_ble_eq_true rfl) (j_sci hj had (nI_pos (by omega)) (nI_lt hjl (by omega))) ?_
  refine js_ok (i := (2, 0, 0, 0)) (len := 1) (pc := 6) X (by decide) (by decide +kernel) rfl ?_
  refine js_ok (i := (0, 1, 0, 0)) (len := 1) (pc := 7) X (by decide) (by decide +kernel) rfl ?_
  refine j_baload (pc := 8) hj X hsw hi (vp_in_nI hjl (by omega)) (by decide +kernel) ?_
  rw [nI_clamp (by omega)]
  refine js_ok (i := (7, 0, 0, 255)) (len := 3) (pc := 9) X (by decide) (by decide +kernel) rfl ?_
  refine js_ok (i := (13, 3, 0, 0)) (len := 1) (pc := 12) X (by decide) (by decide +kernel) rfl ?_
  refine js_ok (i := (22, 0, 0, 0)) (len := 1) (pc := 13) X (by decide) (by decide +kernel) rfl ?_
  rw [j_chr i hi j hjl]
  exact j_ret (pc := 14) X hr hlk (j_nar i hi j hjl) (by decide +kernel)
theorem j_cha (hj : jAd ad aK aV z z0) (had : ∀ q, q < 1000000 → ad q = b + q) {j : Nat} (hi : i < 2) (hjl : j < jLn.getD i 0) : jM l D cs b ad aK aV z jt_cha 3 [.ref (1000000 + i), .int (nI j)] (some (.int ((jBy.getD i []).getD j 0))) := by
  refine jM_of jc_cha (Nat.le_of_ble_eq_true rfl) ?_ had
  intro u p e s m args below meth c X hN hsw hr hlk
  change mm_C p s m args meth c prog_18_method_56_code "java/lang/String" "charAt" 2 D cs b ad at X
  refine js_ok (i := (2, 0, 0, 0)) (len := 1) (pc := 0) X (by decide) (by decide +kernel) rfl ?_
  refine j_callV (pc := 1) (w9 := 1063) (d := 0) (as := []) (t := jt_lat) hj X hN hsw jw_lat jc_lat (by decide +kernel) rfl (by decide) ⟨by decide, by decide⟩ (by rw [Nat.sub_self, Nat.sub_self]; exact ⟨by decide, by decide⟩) rfl hi (Nat.le_of_ble_eq_true rfl) (j_lat hj had hi) ?_
  refine mm_jok (i := (52, 0, 1, 0)) (lab := fun k => if k = 0 then 16 else 7) (pc := 4) (b' := 1) X (by decide +kernel) (rfl) ?_
  refine js_ok (i := (2, 0, 0, 0)) (len := 1) (pc := 7) X (by decide) (by decide +kernel) rfl ?_
  refine j_value (pc := 8) (ix := 9) (w := 8117) hj X hsw hi rfl (by decide +kernel) ?_
  refine js_ok (i := (0, 1, 0, 0)) (len := 1) (pc := 11) X (by decide) (by decide +kernel) rfl ?_
  refine j_callS (pc := 12) (w9 := 1069) (d := 2) (rest := []) (as := [.ref (1000003 + i), .int (nI j)]) (t := jt_lca) X hN hsw jw_lca jc_lca (by decide +kernel) rfl (by decide) ⟨by decide, by decide⟩ (by rw [Nat.sub_self, Nat.sub_self]; exact ⟨by decide, by decide⟩) rfl (Nat.le_of_ble_eq_true rfl) (j_lca hj had hi hjl) ?_
  exact j_ret (pc := 15) X hr hlk (j_nar i hi j hjl) (by decide +kernel)
theorem j_b1 : ∀ n, n < 128 → (nI n).toInt8.toInt32 = nI n := by decide +kernel
theorem j_b2 : ∀ n, n < 256 → 128 ≤ n → (nI n).toInt8.toInt32 < 0 := by decide +kernel
theorem j_beq {y : Int32} {n : Nat} (hy : ¬ y < 0 ∧ y < 128) (hn : n < 256) : y = (nI n).toInt8.toInt32 ↔ y = nI n := by
  rcases Nat.lt_or_ge n 128 with h | h
  · rw [j_b1 n h]
  · constructor
    · intro e
      exact absurd (e ▸ j_b2 n hn h) hy.1
    · intro e
      exact absurd (e ▸ hy.2) (nI_nlt (a := n) (b := 128) (by omega) (by omega))
theorem j_none {x : Int32} : ∀ (l : List Int32) (k : Nat), (∀ y ∈ l, ¬ y = x) → mm_find x l k = -1 := by
  intro l
  induction l with
  | nil => intro k _; rfl
  | cons y l ih =>
    intro k h
    rw [mm_find, if_neg (h y List.mem_cons_self)]
    exact ih (k + 1) (fun y hy => h y (List.mem_cons_of_mem _ hy))
theorem j_drop {l0 l : List Int32} {y : Int32} {k : Nat} (e : l0.drop k = y :: l) : k < l0.length ∧ l0.getD k 0 = y ∧ l0.drop (k + 1) = l ∧ y ∈ l0 := by
  have h1 : k < l0.length := by
    rcases Nat.lt_or_ge k l0.length with h | h
    · exact h
    · rw [List.drop_eq_nil_iff.mpr h] at e; cases e
  rw [List.drop_eq_getElem_cons h1] at e
  obtain ⟨e1, e2⟩ := List.cons.inj e
  refine ⟨h1, ?_, e2, e1 ▸ List.getElem_mem h1⟩
  rw [List.getD_eq_getElem?_getD, List.getElem?_eq_getElem h1]
  exact e1
theorem j_iol (hj : jAd ad aK aV z z0) (hi : i < 2) {n : Nat} (hn : n < 256) {R : Room} {u : mm_M} {p : Program} {e : Env} {s : State} {m : MethodId} {args : Array Value} {below : List Frame} {meth : Method} {c : Code} (X : mm_C p s m args meth c prog_19_method_23_code "java/lang/StringLatin1" "indexOfChar" 6 D cs b ad) (hsw : jSW b aK aV z s) (hr : meth.sig.returnType = some .int) (hlk : meth.locks = false) : ∀ (l0 : List Int32) (k : Nat), (jBy.getD i []).drop k = l0 → k ≤ jLn.getD i 0 →
    mm_G p l e R s m args below meth c (MQ below (mm_Qc D cs b ad (some (.int (mm_find (nI n) l0 k))) u) args s 0 0 (fun q => b ≤ q)) 6 D cs b ad u.1 u.2.1 7 [some (.ref (1000003 + i)), some (.int (nI n)), some (.int 0), some (.int (nI (jLn.getD i 0))), some (.int (nI n).toInt8.toInt32), some (.int (nI k))] [] u := by
  obtain ⟨q1, q2, q3⟩ := j_ln i hi
  intro l0
  induction l0 with
  | nil =>
    intro k hk hle
    have q := List.drop_eq_nil_iff.mp hk
    refine js_ok (i := (0, 5, 0, 0)) (len := 2) (pc := 7) X (by decide) (by decide +kernel) rfl ?_
    refine js_ok (i := (0, 3, 0, 0)) (len := 1) (pc := 9) X (by decide) (by decide +kernel) rfl ?_
    refine mm_jok (i := (63, 0, 1, 0)) (lab := fun k => if k = 0 then 31 else 13) (pc := 10) (b' := 0) (st' := []) X (by decide +kernel) (jj2t (f := 3) (decide_eq_true (nI_le (a := jLn.getD i 0) (b := k) (by omega) (by omega)))) ?_
    refine js_ok (i := (7, 0, 0, -1)) (len := 1) (pc := 31) X (by decide) (by decide +kernel) rfl ?_
    exact j_ret (pc := 32) X hr hlk (rfl) (by decide +kernel)
  | cons y l0 ih =>
    intro k hk hle
    obtain ⟨g1, g2, g3, g4⟩ := j_drop hk
    refine js_ok (i := (0, 5, 0, 0)) (len := 2) (pc := 7) X (by decide) (by decide +kernel) rfl ?_
    refine js_ok (i := (0, 3, 0, 0)) (len := 1) (pc := 9) X (by decide) (by decide +kernel) rfl ?_
    refine mm_jok (i := (63, 0, 1, 0)) (lab := fun k => if k = 0 then 31 else 13) (pc := 10) (b' := 1) (st' := []) X (by decide +kernel) (jj2f (f := 3) (decide_eq_false (nI_ge (a := k) (b := jLn.getD i 0) (by omega) (by omega)))) ?_
    refine js_ok (i := (2, 0, 0, 0)) (len := 1) (pc := 13) X (by decide) (by decide +kernel) rfl ?_
    refine js_ok (i := (0, 5, 0, 0)) (len := 2) (pc := 14) X (by decide) (by decide +kernel) rfl ?_
    refine j_baload (pc := 16) hj X hsw hi (vp_in_nI (by omega) (by omega)) (by decide +kernel) ?_
    rw [nI_clamp (by omega), g2]
    refine js_ok (i := (0, 4, 0, 0)) (len := 2) (pc := 17) X (by decide) (by decide +kernel) rfl ?_
    by_cases hc : y = nI n
    · have hb := (j_beq (j_sm i hi y g4) hn).mpr hc
      rw [mm_find, if_pos hc]
      refine mm_jok (i := (61, 0, 1, 0)) (lab := fun k => if k = 0 then 25 else 22) (pc := 19) (b' := 1) (st' := []) X (by decide +kernel) (by show mj_2 1 0 1 [.int (nI n).toInt8.toInt32, .int y] = some (1, []); simp [mj_2, mm_cmp, hb]) ?_
      refine js_ok (i := (0, 5, 0, 0)) (len := 2) (pc := 22) X (by decide) (by decide +kernel) rfl ?_
      exact j_ret (pc := 24) X hr hlk (rfl) (by decide +kernel)
    · have hb : ¬ y = (nI n).toInt8.toInt32 := fun h => hc ((j_beq (j_sm i hi y g4) hn).mp h)
      rw [mm_find, if_neg hc]
      refine mm_jok (i := (61, 0, 1, 0)) (lab := fun k => if k = 0 then 25 else 22) (pc := 19) (b' := 0) (st' := []) X (by decide +kernel) (by show mj_2 1 0 1 [.int (nI n).toInt8.toInt32, .int y] = some (0, []); simp [mj_2, mm_cmp, hb]) ?_
      refine js_ok (i := (6, 5, 0, 1)) (len := 3) (pc := 25) X (by decide) (by decide +kernel) rfl ?_
      refine mm_jok (i := (50, 0, 0, 0)) (lab := fun _ => 7) (pc := 28) (b' := 0) X (by decide +kernel) rfl ?_
      have := ih (k + 1) g3 (by omega)
      rw [nI_succ] at this
      exact this
theorem j_ioc (hj : jAd ad aK aV z z0) (had : ∀ q, q < 1000000 → ad q = b + q) {n : Nat} (hi : i < 2) (hn : n < 256) : jM l D cs b ad aK aV z jt_ioc 0 [.ref (1000003 + i), .int (nI n), .int 0, .int (nI (jLn.getD i 0))] (some (.int (mm_find (nI n) (jBy.getD i []) 0))) := by
  refine jM_of jc_ioc (Nat.le_of_ble_eq_true rfl) ?_ had
  intro u p e s m args below meth c X hN hsw hr hlk
  change mm_C p s m args meth c prog_19_method_23_code "java/lang/StringLatin1" "indexOfChar" 6 D cs b ad at X
  refine js_ok (i := (0, 1, 0, 0)) (len := 1) (pc := 0) X (by decide) (by decide +kernel) rfl ?_
  refine js_ok (i := (21, 0, 0, 0)) (len := 1) (pc := 1) X (by decide) (by decide +kernel) rfl ?_
  refine js_ok (i := (3, 4, 0, 0)) (len := 2) (pc := 2) X (by decide) (by decide +kernel) rfl ?_
  refine js_ok (i := (0, 2, 0, 0)) (len := 1) (pc := 4) X (by decide) (by decide +kernel) rfl ?_
  refine js_ok (i := (3, 5, 0, 0)) (len := 2) (pc := 5) X (by decide) (by decide +kernel) rfl ?_
  exact j_iol hj hi hn X hsw hr hlk _ 0 rfl (Nat.zero_le _)
theorem j_lio (hj : jAd ad aK aV z z0) (had : ∀ q, q < 1000000 → ad q = b + q) {x : Int32} (hi : i < 2) : jM l D cs b ad aK aV z jt_lio 1 [.ref (1000003 + i), .int x, .int 0, .int (nI (jLn.getD i 0))] (some (.int (mm_find x (jBy.getD i []) 0))) := by
  refine jM_of jc_lio (Nat.le_of_ble_eq_true rfl) ?_ had
  intro u p e s m args below meth c X hN hsw hr hlk
  change mm_C p s m args meth c prog_19_method_22_code "java/lang/StringLatin1" "indexOf" 4 D cs b ad at X
  obtain ⟨q1, q2, q3⟩ := j_ln i hi
  refine js_ok (i := (0, 1, 0, 0)) (len := 1) (pc := 0) X (by decide) (by decide +kernel) rfl ?_
  refine j_callS (pc := 1) (w9 := 3059) (d := 0) (rest := []) (as := [.int x]) (t := jt_can) X hN hsw jw_can jc_can (by decide +kernel) rfl (by decide) ⟨by decide, by decide⟩ (by rw [Nat.sub_self, Nat.sub_self]; exact ⟨by decide, by decide⟩) rfl (Nat.le_of_ble_eq_true rfl) (j_can hj had) ?_
  by_cases hc : jce x = 0
  · rw [hc]
    have en : mm_find x (jBy.getD i []) 0 = -1 := by
      refine j_none _ _ (fun y hy e => ?_)
      obtain ⟨y1, y2⟩ := j_sm i hi y hy
      subst e
      unfold jce at hc
      rw [if_neg y1, if_neg (fun h => absurd (Int32.lt_trans h y2) (by decide))] at hc
      exact absurd hc (by decide)
    rw [en]
    refine mm_jok (i := (53, 0, 1, 0)) (lab := fun k => if k = 0 then 9 else 7) (pc := 4) (b' := 1) X (by decide +kernel) (rfl) ?_
    refine js_ok (i := (7, 0, 0, -1)) (len := 1) (pc := 7) X (by decide) (by decide +kernel) rfl ?_
    exact j_ret (pc := 8) X hr hlk (rfl) (by decide +kernel)
  · have h0 : ¬ x < 0 := fun h => hc (if_pos h)
    have h1 : ¬ 255 < x := fun h => hc ((if_neg h0).trans (if_pos h))
    have h2 : jce x = 1 := (if_neg h0).trans (if_neg h1)
    rw [h2]
    obtain ⟨n, hn, rfl⟩ := nI_of h0
    have h256 : n < 256 := by
      rcases Nat.lt_or_ge n 256 with q | q
      · exact q
      · exact absurd (nI_lt (a := 255) (b := n) (by omega) hn) h1
    refine mm_jok (i := (53, 0, 1, 0)) (lab := fun k => if k = 0 then 9 else 7) (pc := 4) (b' := 0) X (by decide +kernel) (rfl) ?_
    refine js_ok (i := (0, 2, 0, 0)) (len := 1) (pc := 9) X (by decide) (by decide +kernel) rfl ?_
    refine js_ok (i := (7, 0, 0, 0)) (len := 1) (pc := 10) X (by decide) (by decide +kernel) rfl ?_
    refine j_max (pc := 11) (ix := 92) (w := 3062) (rest := []) X rfl ⟨by decide, by decide⟩ (by rw [Nat.sub_self, Nat.sub_self]; exact ⟨by decide, by decide⟩) (by decide) (by decide +kernel) ?_
    rw [show (if (0 : Int32) < Int32.ofInt 0 then Int32.ofInt 0 else 0) = 0 from by decide]
    refine js_ok (i := (3, 2, 0, 0)) (len := 1) (pc := 14) X (by decide) (by decide +kernel) rfl ?_
    refine js_ok (i := (0, 3, 0, 0)) (len := 1) (pc := 15) X (by decide) (by decide +kernel) rfl ?_
    refine js_ok (i := (2, 0, 0, 0)) (len := 1) (pc := 16) X (by decide) (by decide +kernel) rfl ?_
    refine j_len (pc := 17) hj X hsw hi (by decide +kernel) ?_
    refine j_min (pc := 18) (ix := 38) (w := 3065) (rest := []) X rfl ⟨by decide, by decide⟩ (by rw [Nat.sub_self, Nat.sub_self]; exact ⟨by decide, by decide⟩) (by decide) (by decide +kernel) ?_
    rw [ite_self]
    refine js_ok (i := (3, 3, 0, 0)) (len := 1) (pc := 21) X (by decide) (by decide +kernel) rfl ?_
    refine js_ok (i := (0, 2, 0, 0)) (len := 1) (pc := 22) X (by decide) (by decide +kernel) rfl ?_
    refine js_ok (i := (0, 3, 0, 0)) (len := 1) (pc := 23) X (by decide) (by decide +kernel) rfl ?_
    refine mm_jok (i := (62, 0, 1, 0)) (lab := fun k => if k = 0 then 29 else 27) (pc := 24) (b' := 0) (st' := []) X (by decide +kernel) (jj2t (f := 2) (decide_eq_true (nI_lt (a := 0) (b := jLn.getD i 0) (by omega) (by omega)))) ?_
    refine js_ok (i := (2, 0, 0, 0)) (len := 1) (pc := 29) X (by decide) (by decide +kernel) rfl ?_
    refine js_ok (i := (0, 1, 0, 0)) (len := 1) (pc := 30) X (by decide) (by decide +kernel) rfl ?_
    refine js_ok (i := (0, 2, 0, 0)) (len := 1) (pc := 31) X (by decide) (by decide +kernel) rfl ?_
    refine js_ok (i := (0, 3, 0, 0)) (len := 1) (pc := 32) X (by decide) (by decide +kernel) rfl ?_
    refine j_callS (pc := 33) (w9 := 3068) (d := 0) (rest := []) (as := [.ref (1000003 + i), .int (nI n), .int 0, .int (nI (jLn.getD i 0))]) (t := jt_ioc) X hN hsw jw_ioc jc_ioc (by decide +kernel) rfl (by decide) ⟨by decide, by decide⟩ (by rw [Nat.sub_self, Nat.sub_self]; exact ⟨by decide, by decide⟩) rfl (Nat.le_of_ble_eq_true rfl) (j_ioc hj had hi h256) ?_
    exact j_ret (pc := 36) X hr hlk (rfl) (by decide +kernel)
theorem j_io2 (hj : jAd ad aK aV z z0) (had : ∀ q, q < 1000000 → ad q = b + q) {x : Int32} (hi : i < 2) : jM l D cs b ad aK aV z jt_io2 2 [.ref (1000000 + i), .int x, .int 0] (some (.int (mm_find x (jBy.getD i []) 0))) := by
  refine jM_of jc_io2 (Nat.le_of_ble_eq_true rfl) ?_ had
  intro u p e s m args below meth c X hN hsw hr hlk
  change mm_C p s m args meth c prog_18_method_80_code "java/lang/String" "indexOf" 3 D cs b ad at X
  refine js_ok (i := (2, 0, 0, 0)) (len := 1) (pc := 0) X (by decide) (by decide +kernel) rfl ?_
  refine j_callV (pc := 1) (w9 := 1063) (d := 0) (as := []) (t := jt_lat) hj X hN hsw jw_lat jc_lat (by decide +kernel) rfl (by decide) ⟨by decide, by decide⟩ (by rw [Nat.sub_self, Nat.sub_self]; exact ⟨by decide, by decide⟩) rfl hi (Nat.le_of_ble_eq_true rfl) (j_lat hj had hi) ?_
  refine mm_jok (i := (52, 0, 1, 0)) (lab := fun k => if k = 0 then 23 else 7) (pc := 4) (b' := 1) X (by decide +kernel) (rfl) ?_
  refine js_ok (i := (2, 0, 0, 0)) (len := 1) (pc := 7) X (by decide) (by decide +kernel) rfl ?_
  refine j_value (pc := 8) (ix := 9) (w := 8117) hj X hsw hi rfl (by decide +kernel) ?_
  refine js_ok (i := (0, 1, 0, 0)) (len := 1) (pc := 11) X (by decide) (by decide +kernel) rfl ?_
  refine js_ok (i := (0, 2, 0, 0)) (len := 1) (pc := 12) X (by decide) (by decide +kernel) rfl ?_
  refine js_ok (i := (2, 0, 0, 0)) (len := 1) (pc := 13) X (by decide) (by decide +kernel) rfl ?_
  refine j_callV (pc := 14) (w9 := 3048) (d := 1) (as := []) (t := jt_lng) hj X hN hsw jw_lng jc_lng (by decide +kernel) rfl (by decide) ⟨by decide, by decide⟩ (by rw [Nat.sub_self, Nat.sub_self]; exact ⟨by decide, by decide⟩) rfl hi (Nat.le_of_ble_eq_true rfl) (j_lng hj had hi) ?_
  refine j_callS (pc := 17) (w9 := 3056) (d := 1) (rest := []) (as := [.ref (1000003 + i), .int x, .int 0, .int (nI (jLn.getD i 0))]) (t := jt_lio) X hN hsw jw_lio jc_lio (by decide +kernel) rfl (by decide) ⟨by decide, by decide⟩ (by rw [Nat.sub_self, Nat.sub_self]; exact ⟨by decide, by decide⟩) rfl (Nat.le_of_ble_eq_true rfl) (j_lio hj had hi) ?_
  refine mm_jok (i := (50, 0, 0, 0)) (lab := fun _ => 36) (pc := 20) (b' := 0) X (by decide +kernel) rfl ?_
  exact j_ret (pc := 36) X hr hlk (rfl) (by decide +kernel)
theorem j_io1 (hj : jAd ad aK aV z z0) (had : ∀ q, q < 1000000 → ad q = b + q) {x : Int32} (hi : i < 2) : jM l D cs b ad aK aV z jt_io1 3 [.ref (1000000 + i), .int x] (some (.int (mm_find x (jBy.getD i []) 0))) := by
  refine jM_of jc_io1 (Nat.le_of_ble_eq_true rfl) ?_ had
  intro u p e s m args below meth c X hN hsw hr hlk
  change mm_C p s m args meth c prog_18_method_79_code "java/lang/String" "indexOf" 2 D cs b ad at X
  refine js_ok (i := (2, 0, 0, 0)) (len := 1) (pc := 0) X (by decide) (by decide +kernel) rfl ?_
  refine js_ok (i := (0, 1, 0, 0)) (len := 1) (pc := 1) X (by decide) (by decide +kernel) rfl ?_
  refine js_ok (i := (7, 0, 0, 0)) (len := 1) (pc := 2) X (by decide) (by decide +kernel) rfl ?_
  refine j_callV (pc := 3) (w9 := 3044) (d := 2) (rest := []) (as := [.int x, .int 0]) (t := jt_io2) hj X hN hsw jw_io2 jc_io2 (by decide +kernel) rfl (by decide) ⟨by decide, by decide⟩ (by rw [Nat.sub_self, Nat.sub_self]; exact ⟨by decide, by decide⟩) rfl hi (Nat.le_of_ble_eq_true rfl) (j_io2 hj had hi) ?_
  exact j_ret (pc := 6) X hr hlk (rfl) (by decide +kernel)
end JCL
