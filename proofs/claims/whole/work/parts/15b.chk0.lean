/-! ===== checks: by program ===== -/
set_option maxRecDepth 100000 in
theorem kq_0 : mm_qok (kt_0, kb_0, kl_0) = true := by decide +kernel
theorem kw_0 : mm_cw kt_0 := rfl
set_option maxRecDepth 100000 in
theorem kq_1 : mm_qok (kt_1, kb_1, kl_1) = true := by decide +kernel
theorem kw_1 : mm_cw kt_1 := rfl
set_option maxRecDepth 100000 in
theorem kq_2 : mm_qok (kt_2, kb_2, kl_2) = true := by decide +kernel
theorem kw_2 : mm_cw kt_2 := rfl
set_option maxRecDepth 100000 in
theorem kq_3 : mm_qok (kt_3, kb_3, kl_3) = true := by decide +kernel
theorem kw_3 : mm_cw kt_3 := rfl
set_option maxRecDepth 100000 in
theorem kq_4 : mm_qok (kt_4, kb_4, kl_4) = true := by decide +kernel
theorem kw_4 : mm_cw kt_4 := rfl
set_option maxRecDepth 100000 in
theorem kp_5_0 : mm_chk mm_tbl "FenceSides" "hedge" (some .int) prog_1_method_6_code (fun z => (kl_5[z]?).getD 0) 0 kb_5_0 = true := by decide +kernel
set_option maxRecDepth 100000 in
theorem kp_5_1 : mm_chk mm_tbl "FenceSides" "hedge" (some .int) prog_1_method_6_code (fun z => (kl_5[z]?).getD 0) 8 kb_5_1 = true := by decide +kernel
set_option maxRecDepth 100000 in
theorem kp_5_2 : mm_chk mm_tbl "FenceSides" "hedge" (some .int) prog_1_method_6_code (fun z => (kl_5[z]?).getD 0) 10 kb_5_2 = true := by decide +kernel
set_option maxRecDepth 100000 in
theorem kp_5_3 : mm_chk mm_tbl "FenceSides" "hedge" (some .int) prog_1_method_6_code (fun z => (kl_5[z]?).getD 0) 64 kb_5_3 = true := by decide +kernel
set_option maxRecDepth 100000 in
theorem kp_5_4 : mm_chk mm_tbl "FenceSides" "hedge" (some .int) prog_1_method_6_code (fun z => (kl_5[z]?).getD 0) 76 kb_5_4 = true := by decide +kernel
set_option maxRecDepth 100000 in
theorem kp_5_5 : mm_chk mm_tbl "FenceSides" "hedge" (some .int) prog_1_method_6_code (fun z => (kl_5[z]?).getD 0) 90 kb_5_5 = true := by decide +kernel
set_option maxRecDepth 100000 in
theorem kp_5_6 : mm_chk mm_tbl "FenceSides" "hedge" (some .int) prog_1_method_6_code (fun z => (kl_5[z]?).getD 0) 102 kb_5_6 = true := by decide +kernel
set_option maxRecDepth 100000 in
theorem kp_5_7 : mm_chk mm_tbl "FenceSides" "hedge" (some .int) prog_1_method_6_code (fun z => (kl_5[z]?).getD 0) 116 kb_5_7 = true := by decide +kernel
set_option maxRecDepth 100000 in
theorem kp_5_8 : mm_chk mm_tbl "FenceSides" "hedge" (some .int) prog_1_method_6_code (fun z => (kl_5[z]?).getD 0) 126 kb_5_8 = true := by decide +kernel
set_option maxRecDepth 100000 in
theorem kp_5_9 : mm_chk mm_tbl "FenceSides" "hedge" (some .int) prog_1_method_6_code (fun z => (kl_5[z]?).getD 0) 137 kb_5_9 = true := by decide +kernel
set_option maxRecDepth 100000 in
theorem kp_5_10 : mm_chk mm_tbl "FenceSides" "hedge" (some .int) prog_1_method_6_code (fun z => (kl_5[z]?).getD 0) 141 kb_5_10 = true := by decide +kernel
set_option maxRecDepth 100000 in
theorem kp_5_11 : mm_chk mm_tbl "FenceSides" "hedge" (some .int) prog_1_method_6_code (fun z => (kl_5[z]?).getD 0) 142 kb_5_11 = true := by decide +kernel
set_option maxRecDepth 100000 in
theorem kp_5_12 : mm_chk mm_tbl "FenceSides" "hedge" (some .int) prog_1_method_6_code (fun z => (kl_5[z]?).getD 0) 143 kb_5_12 = true := by decide +kernel
set_option maxRecDepth 100000 in
theorem kp_5_13 : mm_chk mm_tbl "FenceSides" "hedge" (some .int) prog_1_method_6_code (fun z => (kl_5[z]?).getD 0) 161 kb_5_13 = true := by decide +kernel
set_option maxRecDepth 100000 in
theorem kp_5_14 : mm_chk mm_tbl "FenceSides" "hedge" (some .int) prog_1_method_6_code (fun z => (kl_5[z]?).getD 0) 178 kb_5_14 = true := by decide +kernel
set_option maxRecDepth 100000 in
theorem kp_5_15 : mm_chk mm_tbl "FenceSides" "hedge" (some .int) prog_1_method_6_code (fun z => (kl_5[z]?).getD 0) 197 kb_5_15 = true := by decide +kernel
set_option maxRecDepth 100000 in
theorem kp_5_16 : mm_chk mm_tbl "FenceSides" "hedge" (some .int) prog_1_method_6_code (fun z => (kl_5[z]?).getD 0) 201 kb_5_16 = true := by decide +kernel
set_option maxRecDepth 100000 in
theorem kp_5_17 : mm_chk mm_tbl "FenceSides" "hedge" (some .int) prog_1_method_6_code (fun z => (kl_5[z]?).getD 0) 202 kb_5_17 = true := by decide +kernel
set_option maxRecDepth 100000 in
theorem kp_5_18 : mm_chk mm_tbl "FenceSides" "hedge" (some .int) prog_1_method_6_code (fun z => (kl_5[z]?).getD 0) 203 kb_5_18 = true := by decide +kernel
set_option maxRecDepth 100000 in
theorem kp_5_19 : mm_chk mm_tbl "FenceSides" "hedge" (some .int) prog_1_method_6_code (fun z => (kl_5[z]?).getD 0) 220 kb_5_19 = true := by decide +kernel
set_option maxRecDepth 100000 in
theorem kp_5_20 : mm_chk mm_tbl "FenceSides" "hedge" (some .int) prog_1_method_6_code (fun z => (kl_5[z]?).getD 0) 64 kb_5_20 = true := by decide +kernel
set_option maxRecDepth 100000 in
theorem kp_5_21 : mm_chk mm_tbl "FenceSides" "hedge" (some .int) prog_1_method_6_code (fun z => (kl_5[z]?).getD 0) 76 kb_5_21 = true := by decide +kernel
set_option maxRecDepth 100000 in
theorem kp_5_22 : mm_chk mm_tbl "FenceSides" "hedge" (some .int) prog_1_method_6_code (fun z => (kl_5[z]?).getD 0) 90 kb_5_22 = true := by decide +kernel
set_option maxRecDepth 100000 in
theorem kp_5_23 : mm_chk mm_tbl "FenceSides" "hedge" (some .int) prog_1_method_6_code (fun z => (kl_5[z]?).getD 0) 102 kb_5_23 = true := by decide +kernel
set_option maxRecDepth 100000 in
theorem kp_5_24 : mm_chk mm_tbl "FenceSides" "hedge" (some .int) prog_1_method_6_code (fun z => (kl_5[z]?).getD 0) 116 kb_5_24 = true := by decide +kernel
set_option maxRecDepth 100000 in
theorem kp_5_25 : mm_chk mm_tbl "FenceSides" "hedge" (some .int) prog_1_method_6_code (fun z => (kl_5[z]?).getD 0) 126 kb_5_25 = true := by decide +kernel
set_option maxRecDepth 100000 in
theorem kp_5_26 : mm_chk mm_tbl "FenceSides" "hedge" (some .int) prog_1_method_6_code (fun z => (kl_5[z]?).getD 0) 143 kb_5_26 = true := by decide +kernel
set_option maxRecDepth 100000 in
theorem kp_5_27 : mm_chk mm_tbl "FenceSides" "hedge" (some .int) prog_1_method_6_code (fun z => (kl_5[z]?).getD 0) 161 kb_5_27 = true := by decide +kernel
set_option maxRecDepth 100000 in
theorem kp_5_28 : mm_chk mm_tbl "FenceSides" "hedge" (some .int) prog_1_method_6_code (fun z => (kl_5[z]?).getD 0) 178 kb_5_28 = true := by decide +kernel
set_option maxRecDepth 100000 in
theorem kp_5_29 : mm_chk mm_tbl "FenceSides" "hedge" (some .int) prog_1_method_6_code (fun z => (kl_5[z]?).getD 0) 203 kb_5_29 = true := by decide +kernel
set_option maxRecDepth 100000 in
theorem kp_5_30 : mm_chk mm_tbl "FenceSides" "hedge" (some .int) prog_1_method_6_code (fun z => (kl_5[z]?).getD 0) 220 kb_5_30 = true := by decide +kernel
set_option maxRecDepth 100000 in
theorem kq_5 : mm_qok (kt_5, kb_5, kl_5) = true := mm_qok_of (by decide +kernel) (by decide +kernel) rfl (by
  show ∀ bl ∈ List.range 31, _
  exact List.forall_mem_cons.mpr ⟨kp_5_0, List.forall_mem_cons.mpr ⟨kp_5_1, List.forall_mem_cons.mpr ⟨kp_5_2, List.forall_mem_cons.mpr ⟨kp_5_3, List.forall_mem_cons.mpr ⟨kp_5_4, List.forall_mem_cons.mpr ⟨kp_5_5, List.forall_mem_cons.mpr ⟨kp_5_6, List.forall_mem_cons.mpr ⟨kp_5_7, List.forall_mem_cons.mpr ⟨kp_5_8, List.forall_mem_cons.mpr ⟨kp_5_9, List.forall_mem_cons.mpr ⟨kp_5_10, List.forall_mem_cons.mpr ⟨kp_5_11, List.forall_mem_cons.mpr ⟨kp_5_12, List.forall_mem_cons.mpr ⟨kp_5_13, List.forall_mem_cons.mpr ⟨kp_5_14, List.forall_mem_cons.mpr ⟨kp_5_15, List.forall_mem_cons.mpr ⟨kp_5_16, List.forall_mem_cons.mpr ⟨kp_5_17, List.forall_mem_cons.mpr ⟨kp_5_18, List.forall_mem_cons.mpr ⟨kp_5_19, List.forall_mem_cons.mpr ⟨kp_5_20, List.forall_mem_cons.mpr ⟨kp_5_21, List.forall_mem_cons.mpr ⟨kp_5_22, List.forall_mem_cons.mpr ⟨kp_5_23, List.forall_mem_cons.mpr ⟨kp_5_24, List.forall_mem_cons.mpr ⟨kp_5_25, List.forall_mem_cons.mpr ⟨kp_5_26, List.forall_mem_cons.mpr ⟨kp_5_27, List.forall_mem_cons.mpr ⟨kp_5_28, List.forall_mem_cons.mpr ⟨kp_5_29, List.forall_mem_cons.mpr ⟨kp_5_30, fun _ h => absurd h List.not_mem_nil⟩⟩⟩⟩⟩⟩⟩⟩⟩⟩⟩⟩⟩⟩⟩⟩⟩⟩⟩⟩⟩⟩⟩⟩⟩⟩⟩⟩⟩⟩⟩)
theorem kw_5 : mm_cw kt_5 := rfl
set_option maxRecDepth 100000 in
theorem kq_6 : mm_qok (kt_6, kb_6, kl_6) = true := by decide +kernel
theorem kw_6 : mm_cw kt_6 := rfl
set_option maxRecDepth 100000 in
theorem kq_7 : mm_qok (kt_7, kb_7, kl_7) = true := by decide +kernel
theorem kw_7 : mm_cw kt_7 := rfl
set_option maxRecDepth 100000 in
theorem kq_8 : mm_qok (kt_8, kb_8, kl_8) = true := by decide +kernel
theorem kw_8 : mm_cw kt_8 := rfl
set_option maxRecDepth 100000 in
theorem kq_9 : mm_qok (kt_9, kb_9, kl_9) = true := by decide +kernel
theorem kw_9 : mm_cw kt_9 := rfl
set_option maxRecDepth 100000 in
theorem kq_10 : mm_qok (kt_10, kb_10, kl_10) = true := by decide +kernel
theorem kw_10 : mm_cw kt_10 := rfl
set_option maxRecDepth 100000 in
theorem kq_11 : mm_qok (kt_11, kb_11, kl_11) = true := by decide +kernel
theorem kw_11 : mm_cw kt_11 := rfl
set_option maxRecDepth 100000 in
theorem kq_12 : mm_qok (kt_12, kb_12, kl_12) = true := by decide +kernel
theorem kw_12 : mm_cw kt_12 := rfl
set_option maxRecDepth 100000 in
theorem kq_13 : mm_qok (kt_13, kb_13, kl_13) = true := by decide +kernel
theorem kw_13 : mm_cw kt_13 := rfl
set_option maxRecDepth 100000 in
theorem kq_14 : mm_qok (kt_14, kb_14, kl_14) = true := by decide +kernel
theorem kw_14 : mm_cw kt_14 := rfl
set_option maxRecDepth 100000 in
theorem kq_15 : mm_qok (kt_15, kb_15, kl_15) = true := by decide +kernel
theorem kw_15 : mm_cw kt_15 := rfl
set_option maxRecDepth 100000 in
theorem kq_16 : mm_qok (kt_16, kb_16, kl_16) = true := by decide +kernel
theorem kw_16 : mm_cw kt_16 := rfl
set_option maxRecDepth 100000 in
theorem kq_17 : mm_qok (kt_17, kb_17, kl_17) = true := by decide +kernel
theorem kw_17 : mm_cw kt_17 := rfl
set_option maxRecDepth 100000 in
theorem kq_18 : mm_qok (kt_18, kb_18, kl_18) = true := by decide +kernel
theorem kw_18 : mm_cw kt_18 := rfl
set_option maxRecDepth 100000 in
theorem kq_19 : mm_qok (kt_19, kb_19, kl_19) = true := by decide +kernel
theorem kw_19 : mm_cw kt_19 := rfl
set_option maxRecDepth 100000 in
theorem kq_20 : mm_qok (kt_20, kb_20, kl_20) = true := by decide +kernel
theorem kw_20 : mm_cw kt_20 := rfl
set_option maxRecDepth 100000 in
theorem kq_21 : mm_qok (kt_21, kb_21, kl_21) = true := by decide +kernel
theorem kw_21 : mm_cw kt_21 := rfl
set_option maxRecDepth 100000 in
theorem kq_22 : mm_qok (kt_22, kb_22, kl_22) = true := by decide +kernel
theorem kw_22 : mm_cw kt_22 := rfl
set_option maxRecDepth 100000 in
theorem kq_23 : mm_qok (kt_23, kb_23, kl_23) = true := by decide +kernel
theorem kw_23 : mm_cw kt_23 := rfl
set_option maxRecDepth 100000 in
theorem kq_24 : mm_qok (kt_24, kb_24, kl_24) = true := by decide +kernel
theorem kw_24 : mm_cw kt_24 := rfl
set_option maxRecDepth 100000 in
theorem kq_25 : mm_qok (kt_25, kb_25, kl_25) = true := by decide +kernel
theorem kw_25 : mm_cw kt_25 := rfl
set_option maxRecDepth 100000 in
theorem kq_26 : mm_qok (kt_26, kb_26, kl_26) = true := by decide +kernel
theorem kw_26 : mm_cw kt_26 := rfl
set_option maxRecDepth 100000 in
theorem kq_27 : mm_qok (kt_27, kb_27, kl_27) = true := by decide +kernel
theorem kw_27 : mm_cw kt_27 := rfl
set_option maxRecDepth 100000 in
theorem kq_28 : mm_qok (kt_28, kb_28, kl_28) = true := by decide +kernel
theorem kw_28 : mm_cw kt_28 := rfl
set_option maxRecDepth 100000 in
theorem kq_29 : mm_qok (kt_29, kb_29, kl_29) = true := by decide +kernel
theorem kw_29 : mm_cw kt_29 := rfl
set_option maxRecDepth 100000 in
theorem kq_30 : mm_qok (kt_30, kb_30, kl_30) = true := by decide +kernel
theorem kw_30 : mm_cw kt_30 := rfl
set_option maxRecDepth 100000 in
theorem kq_31 : mm_qok (kt_31, kb_31, kl_31) = true := by decide +kernel
theorem kw_31 : mm_cw kt_31 := rfl
set_option maxRecDepth 100000 in
theorem kq_32 : mm_qok (kt_32, kb_32, kl_32) = true := by decide +kernel
theorem kw_32 : mm_cw kt_32 := rfl
set_option maxRecDepth 100000 in
theorem kq_33 : mm_qok (kt_33, kb_33, kl_33) = true := by decide +kernel
theorem kw_33 : mm_cw kt_33 := rfl
set_option maxRecDepth 100000 in
theorem kq_34 : mm_qok (kt_34, kb_34, kl_34) = true := by decide +kernel
theorem kw_34 : mm_cw kt_34 := rfl
set_option maxRecDepth 100000 in
theorem kq_35 : mm_qok (kt_35, kb_35, kl_35) = true := by decide +kernel
theorem kw_35 : mm_cw kt_35 := rfl
