/-! ===== checks: by program ===== -/
set_option maxRecDepth 100000 in
theorem kq_75 : mm_qok (kt_75, kb_75, kl_75) = true := by decide +kernel
theorem kw_75 : mm_cw kt_75 := rfl
set_option maxRecDepth 100000 in
theorem kq_76 : mm_qok (kt_76, kb_76, kl_76) = true := by decide +kernel
theorem kw_76 : mm_cw kt_76 := rfl
set_option maxRecDepth 100000 in
theorem kp_77_0 : mm_chk mm_tbl "FenceSidesModel" "tellOne" (none) prog_14_method_23_code (fun z => (kl_77[z]?).getD 0) 0 kb_77_0 = true := by decide +kernel
set_option maxRecDepth 100000 in
theorem kp_77_1 : mm_chk mm_tbl "FenceSidesModel" "tellOne" (none) prog_14_method_23_code (fun z => (kl_77[z]?).getD 0) 60 kb_77_1 = true := by decide +kernel
set_option maxRecDepth 100000 in
theorem kp_77_2 : mm_chk mm_tbl "FenceSidesModel" "tellOne" (none) prog_14_method_23_code (fun z => (kl_77[z]?).getD 0) 82 kb_77_2 = true := by decide +kernel
set_option maxRecDepth 100000 in
theorem kp_77_3 : mm_chk mm_tbl "FenceSidesModel" "tellOne" (none) prog_14_method_23_code (fun z => (kl_77[z]?).getD 0) 83 kb_77_3 = true := by decide +kernel
set_option maxRecDepth 100000 in
theorem kp_77_4 : mm_chk mm_tbl "FenceSidesModel" "tellOne" (none) prog_14_method_23_code (fun z => (kl_77[z]?).getD 0) 107 kb_77_4 = true := by decide +kernel
set_option maxRecDepth 100000 in
theorem kp_77_5 : mm_chk mm_tbl "FenceSidesModel" "tellOne" (none) prog_14_method_23_code (fun z => (kl_77[z]?).getD 0) 123 kb_77_5 = true := by decide +kernel
set_option maxRecDepth 100000 in
theorem kp_77_6 : mm_chk mm_tbl "FenceSidesModel" "tellOne" (none) prog_14_method_23_code (fun z => (kl_77[z]?).getD 0) 145 kb_77_6 = true := by decide +kernel
set_option maxRecDepth 100000 in
theorem kp_77_7 : mm_chk mm_tbl "FenceSidesModel" "tellOne" (none) prog_14_method_23_code (fun z => (kl_77[z]?).getD 0) 146 kb_77_7 = true := by decide +kernel
set_option maxRecDepth 100000 in
theorem kp_77_8 : mm_chk mm_tbl "FenceSidesModel" "tellOne" (none) prog_14_method_23_code (fun z => (kl_77[z]?).getD 0) 204 kb_77_8 = true := by decide +kernel
set_option maxRecDepth 100000 in
theorem kp_77_9 : mm_chk mm_tbl "FenceSidesModel" "tellOne" (none) prog_14_method_23_code (fun z => (kl_77[z]?).getD 0) 220 kb_77_9 = true := by decide +kernel
set_option maxRecDepth 100000 in
theorem kp_77_10 : mm_chk mm_tbl "FenceSidesModel" "tellOne" (none) prog_14_method_23_code (fun z => (kl_77[z]?).getD 0) 242 kb_77_10 = true := by decide +kernel
set_option maxRecDepth 100000 in
theorem kp_77_11 : mm_chk mm_tbl "FenceSidesModel" "tellOne" (none) prog_14_method_23_code (fun z => (kl_77[z]?).getD 0) 249 kb_77_11 = true := by decide +kernel
set_option maxRecDepth 100000 in
theorem kp_77_12 : mm_chk mm_tbl "FenceSidesModel" "tellOne" (none) prog_14_method_23_code (fun z => (kl_77[z]?).getD 0) 271 kb_77_12 = true := by decide +kernel
set_option maxRecDepth 100000 in
theorem kp_77_13 : mm_chk mm_tbl "FenceSidesModel" "tellOne" (none) prog_14_method_23_code (fun z => (kl_77[z]?).getD 0) 278 kb_77_13 = true := by decide +kernel
set_option maxRecDepth 100000 in
theorem kp_77_14 : mm_chk mm_tbl "FenceSidesModel" "tellOne" (none) prog_14_method_23_code (fun z => (kl_77[z]?).getD 0) 307 kb_77_14 = true := by decide +kernel
set_option maxRecDepth 100000 in
theorem kp_77_15 : mm_chk mm_tbl "FenceSidesModel" "tellOne" (none) prog_14_method_23_code (fun z => (kl_77[z]?).getD 0) 324 kb_77_15 = true := by decide +kernel
set_option maxRecDepth 100000 in
theorem kp_77_16 : mm_chk mm_tbl "FenceSidesModel" "tellOne" (none) prog_14_method_23_code (fun z => (kl_77[z]?).getD 0) 338 kb_77_16 = true := by decide +kernel
set_option maxRecDepth 100000 in
theorem kp_77_17 : mm_chk mm_tbl "FenceSidesModel" "tellOne" (none) prog_14_method_23_code (fun z => (kl_77[z]?).getD 0) 343 kb_77_17 = true := by decide +kernel
set_option maxRecDepth 100000 in
theorem kp_77_18 : mm_chk mm_tbl "FenceSidesModel" "tellOne" (none) prog_14_method_23_code (fun z => (kl_77[z]?).getD 0) 350 kb_77_18 = true := by decide +kernel
set_option maxRecDepth 100000 in
theorem kp_77_19 : mm_chk mm_tbl "FenceSidesModel" "tellOne" (none) prog_14_method_23_code (fun z => (kl_77[z]?).getD 0) 351 kb_77_19 = true := by decide +kernel
set_option maxRecDepth 100000 in
theorem kp_77_20 : mm_chk mm_tbl "FenceSidesModel" "tellOne" (none) prog_14_method_23_code (fun z => (kl_77[z]?).getD 0) 360 kb_77_20 = true := by decide +kernel
set_option maxRecDepth 100000 in
theorem kp_77_21 : mm_chk mm_tbl "FenceSidesModel" "tellOne" (none) prog_14_method_23_code (fun z => (kl_77[z]?).getD 0) 60 kb_77_21 = true := by decide +kernel
set_option maxRecDepth 100000 in
theorem kp_77_22 : mm_chk mm_tbl "FenceSidesModel" "tellOne" (none) prog_14_method_23_code (fun z => (kl_77[z]?).getD 0) 123 kb_77_22 = true := by decide +kernel
set_option maxRecDepth 100000 in
theorem kp_77_23 : mm_chk mm_tbl "FenceSidesModel" "tellOne" (none) prog_14_method_23_code (fun z => (kl_77[z]?).getD 0) 220 kb_77_23 = true := by decide +kernel
set_option maxRecDepth 100000 in
theorem kp_77_24 : mm_chk mm_tbl "FenceSidesModel" "tellOne" (none) prog_14_method_23_code (fun z => (kl_77[z]?).getD 0) 249 kb_77_24 = true := by decide +kernel
set_option maxRecDepth 100000 in
theorem kp_77_25 : mm_chk mm_tbl "FenceSidesModel" "tellOne" (none) prog_14_method_23_code (fun z => (kl_77[z]?).getD 0) 307 kb_77_25 = true := by decide +kernel
set_option maxRecDepth 100000 in
theorem kp_77_26 : mm_chk mm_tbl "FenceSidesModel" "tellOne" (none) prog_14_method_23_code (fun z => (kl_77[z]?).getD 0) 307 kb_77_26 = true := by decide +kernel
set_option maxRecDepth 100000 in
theorem kp_77_27 : mm_chk mm_tbl "FenceSidesModel" "tellOne" (none) prog_14_method_23_code (fun z => (kl_77[z]?).getD 0) 307 kb_77_27 = true := by decide +kernel
set_option maxRecDepth 100000 in
theorem kp_77_28 : mm_chk mm_tbl "FenceSidesModel" "tellOne" (none) prog_14_method_23_code (fun z => (kl_77[z]?).getD 0) 307 kb_77_28 = true := by decide +kernel
set_option maxRecDepth 100000 in
theorem kp_77_29 : mm_chk mm_tbl "FenceSidesModel" "tellOne" (none) prog_14_method_23_code (fun z => (kl_77[z]?).getD 0) 278 kb_77_29 = true := by decide +kernel
set_option maxRecDepth 100000 in
theorem kp_77_30 : mm_chk mm_tbl "FenceSidesModel" "tellOne" (none) prog_14_method_23_code (fun z => (kl_77[z]?).getD 0) 307 kb_77_30 = true := by decide +kernel
set_option maxRecDepth 100000 in
theorem kq_77 : mm_qok (kt_77, kb_77, kl_77) = true := mm_qok_of (by decide +kernel) (by decide +kernel) rfl (by
  show ∀ bl ∈ List.range 31, _
  exact List.forall_mem_cons.mpr ⟨kp_77_0, List.forall_mem_cons.mpr ⟨kp_77_1, List.forall_mem_cons.mpr ⟨kp_77_2, List.forall_mem_cons.mpr ⟨kp_77_3, List.forall_mem_cons.mpr ⟨kp_77_4, List.forall_mem_cons.mpr ⟨kp_77_5, List.forall_mem_cons.mpr ⟨kp_77_6, List.forall_mem_cons.mpr ⟨kp_77_7, List.forall_mem_cons.mpr ⟨kp_77_8, List.forall_mem_cons.mpr ⟨kp_77_9, List.forall_mem_cons.mpr ⟨kp_77_10, List.forall_mem_cons.mpr ⟨kp_77_11, List.forall_mem_cons.mpr ⟨kp_77_12, List.forall_mem_cons.mpr ⟨kp_77_13, List.forall_mem_cons.mpr ⟨kp_77_14, List.forall_mem_cons.mpr ⟨kp_77_15, List.forall_mem_cons.mpr ⟨kp_77_16, List.forall_mem_cons.mpr ⟨kp_77_17, List.forall_mem_cons.mpr ⟨kp_77_18, List.forall_mem_cons.mpr ⟨kp_77_19, List.forall_mem_cons.mpr ⟨kp_77_20, List.forall_mem_cons.mpr ⟨kp_77_21, List.forall_mem_cons.mpr ⟨kp_77_22, List.forall_mem_cons.mpr ⟨kp_77_23, List.forall_mem_cons.mpr ⟨kp_77_24, List.forall_mem_cons.mpr ⟨kp_77_25, List.forall_mem_cons.mpr ⟨kp_77_26, List.forall_mem_cons.mpr ⟨kp_77_27, List.forall_mem_cons.mpr ⟨kp_77_28, List.forall_mem_cons.mpr ⟨kp_77_29, List.forall_mem_cons.mpr ⟨kp_77_30, fun _ h => absurd h List.not_mem_nil⟩⟩⟩⟩⟩⟩⟩⟩⟩⟩⟩⟩⟩⟩⟩⟩⟩⟩⟩⟩⟩⟩⟩⟩⟩⟩⟩⟩⟩⟩⟩)
theorem kw_77 : mm_cw kt_77 := rfl
set_option maxRecDepth 100000 in
theorem kq_78 : mm_qok (kt_78, kb_78, kl_78) = true := by decide +kernel
theorem kw_78 : mm_cw kt_78 := rfl
set_option maxRecDepth 100000 in
theorem kq_79 : mm_qok (kt_79, kb_79, kl_79) = true := by decide +kernel
theorem kw_79 : mm_cw kt_79 := rfl
set_option maxRecDepth 100000 in
theorem kq_80 : mm_qok (kt_80, kb_80, kl_80) = true := by decide +kernel
theorem kw_80 : mm_cw kt_80 := rfl
set_option maxRecDepth 100000 in
theorem kq_81 : mm_qok (kt_81, kb_81, kl_81) = true := by decide +kernel
theorem kw_81 : mm_cw kt_81 := rfl
set_option maxRecDepth 100000 in
theorem kq_82 : mm_qok (kt_82, kb_82, kl_82) = true := by decide +kernel
theorem kw_82 : mm_cw kt_82 := rfl
set_option maxRecDepth 100000 in
theorem kq_83 : mm_qok (kt_83, kb_83, kl_83) = true := by decide +kernel
theorem kw_83 : mm_cw kt_83 := rfl
set_option maxRecDepth 100000 in
theorem kq_84 : mm_qok (kt_84, kb_84, kl_84) = true := by decide +kernel
theorem kw_84 : mm_cw kt_84 := rfl
set_option maxRecDepth 100000 in
theorem kp_85_0 : mm_chk mm_tbl "FenceSidesModel" "tellLaw" (none) prog_14_method_31_code (fun z => (kl_85[z]?).getD 0) 0 kb_85_0 = true := by decide +kernel
set_option maxRecDepth 100000 in
theorem kp_85_1 : mm_chk mm_tbl "FenceSidesModel" "tellLaw" (none) prog_14_method_31_code (fun z => (kl_85[z]?).getD 0) 12 kb_85_1 = true := by decide +kernel
set_option maxRecDepth 100000 in
theorem kp_85_2 : mm_chk mm_tbl "FenceSidesModel" "tellLaw" (none) prog_14_method_31_code (fun z => (kl_85[z]?).getD 0) 19 kb_85_2 = true := by decide +kernel
set_option maxRecDepth 100000 in
theorem kp_85_3 : mm_chk mm_tbl "FenceSidesModel" "tellLaw" (none) prog_14_method_31_code (fun z => (kl_85[z]?).getD 0) 28 kb_85_3 = true := by decide +kernel
set_option maxRecDepth 100000 in
theorem kp_85_4 : mm_chk mm_tbl "FenceSidesModel" "tellLaw" (none) prog_14_method_31_code (fun z => (kl_85[z]?).getD 0) 33 kb_85_4 = true := by decide +kernel
set_option maxRecDepth 100000 in
theorem kp_85_5 : mm_chk mm_tbl "FenceSidesModel" "tellLaw" (none) prog_14_method_31_code (fun z => (kl_85[z]?).getD 0) 38 kb_85_5 = true := by decide +kernel
set_option maxRecDepth 100000 in
theorem kp_85_6 : mm_chk mm_tbl "FenceSidesModel" "tellLaw" (none) prog_14_method_31_code (fun z => (kl_85[z]?).getD 0) 45 kb_85_6 = true := by decide +kernel
set_option maxRecDepth 100000 in
theorem kp_85_7 : mm_chk mm_tbl "FenceSidesModel" "tellLaw" (none) prog_14_method_31_code (fun z => (kl_85[z]?).getD 0) 46 kb_85_7 = true := by decide +kernel
set_option maxRecDepth 100000 in
theorem kp_85_8 : mm_chk mm_tbl "FenceSidesModel" "tellLaw" (none) prog_14_method_31_code (fun z => (kl_85[z]?).getD 0) 106 kb_85_8 = true := by decide +kernel
set_option maxRecDepth 100000 in
theorem kp_85_9 : mm_chk mm_tbl "FenceSidesModel" "tellLaw" (none) prog_14_method_31_code (fun z => (kl_85[z]?).getD 0) 110 kb_85_9 = true := by decide +kernel
set_option maxRecDepth 100000 in
theorem kp_85_10 : mm_chk mm_tbl "FenceSidesModel" "tellLaw" (none) prog_14_method_31_code (fun z => (kl_85[z]?).getD 0) 129 kb_85_10 = true := by decide +kernel
set_option maxRecDepth 100000 in
theorem kp_85_11 : mm_chk mm_tbl "FenceSidesModel" "tellLaw" (none) prog_14_method_31_code (fun z => (kl_85[z]?).getD 0) 155 kb_85_11 = true := by decide +kernel
set_option maxRecDepth 100000 in
theorem kp_85_12 : mm_chk mm_tbl "FenceSidesModel" "tellLaw" (none) prog_14_method_31_code (fun z => (kl_85[z]?).getD 0) 156 kb_85_12 = true := by decide +kernel
set_option maxRecDepth 100000 in
theorem kq_85 : mm_qok (kt_85, kb_85, kl_85) = true := mm_qok_of (by decide +kernel) (by decide +kernel) rfl (by
  show ∀ bl ∈ List.range 13, _
  exact List.forall_mem_cons.mpr ⟨kp_85_0, List.forall_mem_cons.mpr ⟨kp_85_1, List.forall_mem_cons.mpr ⟨kp_85_2, List.forall_mem_cons.mpr ⟨kp_85_3, List.forall_mem_cons.mpr ⟨kp_85_4, List.forall_mem_cons.mpr ⟨kp_85_5, List.forall_mem_cons.mpr ⟨kp_85_6, List.forall_mem_cons.mpr ⟨kp_85_7, List.forall_mem_cons.mpr ⟨kp_85_8, List.forall_mem_cons.mpr ⟨kp_85_9, List.forall_mem_cons.mpr ⟨kp_85_10, List.forall_mem_cons.mpr ⟨kp_85_11, List.forall_mem_cons.mpr ⟨kp_85_12, fun _ h => absurd h List.not_mem_nil⟩⟩⟩⟩⟩⟩⟩⟩⟩⟩⟩⟩⟩)
theorem kw_85 : mm_cw kt_85 := rfl
set_option maxRecDepth 100000 in
theorem kq_86 : mm_qok (kt_86, kb_86, kl_86) = true := by decide +kernel
theorem kw_86 : mm_cw kt_86 := rfl
set_option maxRecDepth 100000 in
theorem kq_87 : mm_qok (kt_87, kb_87, kl_87) = true := by decide +kernel
theorem kw_87 : mm_cw kt_87 := rfl
set_option maxRecDepth 100000 in
theorem kq_88 : mm_qok (kt_88, kb_88, kl_88) = true := by decide +kernel
theorem kw_88 : mm_cw kt_88 := rfl
set_option maxRecDepth 100000 in
theorem kp_89_0 : mm_chk mm_tbl "FenceSidesModel" "expression" (none) prog_14_method_35_code (fun z => (kl_89[z]?).getD 0) 0 kb_89_0 = true := by decide +kernel
set_option maxRecDepth 100000 in
theorem kp_89_1 : mm_chk mm_tbl "FenceSidesModel" "expression" (none) prog_14_method_35_code (fun z => (kl_89[z]?).getD 0) 12 kb_89_1 = true := by decide +kernel
set_option maxRecDepth 100000 in
theorem kp_89_2 : mm_chk mm_tbl "FenceSidesModel" "expression" (none) prog_14_method_35_code (fun z => (kl_89[z]?).getD 0) 16 kb_89_2 = true := by decide +kernel
set_option maxRecDepth 100000 in
theorem kp_89_3 : mm_chk mm_tbl "FenceSidesModel" "expression" (none) prog_14_method_35_code (fun z => (kl_89[z]?).getD 0) 23 kb_89_3 = true := by decide +kernel
set_option maxRecDepth 100000 in
theorem kp_89_4 : mm_chk mm_tbl "FenceSidesModel" "expression" (none) prog_14_method_35_code (fun z => (kl_89[z]?).getD 0) 32 kb_89_4 = true := by decide +kernel
set_option maxRecDepth 100000 in
theorem kp_89_5 : mm_chk mm_tbl "FenceSidesModel" "expression" (none) prog_14_method_35_code (fun z => (kl_89[z]?).getD 0) 41 kb_89_5 = true := by decide +kernel
set_option maxRecDepth 100000 in
theorem kp_89_6 : mm_chk mm_tbl "FenceSidesModel" "expression" (none) prog_14_method_35_code (fun z => (kl_89[z]?).getD 0) 46 kb_89_6 = true := by decide +kernel
set_option maxRecDepth 100000 in
theorem kp_89_7 : mm_chk mm_tbl "FenceSidesModel" "expression" (none) prog_14_method_35_code (fun z => (kl_89[z]?).getD 0) 84 kb_89_7 = true := by decide +kernel
set_option maxRecDepth 100000 in
theorem kp_89_8 : mm_chk mm_tbl "FenceSidesModel" "expression" (none) prog_14_method_35_code (fun z => (kl_89[z]?).getD 0) 95 kb_89_8 = true := by decide +kernel
set_option maxRecDepth 100000 in
theorem kp_89_9 : mm_chk mm_tbl "FenceSidesModel" "expression" (none) prog_14_method_35_code (fun z => (kl_89[z]?).getD 0) 96 kb_89_9 = true := by decide +kernel
set_option maxRecDepth 100000 in
theorem kp_89_10 : mm_chk mm_tbl "FenceSidesModel" "expression" (none) prog_14_method_35_code (fun z => (kl_89[z]?).getD 0) 105 kb_89_10 = true := by decide +kernel
set_option maxRecDepth 100000 in
theorem kp_89_11 : mm_chk mm_tbl "FenceSidesModel" "expression" (none) prog_14_method_35_code (fun z => (kl_89[z]?).getD 0) 113 kb_89_11 = true := by decide +kernel
set_option maxRecDepth 100000 in
theorem kp_89_12 : mm_chk mm_tbl "FenceSidesModel" "expression" (none) prog_14_method_35_code (fun z => (kl_89[z]?).getD 0) 145 kb_89_12 = true := by decide +kernel
set_option maxRecDepth 100000 in
theorem kp_89_13 : mm_chk mm_tbl "FenceSidesModel" "expression" (none) prog_14_method_35_code (fun z => (kl_89[z]?).getD 0) 154 kb_89_13 = true := by decide +kernel
set_option maxRecDepth 100000 in
theorem kp_89_14 : mm_chk mm_tbl "FenceSidesModel" "expression" (none) prog_14_method_35_code (fun z => (kl_89[z]?).getD 0) 163 kb_89_14 = true := by decide +kernel
set_option maxRecDepth 100000 in
theorem kp_89_15 : mm_chk mm_tbl "FenceSidesModel" "expression" (none) prog_14_method_35_code (fun z => (kl_89[z]?).getD 0) 172 kb_89_15 = true := by decide +kernel
set_option maxRecDepth 100000 in
theorem kp_89_16 : mm_chk mm_tbl "FenceSidesModel" "expression" (none) prog_14_method_35_code (fun z => (kl_89[z]?).getD 0) 181 kb_89_16 = true := by decide +kernel
set_option maxRecDepth 100000 in
theorem kp_89_17 : mm_chk mm_tbl "FenceSidesModel" "expression" (none) prog_14_method_35_code (fun z => (kl_89[z]?).getD 0) 185 kb_89_17 = true := by decide +kernel
set_option maxRecDepth 100000 in
theorem kp_89_18 : mm_chk mm_tbl "FenceSidesModel" "expression" (none) prog_14_method_35_code (fun z => (kl_89[z]?).getD 0) 186 kb_89_18 = true := by decide +kernel
set_option maxRecDepth 100000 in
theorem kp_89_19 : mm_chk mm_tbl "FenceSidesModel" "expression" (none) prog_14_method_35_code (fun z => (kl_89[z]?).getD 0) 191 kb_89_19 = true := by decide +kernel
set_option maxRecDepth 100000 in
theorem kp_89_20 : mm_chk mm_tbl "FenceSidesModel" "expression" (none) prog_14_method_35_code (fun z => (kl_89[z]?).getD 0) 199 kb_89_20 = true := by decide +kernel
set_option maxRecDepth 100000 in
theorem kp_89_21 : mm_chk mm_tbl "FenceSidesModel" "expression" (none) prog_14_method_35_code (fun z => (kl_89[z]?).getD 0) 204 kb_89_21 = true := by decide +kernel
set_option maxRecDepth 100000 in
theorem kp_89_22 : mm_chk mm_tbl "FenceSidesModel" "expression" (none) prog_14_method_35_code (fun z => (kl_89[z]?).getD 0) 210 kb_89_22 = true := by decide +kernel
set_option maxRecDepth 100000 in
theorem kp_89_23 : mm_chk mm_tbl "FenceSidesModel" "expression" (none) prog_14_method_35_code (fun z => (kl_89[z]?).getD 0) 220 kb_89_23 = true := by decide +kernel
set_option maxRecDepth 100000 in
theorem kp_89_24 : mm_chk mm_tbl "FenceSidesModel" "expression" (none) prog_14_method_35_code (fun z => (kl_89[z]?).getD 0) 229 kb_89_24 = true := by decide +kernel
set_option maxRecDepth 100000 in
theorem kp_89_25 : mm_chk mm_tbl "FenceSidesModel" "expression" (none) prog_14_method_35_code (fun z => (kl_89[z]?).getD 0) 233 kb_89_25 = true := by decide +kernel
set_option maxRecDepth 100000 in
theorem kp_89_26 : mm_chk mm_tbl "FenceSidesModel" "expression" (none) prog_14_method_35_code (fun z => (kl_89[z]?).getD 0) 234 kb_89_26 = true := by decide +kernel
set_option maxRecDepth 100000 in
theorem kp_89_27 : mm_chk mm_tbl "FenceSidesModel" "expression" (none) prog_14_method_35_code (fun z => (kl_89[z]?).getD 0) 272 kb_89_27 = true := by decide +kernel
set_option maxRecDepth 100000 in
theorem kq_89 : mm_qok (kt_89, kb_89, kl_89) = true := mm_qok_of (by decide +kernel) (by decide +kernel) rfl (by
  show ∀ bl ∈ List.range 28, _
  exact List.forall_mem_cons.mpr ⟨kp_89_0, List.forall_mem_cons.mpr ⟨kp_89_1, List.forall_mem_cons.mpr ⟨kp_89_2, List.forall_mem_cons.mpr ⟨kp_89_3, List.forall_mem_cons.mpr ⟨kp_89_4, List.forall_mem_cons.mpr ⟨kp_89_5, List.forall_mem_cons.mpr ⟨kp_89_6, List.forall_mem_cons.mpr ⟨kp_89_7, List.forall_mem_cons.mpr ⟨kp_89_8, List.forall_mem_cons.mpr ⟨kp_89_9, List.forall_mem_cons.mpr ⟨kp_89_10, List.forall_mem_cons.mpr ⟨kp_89_11, List.forall_mem_cons.mpr ⟨kp_89_12, List.forall_mem_cons.mpr ⟨kp_89_13, List.forall_mem_cons.mpr ⟨kp_89_14, List.forall_mem_cons.mpr ⟨kp_89_15, List.forall_mem_cons.mpr ⟨kp_89_16, List.forall_mem_cons.mpr ⟨kp_89_17, List.forall_mem_cons.mpr ⟨kp_89_18, List.forall_mem_cons.mpr ⟨kp_89_19, List.forall_mem_cons.mpr ⟨kp_89_20, List.forall_mem_cons.mpr ⟨kp_89_21, List.forall_mem_cons.mpr ⟨kp_89_22, List.forall_mem_cons.mpr ⟨kp_89_23, List.forall_mem_cons.mpr ⟨kp_89_24, List.forall_mem_cons.mpr ⟨kp_89_25, List.forall_mem_cons.mpr ⟨kp_89_26, List.forall_mem_cons.mpr ⟨kp_89_27, fun _ h => absurd h List.not_mem_nil⟩⟩⟩⟩⟩⟩⟩⟩⟩⟩⟩⟩⟩⟩⟩⟩⟩⟩⟩⟩⟩⟩⟩⟩⟩⟩⟩⟩)
theorem kw_89 : mm_cw kt_89 := rfl
set_option maxRecDepth 100000 in
theorem kq_90 : mm_qok (kt_90, kb_90, kl_90) = true := by decide +kernel
theorem kw_90 : mm_cw kt_90 := rfl
set_option maxRecDepth 100000 in
theorem kq_91 : mm_qok (kt_91, kb_91, kl_91) = true := by decide +kernel
theorem kw_91 : mm_cw kt_91 := rfl
set_option maxRecDepth 100000 in
theorem kq_92 : mm_qok (kt_92, kb_92, kl_92) = true := by decide +kernel
theorem kw_92 : mm_cw kt_92 := rfl
set_option maxRecDepth 100000 in
theorem kq_93 : mm_qok (kt_93, kb_93, kl_93) = true := by decide +kernel
theorem kw_93 : mm_cw kt_93 := rfl
set_option maxRecDepth 100000 in
theorem kq_94 : mm_qok (kt_94, kb_94, kl_94) = true := by decide +kernel
theorem kw_94 : mm_cw kt_94 := rfl
set_option maxRecDepth 100000 in
theorem kq_95 : mm_qok (kt_95, kb_95, kl_95) = true := by decide +kernel
theorem kw_95 : mm_cw kt_95 := rfl
set_option maxRecDepth 100000 in
theorem kq_96 : mm_qok (kt_96, kb_96, kl_96) = true := by decide +kernel
theorem kw_96 : mm_cw kt_96 := rfl
set_option maxRecDepth 100000 in
theorem kq_97 : mm_qok (kt_97, kb_97, kl_97) = true := by decide +kernel
theorem kw_97 : mm_cw kt_97 := rfl
set_option maxRecDepth 100000 in
theorem kq_98 : mm_qok (kt_98, kb_98, kl_98) = true := by decide +kernel
theorem kw_98 : mm_cw kt_98 := rfl
set_option maxRecDepth 100000 in
theorem kp_99_0 : mm_chk mm_tbl "FenceSidesModel" "begins" (none) prog_14_method_45_code (fun z => (kl_99[z]?).getD 0) 0 kb_99_0 = true := by decide +kernel
set_option maxRecDepth 100000 in
theorem kp_99_1 : mm_chk mm_tbl "FenceSidesModel" "begins" (none) prog_14_method_45_code (fun z => (kl_99[z]?).getD 0) 2 kb_99_1 = true := by decide +kernel
set_option maxRecDepth 100000 in
theorem kp_99_2 : mm_chk mm_tbl "FenceSidesModel" "begins" (none) prog_14_method_45_code (fun z => (kl_99[z]?).getD 0) 8 kb_99_2 = true := by decide +kernel
set_option maxRecDepth 100000 in
theorem kp_99_3 : mm_chk mm_tbl "FenceSidesModel" "begins" (none) prog_14_method_45_code (fun z => (kl_99[z]?).getD 0) 21 kb_99_3 = true := by decide +kernel
set_option maxRecDepth 100000 in
theorem kp_99_4 : mm_chk mm_tbl "FenceSidesModel" "begins" (none) prog_14_method_45_code (fun z => (kl_99[z]?).getD 0) 23 kb_99_4 = true := by decide +kernel
set_option maxRecDepth 100000 in
theorem kp_99_5 : mm_chk mm_tbl "FenceSidesModel" "begins" (none) prog_14_method_45_code (fun z => (kl_99[z]?).getD 0) 29 kb_99_5 = true := by decide +kernel
set_option maxRecDepth 100000 in
theorem kp_99_6 : mm_chk mm_tbl "FenceSidesModel" "begins" (none) prog_14_method_45_code (fun z => (kl_99[z]?).getD 0) 46 kb_99_6 = true := by decide +kernel
set_option maxRecDepth 100000 in
theorem kp_99_7 : mm_chk mm_tbl "FenceSidesModel" "begins" (none) prog_14_method_45_code (fun z => (kl_99[z]?).getD 0) 48 kb_99_7 = true := by decide +kernel
set_option maxRecDepth 100000 in
theorem kp_99_8 : mm_chk mm_tbl "FenceSidesModel" "begins" (none) prog_14_method_45_code (fun z => (kl_99[z]?).getD 0) 61 kb_99_8 = true := by decide +kernel
set_option maxRecDepth 100000 in
theorem kp_99_9 : mm_chk mm_tbl "FenceSidesModel" "begins" (none) prog_14_method_45_code (fun z => (kl_99[z]?).getD 0) 97 kb_99_9 = true := by decide +kernel
set_option maxRecDepth 100000 in
theorem kp_99_10 : mm_chk mm_tbl "FenceSidesModel" "begins" (none) prog_14_method_45_code (fun z => (kl_99[z]?).getD 0) 99 kb_99_10 = true := by decide +kernel
set_option maxRecDepth 100000 in
theorem kp_99_11 : mm_chk mm_tbl "FenceSidesModel" "begins" (none) prog_14_method_45_code (fun z => (kl_99[z]?).getD 0) 105 kb_99_11 = true := by decide +kernel
set_option maxRecDepth 100000 in
theorem kp_99_12 : mm_chk mm_tbl "FenceSidesModel" "begins" (none) prog_14_method_45_code (fun z => (kl_99[z]?).getD 0) 121 kb_99_12 = true := by decide +kernel
set_option maxRecDepth 100000 in
theorem kp_99_13 : mm_chk mm_tbl "FenceSidesModel" "begins" (none) prog_14_method_45_code (fun z => (kl_99[z]?).getD 0) 123 kb_99_13 = true := by decide +kernel
def ks_99_14_0 : List mm_I := [(2, 0, 0, 0), (23, 12, 53, 5215), (7, 0, 0, 18), (0, 1, 0, 0), (13, 0, 0, 0), (2, 0, 0, 0), (23, 12, 31, 5193), (7, 0, 0, 10), (2, 0, 0, 0), (23, 12, 18, 5180), (13, 2, 0, 0), (0, 1, 0, 0), (13, 0, 0, 0), (27, 0, 0, 0), (28, 0, 0, 0), (2, 0, 0, 0), (23, 12, 53, 5215), (7, 0, 0, 28), (0, 1, 0, 0), (13, 0, 0, 0), (2, 0, 0, 0), (23, 12, 32, 5194), (7, 0, 0, 10), (2, 0, 0, 0), (23, 12, 18, 5180), (13, 2, 0, 0), (0, 1, 0, 0), (13, 0, 0, 0), (27, 0, 0, 0), (28, 0, 0, 0), (2, 0, 0, 0), (23, 12, 53, 5215), (7, 0, 0, 38), (0, 1, 0, 0), (13, 0, 0, 0), (2, 0, 0, 0), (23, 12, 33, 5195), (7, 0, 0, 10), (2, 0, 0, 0), (23, 12, 18, 5180)]
def ks_99_14_1 : List mm_I := [(13, 2, 0, 0), (0, 1, 0, 0), (13, 0, 0, 0), (27, 0, 0, 0), (28, 0, 0, 0), (6, 1, 0, 1), (50, 13, 0, 0)]
set_option maxRecDepth 100000 in
theorem kv_99_14_0 : mm_seg mm_tbl "FenceSidesModel" "begins" prog_14_method_45_code 136 ks_99_14_0 = some 200 := by decide +kernel
set_option maxRecDepth 100000 in
theorem kv_99_14_1 : mm_chk mm_tbl "FenceSidesModel" "begins" (none) prog_14_method_45_code (fun z => (kl_99[z]?).getD 0) 200 ks_99_14_1 = true := by decide +kernel
theorem kp_99_14 : mm_chk mm_tbl "FenceSidesModel" "begins" (none) prog_14_method_45_code (fun z => (kl_99[z]?).getD 0) 136 kb_99_14 = true := (mm_seg_app ks_99_14_0 _ _ _ kv_99_14_0 kv_99_14_1)
set_option maxRecDepth 100000 in
theorem kp_99_15 : mm_chk mm_tbl "FenceSidesModel" "begins" (none) prog_14_method_45_code (fun z => (kl_99[z]?).getD 0) 211 kb_99_15 = true := by decide +kernel
set_option maxRecDepth 100000 in
theorem kq_99 : mm_qok (kt_99, kb_99, kl_99) = true := mm_qok_of (by decide +kernel) (by decide +kernel) rfl (by
  show ∀ bl ∈ List.range 16, _
  exact List.forall_mem_cons.mpr ⟨kp_99_0, List.forall_mem_cons.mpr ⟨kp_99_1, List.forall_mem_cons.mpr ⟨kp_99_2, List.forall_mem_cons.mpr ⟨kp_99_3, List.forall_mem_cons.mpr ⟨kp_99_4, List.forall_mem_cons.mpr ⟨kp_99_5, List.forall_mem_cons.mpr ⟨kp_99_6, List.forall_mem_cons.mpr ⟨kp_99_7, List.forall_mem_cons.mpr ⟨kp_99_8, List.forall_mem_cons.mpr ⟨kp_99_9, List.forall_mem_cons.mpr ⟨kp_99_10, List.forall_mem_cons.mpr ⟨kp_99_11, List.forall_mem_cons.mpr ⟨kp_99_12, List.forall_mem_cons.mpr ⟨kp_99_13, List.forall_mem_cons.mpr ⟨kp_99_14, List.forall_mem_cons.mpr ⟨kp_99_15, fun _ h => absurd h List.not_mem_nil⟩⟩⟩⟩⟩⟩⟩⟩⟩⟩⟩⟩⟩⟩⟩⟩)
theorem kw_99 : mm_cw kt_99 := rfl
set_option maxRecDepth 100000 in
theorem kq_100 : mm_qok (kt_100, kb_100, kl_100) = true := by decide +kernel
theorem kw_100 : mm_cw kt_100 := rfl
set_option maxRecDepth 100000 in
theorem kq_101 : mm_qok (kt_101, kb_101, kl_101) = true := by decide +kernel
theorem kw_101 : mm_cw kt_101 := rfl
set_option maxRecDepth 100000 in
theorem kq_102 : mm_qok (kt_102, kb_102, kl_102) = true := by decide +kernel
theorem kw_102 : mm_cw kt_102 := rfl
set_option maxRecDepth 100000 in
theorem kq_103 : mm_qok (kt_103, kb_103, kl_103) = true := by decide +kernel
theorem kw_103 : mm_cw kt_103 := rfl
set_option maxRecDepth 100000 in
theorem kq_104 : mm_qok (kt_104, kb_104, kl_104) = true := by decide +kernel
theorem kw_104 : mm_cw kt_104 := rfl
set_option maxRecDepth 100000 in
theorem kq_105 : mm_qok (kt_105, kb_105, kl_105) = true := by decide +kernel
theorem kw_105 : mm_cw kt_105 := rfl
set_option maxRecDepth 100000 in
theorem kq_106 : mm_qok (kt_106, kb_106, kl_106) = true := by decide +kernel
theorem kw_106 : mm_cw kt_106 := rfl
set_option maxRecDepth 100000 in
theorem kq_107 : mm_qok (kt_107, kb_107, kl_107) = true := by decide +kernel
theorem kw_107 : mm_cw kt_107 := rfl
set_option maxRecDepth 100000 in
theorem kq_108 : mm_qok (kt_108, kb_108, kl_108) = true := by decide +kernel
theorem kw_108 : mm_cw kt_108 := rfl
set_option maxRecDepth 100000 in
theorem kq_109 : mm_qok (kt_109, kb_109, kl_109) = true := by decide +kernel
theorem kw_109 : mm_cw kt_109 := rfl
set_option maxRecDepth 100000 in
theorem kq_110 : mm_qok (kt_110, kb_110, kl_110) = true := by decide +kernel
theorem kw_110 : mm_cw kt_110 := rfl
