/-! ===== checks: by program ===== -/
set_option maxRecDepth 100000 in
theorem kq_111 : mm_qok (kt_111, kb_111, kl_111) = true := by decide +kernel
theorem kw_111 : mm_cw kt_111 := rfl
set_option maxRecDepth 100000 in
theorem kq_112 : mm_qok (kt_112, kb_112, kl_112) = true := by decide +kernel
theorem kw_112 : mm_cw kt_112 := rfl
set_option maxRecDepth 100000 in
theorem kq_113 : mm_qok (kt_113, kb_113, kl_113) = true := by decide +kernel
theorem kw_113 : mm_cw kt_113 := rfl
set_option maxRecDepth 100000 in
theorem kq_114 : mm_qok (kt_114, kb_114, kl_114) = true := by decide +kernel
theorem kw_114 : mm_cw kt_114 := rfl
set_option maxRecDepth 100000 in
theorem kq_115 : mm_qok (kt_115, kb_115, kl_115) = true := by decide +kernel
theorem kw_115 : mm_cw kt_115 := rfl
set_option maxRecDepth 100000 in
theorem kq_116 : mm_qok (kt_116, kb_116, kl_116) = true := by decide +kernel
theorem kw_116 : mm_cw kt_116 := rfl
set_option maxRecDepth 100000 in
theorem kq_117 : mm_qok (kt_117, kb_117, kl_117) = true := by decide +kernel
theorem kw_117 : mm_cw kt_117 := rfl
set_option maxRecDepth 100000 in
theorem kq_118 : mm_qok (kt_118, kb_118, kl_118) = true := by decide +kernel
theorem kw_118 : mm_cw kt_118 := rfl
set_option maxRecDepth 100000 in
theorem kq_119 : mm_qok (kt_119, kb_119, kl_119) = true := by decide +kernel
theorem kw_119 : mm_cw kt_119 := rfl
set_option maxRecDepth 100000 in
theorem kq_120 : mm_qok (kt_120, kb_120, kl_120) = true := by decide +kernel
theorem kw_120 : mm_cw kt_120 := rfl
set_option maxRecDepth 100000 in
theorem kq_121 : mm_qok (kt_121, kb_121, kl_121) = true := by decide +kernel
theorem kw_121 : mm_cw kt_121 := rfl
set_option maxRecDepth 100000 in
theorem kq_122 : mm_qok (kt_122, kb_122, kl_122) = true := by decide +kernel
theorem kw_122 : mm_cw kt_122 := rfl
set_option maxRecDepth 100000 in
theorem kp_123_0 : mm_chk mm_tbl "FenceSidesModel" "yearGoes" (none) prog_14_method_69_code (fun z => (kl_123[z]?).getD 0) 0 kb_123_0 = true := by decide +kernel
set_option maxRecDepth 100000 in
theorem kp_123_1 : mm_chk mm_tbl "FenceSidesModel" "yearGoes" (none) prog_14_method_69_code (fun z => (kl_123[z]?).getD 0) 2 kb_123_1 = true := by decide +kernel
set_option maxRecDepth 100000 in
theorem kp_123_2 : mm_chk mm_tbl "FenceSidesModel" "yearGoes" (none) prog_14_method_69_code (fun z => (kl_123[z]?).getD 0) 15 kb_123_2 = true := by decide +kernel
set_option maxRecDepth 100000 in
theorem kp_123_3 : mm_chk mm_tbl "FenceSidesModel" "yearGoes" (none) prog_14_method_69_code (fun z => (kl_123[z]?).getD 0) 27 kb_123_3 = true := by decide +kernel
set_option maxRecDepth 100000 in
theorem kp_123_4 : mm_chk mm_tbl "FenceSidesModel" "yearGoes" (none) prog_14_method_69_code (fun z => (kl_123[z]?).getD 0) 35 kb_123_4 = true := by decide +kernel
set_option maxRecDepth 100000 in
theorem kp_123_5 : mm_chk mm_tbl "FenceSidesModel" "yearGoes" (none) prog_14_method_69_code (fun z => (kl_123[z]?).getD 0) 59 kb_123_5 = true := by decide +kernel
set_option maxRecDepth 100000 in
theorem kp_123_6 : mm_chk mm_tbl "FenceSidesModel" "yearGoes" (none) prog_14_method_69_code (fun z => (kl_123[z]?).getD 0) 63 kb_123_6 = true := by decide +kernel
set_option maxRecDepth 100000 in
theorem kp_123_7 : mm_chk mm_tbl "FenceSidesModel" "yearGoes" (none) prog_14_method_69_code (fun z => (kl_123[z]?).getD 0) 64 kb_123_7 = true := by decide +kernel
set_option maxRecDepth 100000 in
theorem kp_123_8 : mm_chk mm_tbl "FenceSidesModel" "yearGoes" (none) prog_14_method_69_code (fun z => (kl_123[z]?).getD 0) 71 kb_123_8 = true := by decide +kernel
set_option maxRecDepth 100000 in
theorem kp_123_9 : mm_chk mm_tbl "FenceSidesModel" "yearGoes" (none) prog_14_method_69_code (fun z => (kl_123[z]?).getD 0) 73 kb_123_9 = true := by decide +kernel
set_option maxRecDepth 100000 in
theorem kp_123_10 : mm_chk mm_tbl "FenceSidesModel" "yearGoes" (none) prog_14_method_69_code (fun z => (kl_123[z]?).getD 0) 86 kb_123_10 = true := by decide +kernel
set_option maxRecDepth 100000 in
theorem kp_123_11 : mm_chk mm_tbl "FenceSidesModel" "yearGoes" (none) prog_14_method_69_code (fun z => (kl_123[z]?).getD 0) 114 kb_123_11 = true := by decide +kernel
set_option maxRecDepth 100000 in
theorem kp_123_12 : mm_chk mm_tbl "FenceSidesModel" "yearGoes" (none) prog_14_method_69_code (fun z => (kl_123[z]?).getD 0) 116 kb_123_12 = true := by decide +kernel
set_option maxRecDepth 100000 in
theorem kp_123_13 : mm_chk mm_tbl "FenceSidesModel" "yearGoes" (none) prog_14_method_69_code (fun z => (kl_123[z]?).getD 0) 129 kb_123_13 = true := by decide +kernel
set_option maxRecDepth 100000 in
theorem kp_123_14 : mm_chk mm_tbl "FenceSidesModel" "yearGoes" (none) prog_14_method_69_code (fun z => (kl_123[z]?).getD 0) 138 kb_123_14 = true := by decide +kernel
set_option maxRecDepth 100000 in
theorem kp_123_15 : mm_chk mm_tbl "FenceSidesModel" "yearGoes" (none) prog_14_method_69_code (fun z => (kl_123[z]?).getD 0) 145 kb_123_15 = true := by decide +kernel
set_option maxRecDepth 100000 in
theorem kp_123_16 : mm_chk mm_tbl "FenceSidesModel" "yearGoes" (none) prog_14_method_69_code (fun z => (kl_123[z]?).getD 0) 151 kb_123_16 = true := by decide +kernel
set_option maxRecDepth 100000 in
theorem kp_123_17 : mm_chk mm_tbl "FenceSidesModel" "yearGoes" (none) prog_14_method_69_code (fun z => (kl_123[z]?).getD 0) 153 kb_123_17 = true := by decide +kernel
set_option maxRecDepth 100000 in
theorem kp_123_18 : mm_chk mm_tbl "FenceSidesModel" "yearGoes" (none) prog_14_method_69_code (fun z => (kl_123[z]?).getD 0) 166 kb_123_18 = true := by decide +kernel
set_option maxRecDepth 100000 in
theorem kp_123_19 : mm_chk mm_tbl "FenceSidesModel" "yearGoes" (none) prog_14_method_69_code (fun z => (kl_123[z]?).getD 0) 175 kb_123_19 = true := by decide +kernel
set_option maxRecDepth 100000 in
theorem kp_123_20 : mm_chk mm_tbl "FenceSidesModel" "yearGoes" (none) prog_14_method_69_code (fun z => (kl_123[z]?).getD 0) 180 kb_123_20 = true := by decide +kernel
set_option maxRecDepth 100000 in
theorem kp_123_21 : mm_chk mm_tbl "FenceSidesModel" "yearGoes" (none) prog_14_method_69_code (fun z => (kl_123[z]?).getD 0) 188 kb_123_21 = true := by decide +kernel
set_option maxRecDepth 100000 in
theorem kp_123_22 : mm_chk mm_tbl "FenceSidesModel" "yearGoes" (none) prog_14_method_69_code (fun z => (kl_123[z]?).getD 0) 215 kb_123_22 = true := by decide +kernel
set_option maxRecDepth 100000 in
theorem kp_123_23 : mm_chk mm_tbl "FenceSidesModel" "yearGoes" (none) prog_14_method_69_code (fun z => (kl_123[z]?).getD 0) 221 kb_123_23 = true := by decide +kernel
set_option maxRecDepth 100000 in
theorem kp_123_24 : mm_chk mm_tbl "FenceSidesModel" "yearGoes" (none) prog_14_method_69_code (fun z => (kl_123[z]?).getD 0) 223 kb_123_24 = true := by decide +kernel
set_option maxRecDepth 100000 in
theorem kp_123_25 : mm_chk mm_tbl "FenceSidesModel" "yearGoes" (none) prog_14_method_69_code (fun z => (kl_123[z]?).getD 0) 236 kb_123_25 = true := by decide +kernel
set_option maxRecDepth 100000 in
theorem kp_123_26 : mm_chk mm_tbl "FenceSidesModel" "yearGoes" (none) prog_14_method_69_code (fun z => (kl_123[z]?).getD 0) 249 kb_123_26 = true := by decide +kernel
set_option maxRecDepth 100000 in
theorem kp_123_27 : mm_chk mm_tbl "FenceSidesModel" "yearGoes" (none) prog_14_method_69_code (fun z => (kl_123[z]?).getD 0) 252 kb_123_27 = true := by decide +kernel
set_option maxRecDepth 100000 in
theorem kp_123_28 : mm_chk mm_tbl "FenceSidesModel" "yearGoes" (none) prog_14_method_69_code (fun z => (kl_123[z]?).getD 0) 292 kb_123_28 = true := by decide +kernel
set_option maxRecDepth 100000 in
theorem kp_123_29 : mm_chk mm_tbl "FenceSidesModel" "yearGoes" (none) prog_14_method_69_code (fun z => (kl_123[z]?).getD 0) 300 kb_123_29 = true := by decide +kernel
set_option maxRecDepth 100000 in
theorem kp_123_30 : mm_chk mm_tbl "FenceSidesModel" "yearGoes" (none) prog_14_method_69_code (fun z => (kl_123[z]?).getD 0) 310 kb_123_30 = true := by decide +kernel
set_option maxRecDepth 100000 in
theorem kp_123_31 : mm_chk mm_tbl "FenceSidesModel" "yearGoes" (none) prog_14_method_69_code (fun z => (kl_123[z]?).getD 0) 316 kb_123_31 = true := by decide +kernel
set_option maxRecDepth 100000 in
theorem kq_123 : mm_qok (kt_123, kb_123, kl_123) = true := mm_qok_of (by decide +kernel) (by decide +kernel) rfl (by
  show ∀ bl ∈ List.range 32, _
  exact List.forall_mem_cons.mpr ⟨kp_123_0, List.forall_mem_cons.mpr ⟨kp_123_1, List.forall_mem_cons.mpr ⟨kp_123_2, List.forall_mem_cons.mpr ⟨kp_123_3, List.forall_mem_cons.mpr ⟨kp_123_4, List.forall_mem_cons.mpr ⟨kp_123_5, List.forall_mem_cons.mpr ⟨kp_123_6, List.forall_mem_cons.mpr ⟨kp_123_7, List.forall_mem_cons.mpr ⟨kp_123_8, List.forall_mem_cons.mpr ⟨kp_123_9, List.forall_mem_cons.mpr ⟨kp_123_10, List.forall_mem_cons.mpr ⟨kp_123_11, List.forall_mem_cons.mpr ⟨kp_123_12, List.forall_mem_cons.mpr ⟨kp_123_13, List.forall_mem_cons.mpr ⟨kp_123_14, List.forall_mem_cons.mpr ⟨kp_123_15, List.forall_mem_cons.mpr ⟨kp_123_16, List.forall_mem_cons.mpr ⟨kp_123_17, List.forall_mem_cons.mpr ⟨kp_123_18, List.forall_mem_cons.mpr ⟨kp_123_19, List.forall_mem_cons.mpr ⟨kp_123_20, List.forall_mem_cons.mpr ⟨kp_123_21, List.forall_mem_cons.mpr ⟨kp_123_22, List.forall_mem_cons.mpr ⟨kp_123_23, List.forall_mem_cons.mpr ⟨kp_123_24, List.forall_mem_cons.mpr ⟨kp_123_25, List.forall_mem_cons.mpr ⟨kp_123_26, List.forall_mem_cons.mpr ⟨kp_123_27, List.forall_mem_cons.mpr ⟨kp_123_28, List.forall_mem_cons.mpr ⟨kp_123_29, List.forall_mem_cons.mpr ⟨kp_123_30, List.forall_mem_cons.mpr ⟨kp_123_31, fun _ h => absurd h List.not_mem_nil⟩⟩⟩⟩⟩⟩⟩⟩⟩⟩⟩⟩⟩⟩⟩⟩⟩⟩⟩⟩⟩⟩⟩⟩⟩⟩⟩⟩⟩⟩⟩⟩)
theorem kw_123 : mm_cw kt_123 := rfl
set_option maxRecDepth 100000 in
theorem kq_124 : mm_qok (kt_124, kb_124, kl_124) = true := by decide +kernel
theorem kw_124 : mm_cw kt_124 := rfl
set_option maxRecDepth 100000 in
theorem kq_125 : mm_qok (kt_125, kb_125, kl_125) = true := by decide +kernel
theorem kw_125 : mm_cw kt_125 := rfl
set_option maxRecDepth 100000 in
theorem kq_126 : mm_qok (kt_126, kb_126, kl_126) = true := by decide +kernel
theorem kw_126 : mm_cw kt_126 := rfl
set_option maxRecDepth 100000 in
theorem kq_127 : mm_qok (kt_127, kb_127, kl_127) = true := by decide +kernel
theorem kw_127 : mm_cw kt_127 := rfl
set_option maxRecDepth 100000 in
theorem kq_128 : mm_qok (kt_128, kb_128, kl_128) = true := by decide +kernel
theorem kw_128 : mm_cw kt_128 := rfl
set_option maxRecDepth 100000 in
theorem kq_129 : mm_qok (kt_129, kb_129, kl_129) = true := by decide +kernel
theorem kw_129 : mm_cw kt_129 := rfl
set_option maxRecDepth 100000 in
theorem kq_130 : mm_qok (kt_130, kb_130, kl_130) = true := by decide +kernel
theorem kw_130 : mm_cw kt_130 := rfl
set_option maxRecDepth 100000 in
theorem kq_131 : mm_qok (kt_131, kb_131, kl_131) = true := by decide +kernel
theorem kw_131 : mm_cw kt_131 := rfl
set_option maxRecDepth 100000 in
theorem kq_132 : mm_qok (kt_132, kb_132, kl_132) = true := by decide +kernel
theorem kw_132 : mm_cw kt_132 := rfl
set_option maxRecDepth 100000 in
theorem kq_133 : mm_qok (kt_133, kb_133, kl_133) = true := by decide +kernel
theorem kw_133 : mm_cw kt_133 := rfl
set_option maxRecDepth 100000 in
theorem kq_134 : mm_qok (kt_134, kb_134, kl_134) = true := by decide +kernel
theorem kw_134 : mm_cw kt_134 := rfl
set_option maxRecDepth 100000 in
theorem kq_135 : mm_qok (kt_135, kb_135, kl_135) = true := by decide +kernel
theorem kw_135 : mm_cw kt_135 := rfl
set_option maxRecDepth 100000 in
theorem kq_136 : mm_qok (kt_136, kb_136, kl_136) = true := by decide +kernel
theorem kw_136 : mm_cw kt_136 := rfl
set_option maxRecDepth 100000 in
theorem kq_137 : mm_qok (kt_137, kb_137, kl_137) = true := by decide +kernel
theorem kw_137 : mm_cw kt_137 := rfl
set_option maxRecDepth 100000 in
theorem kq_138 : mm_qok (kt_138, kb_138, kl_138) = true := by decide +kernel
theorem kw_138 : mm_cw kt_138 := rfl
set_option maxRecDepth 100000 in
theorem kq_139 : mm_qok (kt_139, kb_139, kl_139) = true := by decide +kernel
theorem kw_139 : mm_cw kt_139 := rfl
set_option maxRecDepth 100000 in
theorem kq_140 : mm_qok (kt_140, kb_140, kl_140) = true := by decide +kernel
theorem kw_140 : mm_cw kt_140 := rfl
set_option maxRecDepth 100000 in
theorem kq_141 : mm_qok (kt_141, kb_141, kl_141) = true := by decide +kernel
theorem kw_141 : mm_cw kt_141 := rfl
set_option maxRecDepth 100000 in
theorem kq_142 : mm_qok (kt_142, kb_142, kl_142) = true := by decide +kernel
theorem kw_142 : mm_cw kt_142 := rfl
set_option maxRecDepth 100000 in
theorem kq_143 : mm_qok (kt_143, kb_143, kl_143) = true := by decide +kernel
theorem kw_143 : mm_cw kt_143 := rfl
set_option maxRecDepth 100000 in
theorem kq_144 : mm_qok (kt_144, kb_144, kl_144) = true := by decide +kernel
theorem kw_144 : mm_cw kt_144 := rfl
set_option maxRecDepth 100000 in
theorem kq_145 : mm_qok (kt_145, kb_145, kl_145) = true := by decide +kernel
theorem kw_145 : mm_cw kt_145 := rfl
set_option maxRecDepth 100000 in
theorem kq_146 : mm_qok (kt_146, kb_146, kl_146) = true := by decide +kernel
theorem kw_146 : mm_cw kt_146 := rfl
set_option maxRecDepth 100000 in
theorem kq_147 : mm_qok (kt_147, kb_147, kl_147) = true := by decide +kernel
theorem kw_147 : mm_cw kt_147 := rfl
set_option maxRecDepth 100000 in
theorem kq_148 : mm_qok (kt_148, kb_148, kl_148) = true := by decide +kernel
theorem kw_148 : mm_cw kt_148 := rfl
set_option maxRecDepth 100000 in
theorem kq_149 : mm_qok (kt_149, kb_149, kl_149) = true := by decide +kernel
theorem kw_149 : mm_cw kt_149 := rfl
set_option maxRecDepth 100000 in
theorem kq_150 : mm_qok (kt_150, kb_150, kl_150) = true := by decide +kernel
theorem kw_150 : mm_cw kt_150 := rfl
