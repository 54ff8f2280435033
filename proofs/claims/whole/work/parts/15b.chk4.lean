/-! ===== checks: by program ===== -/
set_option maxRecDepth 100000 in
theorem kq_151 : mm_qok (kt_151, kb_151, kl_151) = true := by decide +kernel
theorem kw_151 : mm_cw kt_151 := rfl
set_option maxRecDepth 100000 in
theorem kq_152 : mm_qok (kt_152, kb_152, kl_152) = true := by decide +kernel
theorem kw_152 : mm_cw kt_152 := rfl
set_option maxRecDepth 100000 in
theorem kq_153 : mm_qok (kt_153, kb_153, kl_153) = true := by decide +kernel
theorem kw_153 : mm_cw kt_153 := rfl
set_option maxRecDepth 100000 in
theorem kq_154 : mm_qok (kt_154, kb_154, kl_154) = true := by decide +kernel
theorem kw_154 : mm_cw kt_154 := rfl
set_option maxRecDepth 100000 in
theorem kq_155 : mm_qok (kt_155, kb_155, kl_155) = true := by decide +kernel
theorem kw_155 : mm_cw kt_155 := rfl
set_option maxRecDepth 100000 in
theorem kq_156 : mm_qok (kt_156, kb_156, kl_156) = true := by decide +kernel
theorem kw_156 : mm_cw kt_156 := rfl
set_option maxRecDepth 100000 in
theorem kq_157 : mm_qok (kt_157, kb_157, kl_157) = true := by decide +kernel
theorem kw_157 : mm_cw kt_157 := rfl
set_option maxRecDepth 100000 in
theorem kq_158 : mm_qok (kt_158, kb_158, kl_158) = true := by decide +kernel
theorem kw_158 : mm_cw kt_158 := rfl
set_option maxRecDepth 100000 in
theorem kq_159 : mm_qok (kt_159, kb_159, kl_159) = true := by decide +kernel
theorem kw_159 : mm_cw kt_159 := rfl
set_option maxRecDepth 100000 in
theorem kq_160 : mm_qok (kt_160, kb_160, kl_160) = true := by decide +kernel
theorem kw_160 : mm_cw kt_160 := rfl
set_option maxRecDepth 100000 in
theorem kq_161 : mm_qok (kt_161, kb_161, kl_161) = true := by decide +kernel
theorem kw_161 : mm_cw kt_161 := rfl
set_option maxRecDepth 100000 in
theorem kq_162 : mm_qok (kt_162, kb_162, kl_162) = true := by decide +kernel
theorem kw_162 : mm_cw kt_162 := rfl
set_option maxRecDepth 100000 in
theorem kq_163 : mm_qok (kt_163, kb_163, kl_163) = true := by decide +kernel
theorem kw_163 : mm_cw kt_163 := rfl
set_option maxRecDepth 100000 in
theorem kq_164 : mm_qok (kt_164, kb_164, kl_164) = true := by decide +kernel
theorem kw_164 : mm_cw kt_164 := rfl
set_option maxRecDepth 100000 in
theorem kq_165 : mm_qok (kt_165, kb_165, kl_165) = true := by decide +kernel
theorem kw_165 : mm_cw kt_165 := rfl
set_option maxRecDepth 100000 in
theorem kq_166 : mm_qok (kt_166, kb_166, kl_166) = true := by decide +kernel
theorem kw_166 : mm_cw kt_166 := rfl
set_option maxRecDepth 100000 in
theorem kq_167 : mm_qok (kt_167, kb_167, kl_167) = true := by decide +kernel
theorem kw_167 : mm_cw kt_167 := rfl
set_option maxRecDepth 100000 in
theorem kq_168 : mm_qok (kt_168, kb_168, kl_168) = true := by decide +kernel
theorem kw_168 : mm_cw kt_168 := rfl
set_option maxRecDepth 100000 in
theorem kq_169 : mm_qok (kt_169, kb_169, kl_169) = true := by decide +kernel
theorem kw_169 : mm_cw kt_169 := rfl
set_option maxRecDepth 100000 in
theorem kq_170 : mm_qok (kt_170, kb_170, kl_170) = true := by decide +kernel
theorem kw_170 : mm_cw kt_170 := rfl
set_option maxRecDepth 100000 in
theorem kq_171 : mm_qok (kt_171, kb_171, kl_171) = true := by decide +kernel
theorem kw_171 : mm_cw kt_171 := rfl
set_option maxRecDepth 100000 in
theorem kq_172 : mm_qok (kt_172, kb_172, kl_172) = true := by decide +kernel
theorem kw_172 : mm_cw kt_172 := rfl
set_option maxRecDepth 100000 in
theorem kq_173 : mm_qok (kt_173, kb_173, kl_173) = true := by decide +kernel
theorem kw_173 : mm_cw kt_173 := rfl
set_option maxRecDepth 100000 in
theorem kq_174 : mm_qok (kt_174, kb_174, kl_174) = true := by decide +kernel
theorem kw_174 : mm_cw kt_174 := rfl
set_option maxRecDepth 100000 in
theorem kq_175 : mm_qok (kt_175, kb_175, kl_175) = true := by decide +kernel
theorem kw_175 : mm_cw kt_175 := rfl
set_option maxRecDepth 100000 in
theorem kq_176 : mm_qok (kt_176, kb_176, kl_176) = true := by decide +kernel
theorem kw_176 : mm_cw kt_176 := rfl
set_option maxRecDepth 100000 in
theorem kq_177 : mm_qok (kt_177, kb_177, kl_177) = true := by decide +kernel
theorem kw_177 : mm_cw kt_177 := rfl
set_option maxRecDepth 100000 in
theorem kq_178 : mm_qok (kt_178, kb_178, kl_178) = true := by decide +kernel
theorem kw_178 : mm_cw kt_178 := rfl
set_option maxRecDepth 100000 in
theorem kq_179 : mm_qok (kt_179, kb_179, kl_179) = true := by decide +kernel
theorem kw_179 : mm_cw kt_179 := rfl
set_option maxRecDepth 100000 in
theorem kp_180_0 : mm_chk mm_tbl "FenceSidesModel" "count" (some .int) prog_14_method_126_code (fun z => (kl_180[z]?).getD 0) 0 kb_180_0 = true := by decide +kernel
set_option maxRecDepth 100000 in
theorem kp_180_1 : mm_chk mm_tbl "FenceSidesModel" "count" (some .int) prog_14_method_126_code (fun z => (kl_180[z]?).getD 0) 92 kb_180_1 = true := by decide +kernel
set_option maxRecDepth 100000 in
theorem kp_180_2 : mm_chk mm_tbl "FenceSidesModel" "count" (some .int) prog_14_method_126_code (fun z => (kl_180[z]?).getD 0) 102 kb_180_2 = true := by decide +kernel
set_option maxRecDepth 100000 in
theorem kp_180_3 : mm_chk mm_tbl "FenceSidesModel" "count" (some .int) prog_14_method_126_code (fun z => (kl_180[z]?).getD 0) 112 kb_180_3 = true := by decide +kernel
set_option maxRecDepth 100000 in
theorem kp_180_4 : mm_chk mm_tbl "FenceSidesModel" "count" (some .int) prog_14_method_126_code (fun z => (kl_180[z]?).getD 0) 122 kb_180_4 = true := by decide +kernel
set_option maxRecDepth 100000 in
theorem kp_180_5 : mm_chk mm_tbl "FenceSidesModel" "count" (some .int) prog_14_method_126_code (fun z => (kl_180[z]?).getD 0) 130 kb_180_5 = true := by decide +kernel
set_option maxRecDepth 100000 in
theorem kp_180_6 : mm_chk mm_tbl "FenceSidesModel" "count" (some .int) prog_14_method_126_code (fun z => (kl_180[z]?).getD 0) 135 kb_180_6 = true := by decide +kernel
set_option maxRecDepth 100000 in
theorem kp_180_7 : mm_chk mm_tbl "FenceSidesModel" "count" (some .int) prog_14_method_126_code (fun z => (kl_180[z]?).getD 0) 137 kb_180_7 = true := by decide +kernel
set_option maxRecDepth 100000 in
theorem kp_180_8 : mm_chk mm_tbl "FenceSidesModel" "count" (some .int) prog_14_method_126_code (fun z => (kl_180[z]?).getD 0) 150 kb_180_8 = true := by decide +kernel
set_option maxRecDepth 100000 in
theorem kp_180_9 : mm_chk mm_tbl "FenceSidesModel" "count" (some .int) prog_14_method_126_code (fun z => (kl_180[z]?).getD 0) 158 kb_180_9 = true := by decide +kernel
set_option maxRecDepth 100000 in
theorem kp_180_10 : mm_chk mm_tbl "FenceSidesModel" "count" (some .int) prog_14_method_126_code (fun z => (kl_180[z]?).getD 0) 164 kb_180_10 = true := by decide +kernel
set_option maxRecDepth 100000 in
theorem kp_180_11 : mm_chk mm_tbl "FenceSidesModel" "count" (some .int) prog_14_method_126_code (fun z => (kl_180[z]?).getD 0) 170 kb_180_11 = true := by decide +kernel
set_option maxRecDepth 100000 in
theorem kp_180_12 : mm_chk mm_tbl "FenceSidesModel" "count" (some .int) prog_14_method_126_code (fun z => (kl_180[z]?).getD 0) 172 kb_180_12 = true := by decide +kernel
set_option maxRecDepth 100000 in
theorem kp_180_13 : mm_chk mm_tbl "FenceSidesModel" "count" (some .int) prog_14_method_126_code (fun z => (kl_180[z]?).getD 0) 174 kb_180_13 = true := by decide +kernel
set_option maxRecDepth 100000 in
theorem kp_180_14 : mm_chk mm_tbl "FenceSidesModel" "count" (some .int) prog_14_method_126_code (fun z => (kl_180[z]?).getD 0) 187 kb_180_14 = true := by decide +kernel
set_option maxRecDepth 100000 in
theorem kp_180_15 : mm_chk mm_tbl "FenceSidesModel" "count" (some .int) prog_14_method_126_code (fun z => (kl_180[z]?).getD 0) 207 kb_180_15 = true := by decide +kernel
set_option maxRecDepth 100000 in
theorem kp_180_16 : mm_chk mm_tbl "FenceSidesModel" "count" (some .int) prog_14_method_126_code (fun z => (kl_180[z]?).getD 0) 209 kb_180_16 = true := by decide +kernel
set_option maxRecDepth 100000 in
theorem kp_180_17 : mm_chk mm_tbl "FenceSidesModel" "count" (some .int) prog_14_method_126_code (fun z => (kl_180[z]?).getD 0) 211 kb_180_17 = true := by decide +kernel
set_option maxRecDepth 100000 in
theorem kp_180_18 : mm_chk mm_tbl "FenceSidesModel" "count" (some .int) prog_14_method_126_code (fun z => (kl_180[z]?).getD 0) 224 kb_180_18 = true := by decide +kernel
set_option maxRecDepth 100000 in
theorem kp_180_19 : mm_chk mm_tbl "FenceSidesModel" "count" (some .int) prog_14_method_126_code (fun z => (kl_180[z]?).getD 0) 237 kb_180_19 = true := by decide +kernel
set_option maxRecDepth 100000 in
theorem kp_180_20 : mm_chk mm_tbl "FenceSidesModel" "count" (some .int) prog_14_method_126_code (fun z => (kl_180[z]?).getD 0) 241 kb_180_20 = true := by decide +kernel
set_option maxRecDepth 100000 in
theorem kp_180_21 : mm_chk mm_tbl "FenceSidesModel" "count" (some .int) prog_14_method_126_code (fun z => (kl_180[z]?).getD 0) 242 kb_180_21 = true := by decide +kernel
set_option maxRecDepth 100000 in
theorem kp_180_22 : mm_chk mm_tbl "FenceSidesModel" "count" (some .int) prog_14_method_126_code (fun z => (kl_180[z]?).getD 0) 254 kb_180_22 = true := by decide +kernel
set_option maxRecDepth 100000 in
theorem kp_180_23 : mm_chk mm_tbl "FenceSidesModel" "count" (some .int) prog_14_method_126_code (fun z => (kl_180[z]?).getD 0) 258 kb_180_23 = true := by decide +kernel
set_option maxRecDepth 100000 in
theorem kp_180_24 : mm_chk mm_tbl "FenceSidesModel" "count" (some .int) prog_14_method_126_code (fun z => (kl_180[z]?).getD 0) 259 kb_180_24 = true := by decide +kernel
set_option maxRecDepth 100000 in
theorem kp_180_25 : mm_chk mm_tbl "FenceSidesModel" "count" (some .int) prog_14_method_126_code (fun z => (kl_180[z]?).getD 0) 268 kb_180_25 = true := by decide +kernel
set_option maxRecDepth 100000 in
theorem kp_180_26 : mm_chk mm_tbl "FenceSidesModel" "count" (some .int) prog_14_method_126_code (fun z => (kl_180[z]?).getD 0) 270 kb_180_26 = true := by decide +kernel
set_option maxRecDepth 100000 in
theorem kp_180_27 : mm_chk mm_tbl "FenceSidesModel" "count" (some .int) prog_14_method_126_code (fun z => (kl_180[z]?).getD 0) 275 kb_180_27 = true := by decide +kernel
set_option maxRecDepth 100000 in
theorem kp_180_28 : mm_chk mm_tbl "FenceSidesModel" "count" (some .int) prog_14_method_126_code (fun z => (kl_180[z]?).getD 0) 280 kb_180_28 = true := by decide +kernel
set_option maxRecDepth 100000 in
theorem kp_180_29 : mm_chk mm_tbl "FenceSidesModel" "count" (some .int) prog_14_method_126_code (fun z => (kl_180[z]?).getD 0) 285 kb_180_29 = true := by decide +kernel
set_option maxRecDepth 100000 in
theorem kp_180_30 : mm_chk mm_tbl "FenceSidesModel" "count" (some .int) prog_14_method_126_code (fun z => (kl_180[z]?).getD 0) 294 kb_180_30 = true := by decide +kernel
set_option maxRecDepth 100000 in
theorem kp_180_31 : mm_chk mm_tbl "FenceSidesModel" "count" (some .int) prog_14_method_126_code (fun z => (kl_180[z]?).getD 0) 298 kb_180_31 = true := by decide +kernel
set_option maxRecDepth 100000 in
theorem kp_180_32 : mm_chk mm_tbl "FenceSidesModel" "count" (some .int) prog_14_method_126_code (fun z => (kl_180[z]?).getD 0) 299 kb_180_32 = true := by decide +kernel
set_option maxRecDepth 100000 in
theorem kp_180_33 : mm_chk mm_tbl "FenceSidesModel" "count" (some .int) prog_14_method_126_code (fun z => (kl_180[z]?).getD 0) 308 kb_180_33 = true := by decide +kernel
set_option maxRecDepth 100000 in
theorem kp_180_34 : mm_chk mm_tbl "FenceSidesModel" "count" (some .int) prog_14_method_126_code (fun z => (kl_180[z]?).getD 0) 312 kb_180_34 = true := by decide +kernel
set_option maxRecDepth 100000 in
theorem kp_180_35 : mm_chk mm_tbl "FenceSidesModel" "count" (some .int) prog_14_method_126_code (fun z => (kl_180[z]?).getD 0) 313 kb_180_35 = true := by decide +kernel
set_option maxRecDepth 100000 in
theorem kp_180_36 : mm_chk mm_tbl "FenceSidesModel" "count" (some .int) prog_14_method_126_code (fun z => (kl_180[z]?).getD 0) 323 kb_180_36 = true := by decide +kernel
set_option maxRecDepth 100000 in
theorem kp_180_37 : mm_chk mm_tbl "FenceSidesModel" "count" (some .int) prog_14_method_126_code (fun z => (kl_180[z]?).getD 0) 327 kb_180_37 = true := by decide +kernel
set_option maxRecDepth 100000 in
theorem kp_180_38 : mm_chk mm_tbl "FenceSidesModel" "count" (some .int) prog_14_method_126_code (fun z => (kl_180[z]?).getD 0) 328 kb_180_38 = true := by decide +kernel
set_option maxRecDepth 100000 in
theorem kp_180_39 : mm_chk mm_tbl "FenceSidesModel" "count" (some .int) prog_14_method_126_code (fun z => (kl_180[z]?).getD 0) 330 kb_180_39 = true := by decide +kernel
set_option maxRecDepth 100000 in
theorem kp_180_40 : mm_chk mm_tbl "FenceSidesModel" "count" (some .int) prog_14_method_126_code (fun z => (kl_180[z]?).getD 0) 332 kb_180_40 = true := by decide +kernel
set_option maxRecDepth 100000 in
theorem kp_180_41 : mm_chk mm_tbl "FenceSidesModel" "count" (some .int) prog_14_method_126_code (fun z => (kl_180[z]?).getD 0) 345 kb_180_41 = true := by decide +kernel
set_option maxRecDepth 100000 in
theorem kp_180_42 : mm_chk mm_tbl "FenceSidesModel" "count" (some .int) prog_14_method_126_code (fun z => (kl_180[z]?).getD 0) 357 kb_180_42 = true := by decide +kernel
set_option maxRecDepth 100000 in
theorem kp_180_43 : mm_chk mm_tbl "FenceSidesModel" "count" (some .int) prog_14_method_126_code (fun z => (kl_180[z]?).getD 0) 369 kb_180_43 = true := by decide +kernel
set_option maxRecDepth 100000 in
theorem kp_180_44 : mm_chk mm_tbl "FenceSidesModel" "count" (some .int) prog_14_method_126_code (fun z => (kl_180[z]?).getD 0) 375 kb_180_44 = true := by decide +kernel
set_option maxRecDepth 100000 in
theorem kp_180_45 : mm_chk mm_tbl "FenceSidesModel" "count" (some .int) prog_14_method_126_code (fun z => (kl_180[z]?).getD 0) 377 kb_180_45 = true := by decide +kernel
set_option maxRecDepth 100000 in
theorem kp_180_46 : mm_chk mm_tbl "FenceSidesModel" "count" (some .int) prog_14_method_126_code (fun z => (kl_180[z]?).getD 0) 379 kb_180_46 = true := by decide +kernel
set_option maxRecDepth 100000 in
theorem kp_180_47 : mm_chk mm_tbl "FenceSidesModel" "count" (some .int) prog_14_method_126_code (fun z => (kl_180[z]?).getD 0) 392 kb_180_47 = true := by decide +kernel
set_option maxRecDepth 100000 in
theorem kp_180_48 : mm_chk mm_tbl "FenceSidesModel" "count" (some .int) prog_14_method_126_code (fun z => (kl_180[z]?).getD 0) 406 kb_180_48 = true := by decide +kernel
set_option maxRecDepth 100000 in
theorem kp_180_49 : mm_chk mm_tbl "FenceSidesModel" "count" (some .int) prog_14_method_126_code (fun z => (kl_180[z]?).getD 0) 408 kb_180_49 = true := by decide +kernel
set_option maxRecDepth 100000 in
theorem kp_180_50 : mm_chk mm_tbl "FenceSidesModel" "count" (some .int) prog_14_method_126_code (fun z => (kl_180[z]?).getD 0) 410 kb_180_50 = true := by decide +kernel
set_option maxRecDepth 100000 in
theorem kp_180_51 : mm_chk mm_tbl "FenceSidesModel" "count" (some .int) prog_14_method_126_code (fun z => (kl_180[z]?).getD 0) 423 kb_180_51 = true := by decide +kernel
set_option maxRecDepth 100000 in
theorem kp_180_52 : mm_chk mm_tbl "FenceSidesModel" "count" (some .int) prog_14_method_126_code (fun z => (kl_180[z]?).getD 0) 435 kb_180_52 = true := by decide +kernel
set_option maxRecDepth 100000 in
theorem kp_180_53 : mm_chk mm_tbl "FenceSidesModel" "count" (some .int) prog_14_method_126_code (fun z => (kl_180[z]?).getD 0) 441 kb_180_53 = true := by decide +kernel
set_option maxRecDepth 100000 in
theorem kp_180_54 : mm_chk mm_tbl "FenceSidesModel" "count" (some .int) prog_14_method_126_code (fun z => (kl_180[z]?).getD 0) 447 kb_180_54 = true := by decide +kernel
set_option maxRecDepth 100000 in
theorem kp_180_55 : mm_chk mm_tbl "FenceSidesModel" "count" (some .int) prog_14_method_126_code (fun z => (kl_180[z]?).getD 0) 449 kb_180_55 = true := by decide +kernel
set_option maxRecDepth 100000 in
theorem kp_180_56 : mm_chk mm_tbl "FenceSidesModel" "count" (some .int) prog_14_method_126_code (fun z => (kl_180[z]?).getD 0) 451 kb_180_56 = true := by decide +kernel
set_option maxRecDepth 100000 in
theorem kp_180_57 : mm_chk mm_tbl "FenceSidesModel" "count" (some .int) prog_14_method_126_code (fun z => (kl_180[z]?).getD 0) 464 kb_180_57 = true := by decide +kernel
set_option maxRecDepth 100000 in
theorem kp_180_58 : mm_chk mm_tbl "FenceSidesModel" "count" (some .int) prog_14_method_126_code (fun z => (kl_180[z]?).getD 0) 472 kb_180_58 = true := by decide +kernel
set_option maxRecDepth 100000 in
theorem kp_180_59 : mm_chk mm_tbl "FenceSidesModel" "count" (some .int) prog_14_method_126_code (fun z => (kl_180[z]?).getD 0) 484 kb_180_59 = true := by decide +kernel
set_option maxRecDepth 100000 in
theorem kp_180_60 : mm_chk mm_tbl "FenceSidesModel" "count" (some .int) prog_14_method_126_code (fun z => (kl_180[z]?).getD 0) 490 kb_180_60 = true := by decide +kernel
set_option maxRecDepth 100000 in
theorem kp_180_61 : mm_chk mm_tbl "FenceSidesModel" "count" (some .int) prog_14_method_126_code (fun z => (kl_180[z]?).getD 0) 492 kb_180_61 = true := by decide +kernel
set_option maxRecDepth 100000 in
theorem kp_180_62 : mm_chk mm_tbl "FenceSidesModel" "count" (some .int) prog_14_method_126_code (fun z => (kl_180[z]?).getD 0) 500 kb_180_62 = true := by decide +kernel
set_option maxRecDepth 100000 in
theorem kp_180_63 : mm_chk mm_tbl "FenceSidesModel" "count" (some .int) prog_14_method_126_code (fun z => (kl_180[z]?).getD 0) 505 kb_180_63 = true := by decide +kernel
set_option maxRecDepth 100000 in
theorem kp_180_64 : mm_chk mm_tbl "FenceSidesModel" "count" (some .int) prog_14_method_126_code (fun z => (kl_180[z]?).getD 0) 92 kb_180_64 = true := by decide +kernel
set_option maxRecDepth 100000 in
theorem kp_180_65 : mm_chk mm_tbl "FenceSidesModel" "count" (some .int) prog_14_method_126_code (fun z => (kl_180[z]?).getD 0) 102 kb_180_65 = true := by decide +kernel
set_option maxRecDepth 100000 in
theorem kp_180_66 : mm_chk mm_tbl "FenceSidesModel" "count" (some .int) prog_14_method_126_code (fun z => (kl_180[z]?).getD 0) 112 kb_180_66 = true := by decide +kernel
set_option maxRecDepth 100000 in
theorem kp_180_67 : mm_chk mm_tbl "FenceSidesModel" "count" (some .int) prog_14_method_126_code (fun z => (kl_180[z]?).getD 0) 122 kb_180_67 = true := by decide +kernel
set_option maxRecDepth 100000 in
theorem kp_180_68 : mm_chk mm_tbl "FenceSidesModel" "count" (some .int) prog_14_method_126_code (fun z => (kl_180[z]?).getD 0) 130 kb_180_68 = true := by decide +kernel
set_option maxRecDepth 100000 in
theorem kp_180_69 : mm_chk mm_tbl "FenceSidesModel" "count" (some .int) prog_14_method_126_code (fun z => (kl_180[z]?).getD 0) 135 kb_180_69 = true := by decide +kernel
set_option maxRecDepth 100000 in
theorem kp_180_70 : mm_chk mm_tbl "FenceSidesModel" "count" (some .int) prog_14_method_126_code (fun z => (kl_180[z]?).getD 0) 172 kb_180_70 = true := by decide +kernel
set_option maxRecDepth 100000 in
theorem kp_180_71 : mm_chk mm_tbl "FenceSidesModel" "count" (some .int) prog_14_method_126_code (fun z => (kl_180[z]?).getD 0) 209 kb_180_71 = true := by decide +kernel
set_option maxRecDepth 100000 in
theorem kp_180_72 : mm_chk mm_tbl "FenceSidesModel" "count" (some .int) prog_14_method_126_code (fun z => (kl_180[z]?).getD 0) 270 kb_180_72 = true := by decide +kernel
set_option maxRecDepth 100000 in
theorem kp_180_73 : mm_chk mm_tbl "FenceSidesModel" "count" (some .int) prog_14_method_126_code (fun z => (kl_180[z]?).getD 0) 275 kb_180_73 = true := by decide +kernel
set_option maxRecDepth 100000 in
theorem kp_180_74 : mm_chk mm_tbl "FenceSidesModel" "count" (some .int) prog_14_method_126_code (fun z => (kl_180[z]?).getD 0) 280 kb_180_74 = true := by decide +kernel
set_option maxRecDepth 100000 in
theorem kp_180_75 : mm_chk mm_tbl "FenceSidesModel" "count" (some .int) prog_14_method_126_code (fun z => (kl_180[z]?).getD 0) 285 kb_180_75 = true := by decide +kernel
set_option maxRecDepth 100000 in
theorem kp_180_76 : mm_chk mm_tbl "FenceSidesModel" "count" (some .int) prog_14_method_126_code (fun z => (kl_180[z]?).getD 0) 330 kb_180_76 = true := by decide +kernel
set_option maxRecDepth 100000 in
theorem kp_180_77 : mm_chk mm_tbl "FenceSidesModel" "count" (some .int) prog_14_method_126_code (fun z => (kl_180[z]?).getD 0) 377 kb_180_77 = true := by decide +kernel
set_option maxRecDepth 100000 in
theorem kp_180_78 : mm_chk mm_tbl "FenceSidesModel" "count" (some .int) prog_14_method_126_code (fun z => (kl_180[z]?).getD 0) 408 kb_180_78 = true := by decide +kernel
set_option maxRecDepth 100000 in
theorem kp_180_79 : mm_chk mm_tbl "FenceSidesModel" "count" (some .int) prog_14_method_126_code (fun z => (kl_180[z]?).getD 0) 449 kb_180_79 = true := by decide +kernel
set_option maxRecDepth 100000 in
theorem kp_180_80 : mm_chk mm_tbl "FenceSidesModel" "count" (some .int) prog_14_method_126_code (fun z => (kl_180[z]?).getD 0) 492 kb_180_80 = true := by decide +kernel
set_option maxRecDepth 100000 in
theorem kp_180_81 : mm_chk mm_tbl "FenceSidesModel" "count" (some .int) prog_14_method_126_code (fun z => (kl_180[z]?).getD 0) 500 kb_180_81 = true := by decide +kernel
set_option maxRecDepth 100000 in
theorem kp_180_82 : mm_chk mm_tbl "FenceSidesModel" "count" (some .int) prog_14_method_126_code (fun z => (kl_180[z]?).getD 0) 505 kb_180_82 = true := by decide +kernel
set_option maxRecDepth 100000 in
theorem kq_180 : mm_qok (kt_180, kb_180, kl_180) = true := mm_qok_of (by decide +kernel) (by decide +kernel) rfl (by
  show ∀ bl ∈ List.range 83, _
  exact List.forall_mem_cons.mpr ⟨kp_180_0, List.forall_mem_cons.mpr ⟨kp_180_1, List.forall_mem_cons.mpr ⟨kp_180_2, List.forall_mem_cons.mpr ⟨kp_180_3, List.forall_mem_cons.mpr ⟨kp_180_4, List.forall_mem_cons.mpr ⟨kp_180_5, List.forall_mem_cons.mpr ⟨kp_180_6, List.forall_mem_cons.mpr ⟨kp_180_7, List.forall_mem_cons.mpr ⟨kp_180_8, List.forall_mem_cons.mpr ⟨kp_180_9, List.forall_mem_cons.mpr ⟨kp_180_10, List.forall_mem_cons.mpr ⟨kp_180_11, List.forall_mem_cons.mpr ⟨kp_180_12, List.forall_mem_cons.mpr ⟨kp_180_13, List.forall_mem_cons.mpr ⟨kp_180_14, List.forall_mem_cons.mpr ⟨kp_180_15, List.forall_mem_cons.mpr ⟨kp_180_16, List.forall_mem_cons.mpr ⟨kp_180_17, List.forall_mem_cons.mpr ⟨kp_180_18, List.forall_mem_cons.mpr ⟨kp_180_19, List.forall_mem_cons.mpr ⟨kp_180_20, List.forall_mem_cons.mpr ⟨kp_180_21, List.forall_mem_cons.mpr ⟨kp_180_22, List.forall_mem_cons.mpr ⟨kp_180_23, List.forall_mem_cons.mpr ⟨kp_180_24, List.forall_mem_cons.mpr ⟨kp_180_25, List.forall_mem_cons.mpr ⟨kp_180_26, List.forall_mem_cons.mpr ⟨kp_180_27, List.forall_mem_cons.mpr ⟨kp_180_28, List.forall_mem_cons.mpr ⟨kp_180_29, List.forall_mem_cons.mpr ⟨kp_180_30, List.forall_mem_cons.mpr ⟨kp_180_31, List.forall_mem_cons.mpr ⟨kp_180_32, List.forall_mem_cons.mpr ⟨kp_180_33, List.forall_mem_cons.mpr ⟨kp_180_34, List.forall_mem_cons.mpr ⟨kp_180_35, List.forall_mem_cons.mpr ⟨kp_180_36, List.forall_mem_cons.mpr ⟨kp_180_37, List.forall_mem_cons.mpr ⟨kp_180_38, List.forall_mem_cons.mpr ⟨kp_180_39, List.forall_mem_cons.mpr ⟨kp_180_40, List.forall_mem_cons.mpr ⟨kp_180_41, List.forall_mem_cons.mpr ⟨kp_180_42, List.forall_mem_cons.mpr ⟨kp_180_43, List.forall_mem_cons.mpr ⟨kp_180_44, List.forall_mem_cons.mpr ⟨kp_180_45, List.forall_mem_cons.mpr ⟨kp_180_46, List.forall_mem_cons.mpr ⟨kp_180_47, List.forall_mem_cons.mpr ⟨kp_180_48, List.forall_mem_cons.mpr ⟨kp_180_49, List.forall_mem_cons.mpr ⟨kp_180_50, List.forall_mem_cons.mpr ⟨kp_180_51, List.forall_mem_cons.mpr ⟨kp_180_52, List.forall_mem_cons.mpr ⟨kp_180_53, List.forall_mem_cons.mpr ⟨kp_180_54, List.forall_mem_cons.mpr ⟨kp_180_55, List.forall_mem_cons.mpr ⟨kp_180_56, List.forall_mem_cons.mpr ⟨kp_180_57, List.forall_mem_cons.mpr ⟨kp_180_58, List.forall_mem_cons.mpr ⟨kp_180_59, List.forall_mem_cons.mpr ⟨kp_180_60, List.forall_mem_cons.mpr ⟨kp_180_61, List.forall_mem_cons.mpr ⟨kp_180_62, List.forall_mem_cons.mpr ⟨kp_180_63, List.forall_mem_cons.mpr ⟨kp_180_64, List.forall_mem_cons.mpr ⟨kp_180_65, List.forall_mem_cons.mpr ⟨kp_180_66, List.forall_mem_cons.mpr ⟨kp_180_67, List.forall_mem_cons.mpr ⟨kp_180_68, List.forall_mem_cons.mpr ⟨kp_180_69, List.forall_mem_cons.mpr ⟨kp_180_70, List.forall_mem_cons.mpr ⟨kp_180_71, List.forall_mem_cons.mpr ⟨kp_180_72, List.forall_mem_cons.mpr ⟨kp_180_73, List.forall_mem_cons.mpr ⟨kp_180_74, List.forall_mem_cons.mpr ⟨kp_180_75, List.forall_mem_cons.mpr ⟨kp_180_76, List.forall_mem_cons.mpr ⟨kp_180_77, List.forall_mem_cons.mpr ⟨kp_180_78, List.forall_mem_cons.mpr ⟨kp_180_79, List.forall_mem_cons.mpr ⟨kp_180_80, List.forall_mem_cons.mpr ⟨kp_180_81, List.forall_mem_cons.mpr ⟨kp_180_82, fun _ h => absurd h List.not_mem_nil⟩⟩⟩⟩⟩⟩⟩⟩⟩⟩⟩⟩⟩⟩⟩⟩⟩⟩⟩⟩⟩⟩⟩⟩⟩⟩⟩⟩⟩⟩⟩⟩⟩⟩⟩⟩⟩⟩⟩⟩⟩⟩⟩⟩⟩⟩⟩⟩⟩⟩⟩⟩⟩⟩⟩⟩⟩⟩⟩⟩⟩⟩⟩⟩⟩⟩⟩⟩⟩⟩⟩⟩⟩⟩⟩⟩⟩⟩⟩⟩⟩⟩⟩)
theorem kw_180 : mm_cw kt_180 := rfl
