/-! ===== checks: by program ===== -/
set_option maxRecDepth 100000 in
theorem kq_181 : mm_qok (kt_181, kb_181, kl_181) = true := by decide +kernel
theorem kw_181 : mm_cw kt_181 := rfl
set_option maxRecDepth 100000 in
theorem kq_182 : mm_qok (kt_182, kb_182, kl_182) = true := by decide +kernel
theorem kw_182 : mm_cw kt_182 := rfl
set_option maxRecDepth 100000 in
theorem kq_183 : mm_qok (kt_183, kb_183, kl_183) = true := by decide +kernel
theorem kw_183 : mm_cw kt_183 := rfl
set_option maxRecDepth 100000 in
theorem kq_184 : mm_qok (kt_184, kb_184, kl_184) = true := by decide +kernel
theorem kw_184 : mm_cw kt_184 := rfl
set_option maxRecDepth 100000 in
theorem kq_185 : mm_qok (kt_185, kb_185, kl_185) = true := by decide +kernel
theorem kw_185 : mm_cw kt_185 := rfl
set_option maxRecDepth 100000 in
theorem kq_186 : mm_qok (kt_186, kb_186, kl_186) = true := by decide +kernel
theorem kw_186 : mm_cw kt_186 := rfl
set_option maxRecDepth 100000 in
theorem kq_187 : mm_qok (kt_187, kb_187, kl_187) = true := by decide +kernel
theorem kw_187 : mm_cw kt_187 := rfl
set_option maxRecDepth 100000 in
theorem kq_188 : mm_qok (kt_188, kb_188, kl_188) = true := by decide +kernel
theorem kw_188 : mm_cw kt_188 := rfl
set_option maxRecDepth 100000 in
theorem kq_189 : mm_qok (kt_189, kb_189, kl_189) = true := by decide +kernel
theorem kw_189 : mm_cw kt_189 := rfl
set_option maxRecDepth 100000 in
theorem kq_190 : mm_qok (kt_190, kb_190, kl_190) = true := by decide +kernel
theorem kw_190 : mm_cw kt_190 := rfl
set_option maxRecDepth 100000 in
theorem kq_191 : mm_qok (kt_191, kb_191, kl_191) = true := by decide +kernel
theorem kw_191 : mm_cw kt_191 := rfl
set_option maxRecDepth 100000 in
theorem kp_192_0 : mm_chk mm_tbl "FenceSides$Laws" "valueOf" (some .int) prog_3_method_8_code (fun z => (kl_192[z]?).getD 0) 0 kb_192_0 = true := by decide +kernel
set_option maxRecDepth 100000 in
theorem kp_192_1 : mm_chk mm_tbl "FenceSides$Laws" "valueOf" (some .int) prog_3_method_8_code (fun z => (kl_192[z]?).getD 0) 11 kb_192_1 = true := by decide +kernel
set_option maxRecDepth 100000 in
theorem kp_192_2 : mm_chk mm_tbl "FenceSides$Laws" "valueOf" (some .int) prog_3_method_8_code (fun z => (kl_192[z]?).getD 0) 22 kb_192_2 = true := by decide +kernel
set_option maxRecDepth 100000 in
theorem kp_192_3 : mm_chk mm_tbl "FenceSides$Laws" "valueOf" (some .int) prog_3_method_8_code (fun z => (kl_192[z]?).getD 0) 37 kb_192_3 = true := by decide +kernel
set_option maxRecDepth 100000 in
theorem kp_192_4 : mm_chk mm_tbl "FenceSides$Laws" "valueOf" (some .int) prog_3_method_8_code (fun z => (kl_192[z]?).getD 0) 44 kb_192_4 = true := by decide +kernel
set_option maxRecDepth 100000 in
theorem kp_192_5 : mm_chk mm_tbl "FenceSides$Laws" "valueOf" (some .int) prog_3_method_8_code (fun z => (kl_192[z]?).getD 0) 46 kb_192_5 = true := by decide +kernel
set_option maxRecDepth 100000 in
theorem kp_192_6 : mm_chk mm_tbl "FenceSides$Laws" "valueOf" (some .int) prog_3_method_8_code (fun z => (kl_192[z]?).getD 0) 54 kb_192_6 = true := by decide +kernel
set_option maxRecDepth 100000 in
theorem kp_192_7 : mm_chk mm_tbl "FenceSides$Laws" "valueOf" (some .int) prog_3_method_8_code (fun z => (kl_192[z]?).getD 0) 64 kb_192_7 = true := by decide +kernel
set_option maxRecDepth 100000 in
theorem kp_192_8 : mm_chk mm_tbl "FenceSides$Laws" "valueOf" (some .int) prog_3_method_8_code (fun z => (kl_192[z]?).getD 0) 73 kb_192_8 = true := by decide +kernel
set_option maxRecDepth 100000 in
theorem kp_192_9 : mm_chk mm_tbl "FenceSides$Laws" "valueOf" (some .int) prog_3_method_8_code (fun z => (kl_192[z]?).getD 0) 80 kb_192_9 = true := by decide +kernel
set_option maxRecDepth 100000 in
theorem kp_192_10 : mm_chk mm_tbl "FenceSides$Laws" "valueOf" (some .int) prog_3_method_8_code (fun z => (kl_192[z]?).getD 0) 87 kb_192_10 = true := by decide +kernel
set_option maxRecDepth 100000 in
theorem kp_192_11 : mm_chk mm_tbl "FenceSides$Laws" "valueOf" (some .int) prog_3_method_8_code (fun z => (kl_192[z]?).getD 0) 90 kb_192_11 = true := by decide +kernel
set_option maxRecDepth 100000 in
theorem kp_192_12 : mm_chk mm_tbl "FenceSides$Laws" "valueOf" (some .int) prog_3_method_8_code (fun z => (kl_192[z]?).getD 0) 96 kb_192_12 = true := by decide +kernel
set_option maxRecDepth 100000 in
theorem kp_192_13 : mm_chk mm_tbl "FenceSides$Laws" "valueOf" (some .int) prog_3_method_8_code (fun z => (kl_192[z]?).getD 0) 98 kb_192_13 = true := by decide +kernel
set_option maxRecDepth 100000 in
theorem kp_192_14 : mm_chk mm_tbl "FenceSides$Laws" "valueOf" (some .int) prog_3_method_8_code (fun z => (kl_192[z]?).getD 0) 121 kb_192_14 = true := by decide +kernel
set_option maxRecDepth 100000 in
theorem kp_192_15 : mm_chk mm_tbl "FenceSides$Laws" "valueOf" (some .int) prog_3_method_8_code (fun z => (kl_192[z]?).getD 0) 131 kb_192_15 = true := by decide +kernel
set_option maxRecDepth 100000 in
theorem kp_192_16 : mm_chk mm_tbl "FenceSides$Laws" "valueOf" (some .int) prog_3_method_8_code (fun z => (kl_192[z]?).getD 0) 136 kb_192_16 = true := by decide +kernel
set_option maxRecDepth 100000 in
theorem kp_192_17 : mm_chk mm_tbl "FenceSides$Laws" "valueOf" (some .int) prog_3_method_8_code (fun z => (kl_192[z]?).getD 0) 150 kb_192_17 = true := by decide +kernel
set_option maxRecDepth 100000 in
theorem kp_192_18 : mm_chk mm_tbl "FenceSides$Laws" "valueOf" (some .int) prog_3_method_8_code (fun z => (kl_192[z]?).getD 0) 155 kb_192_18 = true := by decide +kernel
set_option maxRecDepth 100000 in
theorem kp_192_19 : mm_chk mm_tbl "FenceSides$Laws" "valueOf" (some .int) prog_3_method_8_code (fun z => (kl_192[z]?).getD 0) 161 kb_192_19 = true := by decide +kernel
set_option maxRecDepth 100000 in
theorem kp_192_20 : mm_chk mm_tbl "FenceSides$Laws" "valueOf" (some .int) prog_3_method_8_code (fun z => (kl_192[z]?).getD 0) 166 kb_192_20 = true := by decide +kernel
set_option maxRecDepth 100000 in
theorem kp_192_21 : mm_chk mm_tbl "FenceSides$Laws" "valueOf" (some .int) prog_3_method_8_code (fun z => (kl_192[z]?).getD 0) 168 kb_192_21 = true := by decide +kernel
set_option maxRecDepth 100000 in
theorem kp_192_22 : mm_chk mm_tbl "FenceSides$Laws" "valueOf" (some .int) prog_3_method_8_code (fun z => (kl_192[z]?).getD 0) 186 kb_192_22 = true := by decide +kernel
set_option maxRecDepth 100000 in
theorem kp_192_23 : mm_chk mm_tbl "FenceSides$Laws" "valueOf" (some .int) prog_3_method_8_code (fun z => (kl_192[z]?).getD 0) 192 kb_192_23 = true := by decide +kernel
set_option maxRecDepth 100000 in
theorem kp_192_24 : mm_chk mm_tbl "FenceSides$Laws" "valueOf" (some .int) prog_3_method_8_code (fun z => (kl_192[z]?).getD 0) 197 kb_192_24 = true := by decide +kernel
set_option maxRecDepth 100000 in
theorem kp_192_25 : mm_chk mm_tbl "FenceSides$Laws" "valueOf" (some .int) prog_3_method_8_code (fun z => (kl_192[z]?).getD 0) 206 kb_192_25 = true := by decide +kernel
set_option maxRecDepth 100000 in
theorem kp_192_26 : mm_chk mm_tbl "FenceSides$Laws" "valueOf" (some .int) prog_3_method_8_code (fun z => (kl_192[z]?).getD 0) 207 kb_192_26 = true := by decide +kernel
set_option maxRecDepth 100000 in
theorem kq_192 : mm_qok (kt_192, kb_192, kl_192) = true := mm_qok_of (by decide +kernel) (by decide +kernel) rfl (by
  show ∀ bl ∈ List.range 27, _
  exact List.forall_mem_cons.mpr ⟨kp_192_0, List.forall_mem_cons.mpr ⟨kp_192_1, List.forall_mem_cons.mpr ⟨kp_192_2, List.forall_mem_cons.mpr ⟨kp_192_3, List.forall_mem_cons.mpr ⟨kp_192_4, List.forall_mem_cons.mpr ⟨kp_192_5, List.forall_mem_cons.mpr ⟨kp_192_6, List.forall_mem_cons.mpr ⟨kp_192_7, List.forall_mem_cons.mpr ⟨kp_192_8, List.forall_mem_cons.mpr ⟨kp_192_9, List.forall_mem_cons.mpr ⟨kp_192_10, List.forall_mem_cons.mpr ⟨kp_192_11, List.forall_mem_cons.mpr ⟨kp_192_12, List.forall_mem_cons.mpr ⟨kp_192_13, List.forall_mem_cons.mpr ⟨kp_192_14, List.forall_mem_cons.mpr ⟨kp_192_15, List.forall_mem_cons.mpr ⟨kp_192_16, List.forall_mem_cons.mpr ⟨kp_192_17, List.forall_mem_cons.mpr ⟨kp_192_18, List.forall_mem_cons.mpr ⟨kp_192_19, List.forall_mem_cons.mpr ⟨kp_192_20, List.forall_mem_cons.mpr ⟨kp_192_21, List.forall_mem_cons.mpr ⟨kp_192_22, List.forall_mem_cons.mpr ⟨kp_192_23, List.forall_mem_cons.mpr ⟨kp_192_24, List.forall_mem_cons.mpr ⟨kp_192_25, List.forall_mem_cons.mpr ⟨kp_192_26, fun _ h => absurd h List.not_mem_nil⟩⟩⟩⟩⟩⟩⟩⟩⟩⟩⟩⟩⟩⟩⟩⟩⟩⟩⟩⟩⟩⟩⟩⟩⟩⟩⟩)
theorem kw_192 : mm_cw kt_192 := rfl
set_option maxRecDepth 100000 in
theorem kq_193 : mm_qok (kt_193, kb_193, kl_193) = true := by decide +kernel
theorem kw_193 : mm_cw kt_193 := rfl
set_option maxRecDepth 100000 in
theorem kq_194 : mm_qok (kt_194, kb_194, kl_194) = true := by decide +kernel
theorem kw_194 : mm_cw kt_194 := rfl
set_option maxRecDepth 100000 in
theorem kq_195 : mm_qok (kt_195, kb_195, kl_195) = true := by decide +kernel
theorem kw_195 : mm_cw kt_195 := rfl
set_option maxRecDepth 100000 in
theorem kq_196 : mm_qok (kt_196, kb_196, kl_196) = true := by decide +kernel
theorem kw_196 : mm_cw kt_196 := rfl
set_option maxRecDepth 100000 in
theorem kq_197 : mm_qok (kt_197, kb_197, kl_197) = true := by decide +kernel
theorem kw_197 : mm_cw kt_197 := rfl
set_option maxRecDepth 100000 in
theorem kq_198 : mm_qok (kt_198, kb_198, kl_198) = true := by decide +kernel
theorem kw_198 : mm_cw kt_198 := rfl
set_option maxRecDepth 100000 in
theorem kq_199 : mm_qok (kt_199, kb_199, kl_199) = true := by decide +kernel
theorem kw_199 : mm_cw kt_199 := rfl
set_option maxRecDepth 100000 in
theorem kq_200 : mm_qok (kt_200, kb_200, kl_200) = true := by decide +kernel
theorem kw_200 : mm_cw kt_200 := rfl
set_option maxRecDepth 100000 in
theorem kq_201 : mm_qok (kt_201, kb_201, kl_201) = true := by decide +kernel
theorem kw_201 : mm_cw kt_201 := rfl
set_option maxRecDepth 100000 in
theorem kq_202 : mm_qok (kt_202, kb_202, kl_202) = true := by decide +kernel
theorem kw_202 : mm_cw kt_202 := rfl
set_option maxRecDepth 100000 in
theorem kq_203 : mm_qok (kt_203, kb_203, kl_203) = true := by decide +kernel
theorem kw_203 : mm_cw kt_203 := rfl
set_option maxRecDepth 100000 in
theorem kq_204 : mm_qok (kt_204, kb_204, kl_204) = true := by decide +kernel
theorem kw_204 : mm_cw kt_204 := rfl
set_option maxRecDepth 100000 in
theorem kq_205 : mm_qok (kt_205, kb_205, kl_205) = true := by decide +kernel
theorem kw_205 : mm_cw kt_205 := rfl
set_option maxRecDepth 100000 in
theorem kq_206 : mm_qok (kt_206, kb_206, kl_206) = true := by decide +kernel
theorem kw_206 : mm_cw kt_206 := rfl
set_option maxRecDepth 100000 in
theorem kq_207 : mm_qok (kt_207, kb_207, kl_207) = true := by decide +kernel
theorem kw_207 : mm_cw kt_207 := rfl
set_option maxRecDepth 100000 in
theorem kq_208 : mm_qok (kt_208, kb_208, kl_208) = true := by decide +kernel
theorem kw_208 : mm_cw kt_208 := rfl
set_option maxRecDepth 100000 in
theorem kq_209 : mm_qok (kt_209, kb_209, kl_209) = true := by decide +kernel
theorem kw_209 : mm_cw kt_209 := rfl
set_option maxRecDepth 100000 in
theorem kq_210 : mm_qok (kt_210, kb_210, kl_210) = true := by decide +kernel
theorem kw_210 : mm_cw kt_210 := rfl
set_option maxRecDepth 100000 in
theorem kp_211_0 : mm_chk mm_tbl "FenceSides$Reader" "readHedge" (some .boolean) prog_6_method_5_code (fun z => (kl_211[z]?).getD 0) 0 kb_211_0 = true := by decide +kernel
set_option maxRecDepth 100000 in
theorem kp_211_1 : mm_chk mm_tbl "FenceSides$Reader" "readHedge" (some .boolean) prog_6_method_5_code (fun z => (kl_211[z]?).getD 0) 9 kb_211_1 = true := by decide +kernel
set_option maxRecDepth 100000 in
theorem kp_211_2 : mm_chk mm_tbl "FenceSides$Reader" "readHedge" (some .boolean) prog_6_method_5_code (fun z => (kl_211[z]?).getD 0) 15 kb_211_2 = true := by decide +kernel
set_option maxRecDepth 100000 in
theorem kp_211_3 : mm_chk mm_tbl "FenceSides$Reader" "readHedge" (some .boolean) prog_6_method_5_code (fun z => (kl_211[z]?).getD 0) 28 kb_211_3 = true := by decide +kernel
set_option maxRecDepth 100000 in
theorem kp_211_4 : mm_chk mm_tbl "FenceSides$Reader" "readHedge" (some .boolean) prog_6_method_5_code (fun z => (kl_211[z]?).getD 0) 36 kb_211_4 = true := by decide +kernel
set_option maxRecDepth 100000 in
theorem kp_211_5 : mm_chk mm_tbl "FenceSides$Reader" "readHedge" (some .boolean) prog_6_method_5_code (fun z => (kl_211[z]?).getD 0) 38 kb_211_5 = true := by decide +kernel
set_option maxRecDepth 100000 in
theorem kp_211_6 : mm_chk mm_tbl "FenceSides$Reader" "readHedge" (some .boolean) prog_6_method_5_code (fun z => (kl_211[z]?).getD 0) 69 kb_211_6 = true := by decide +kernel
set_option maxRecDepth 100000 in
theorem kp_211_7 : mm_chk mm_tbl "FenceSides$Reader" "readHedge" (some .boolean) prog_6_method_5_code (fun z => (kl_211[z]?).getD 0) 71 kb_211_7 = true := by decide +kernel
set_option maxRecDepth 100000 in
theorem kp_211_8 : mm_chk mm_tbl "FenceSides$Reader" "readHedge" (some .boolean) prog_6_method_5_code (fun z => (kl_211[z]?).getD 0) 92 kb_211_8 = true := by decide +kernel
set_option maxRecDepth 100000 in
theorem kp_211_9 : mm_chk mm_tbl "FenceSides$Reader" "readHedge" (some .boolean) prog_6_method_5_code (fun z => (kl_211[z]?).getD 0) 98 kb_211_9 = true := by decide +kernel
set_option maxRecDepth 100000 in
theorem kp_211_10 : mm_chk mm_tbl "FenceSides$Reader" "readHedge" (some .boolean) prog_6_method_5_code (fun z => (kl_211[z]?).getD 0) 106 kb_211_10 = true := by decide +kernel
set_option maxRecDepth 100000 in
theorem kp_211_11 : mm_chk mm_tbl "FenceSides$Reader" "readHedge" (some .boolean) prog_6_method_5_code (fun z => (kl_211[z]?).getD 0) 108 kb_211_11 = true := by decide +kernel
set_option maxRecDepth 100000 in
theorem kp_211_12 : mm_chk mm_tbl "FenceSides$Reader" "readHedge" (some .boolean) prog_6_method_5_code (fun z => (kl_211[z]?).getD 0) 133 kb_211_12 = true := by decide +kernel
set_option maxRecDepth 100000 in
theorem kp_211_13 : mm_chk mm_tbl "FenceSides$Reader" "readHedge" (some .boolean) prog_6_method_5_code (fun z => (kl_211[z]?).getD 0) 140 kb_211_13 = true := by decide +kernel
set_option maxRecDepth 100000 in
theorem kp_211_14 : mm_chk mm_tbl "FenceSides$Reader" "readHedge" (some .boolean) prog_6_method_5_code (fun z => (kl_211[z]?).getD 0) 142 kb_211_14 = true := by decide +kernel
set_option maxRecDepth 100000 in
theorem kq_211 : mm_qok (kt_211, kb_211, kl_211) = true := mm_qok_of (by decide +kernel) (by decide +kernel) rfl (by
  show ∀ bl ∈ List.range 15, _
  exact List.forall_mem_cons.mpr ⟨kp_211_0, List.forall_mem_cons.mpr ⟨kp_211_1, List.forall_mem_cons.mpr ⟨kp_211_2, List.forall_mem_cons.mpr ⟨kp_211_3, List.forall_mem_cons.mpr ⟨kp_211_4, List.forall_mem_cons.mpr ⟨kp_211_5, List.forall_mem_cons.mpr ⟨kp_211_6, List.forall_mem_cons.mpr ⟨kp_211_7, List.forall_mem_cons.mpr ⟨kp_211_8, List.forall_mem_cons.mpr ⟨kp_211_9, List.forall_mem_cons.mpr ⟨kp_211_10, List.forall_mem_cons.mpr ⟨kp_211_11, List.forall_mem_cons.mpr ⟨kp_211_12, List.forall_mem_cons.mpr ⟨kp_211_13, List.forall_mem_cons.mpr ⟨kp_211_14, fun _ h => absurd h List.not_mem_nil⟩⟩⟩⟩⟩⟩⟩⟩⟩⟩⟩⟩⟩⟩⟩)
theorem kw_211 : mm_cw kt_211 := rfl
set_option maxRecDepth 100000 in
theorem kq_212 : mm_qok (kt_212, kb_212, kl_212) = true := by decide +kernel
theorem kw_212 : mm_cw kt_212 := rfl
set_option maxRecDepth 100000 in
theorem kq_213 : mm_qok (kt_213, kb_213, kl_213) = true := by decide +kernel
theorem kw_213 : mm_cw kt_213 := rfl
set_option maxRecDepth 100000 in
theorem kq_214 : mm_qok (kt_214, kb_214, kl_214) = true := by decide +kernel
theorem kw_214 : mm_cw kt_214 := rfl
set_option maxRecDepth 100000 in
theorem kq_215 : mm_qok (kt_215, kb_215, kl_215) = true := by decide +kernel
theorem kw_215 : mm_cw kt_215 := rfl
set_option maxRecDepth 100000 in
theorem kq_216 : mm_qok (kt_216, kb_216, kl_216) = true := by decide +kernel
theorem kw_216 : mm_cw kt_216 := rfl
set_option maxRecDepth 100000 in
theorem kq_217 : mm_qok (kt_217, kb_217, kl_217) = true := by decide +kernel
theorem kw_217 : mm_cw kt_217 := rfl
set_option maxRecDepth 100000 in
theorem kq_218 : mm_qok (kt_218, kb_218, kl_218) = true := by decide +kernel
theorem kw_218 : mm_cw kt_218 := rfl
