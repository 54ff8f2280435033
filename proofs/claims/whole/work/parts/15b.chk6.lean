/-! ===== checks: by program ===== -/
set_option maxRecDepth 100000 in
theorem kq_219 : mm_qok (kt_219, kb_219, kl_219) = true := by decide +kernel
theorem kw_219 : mm_cw kt_219 := rfl
set_option maxRecDepth 100000 in
theorem kq_220 : mm_qok (kt_220, kb_220, kl_220) = true := by decide +kernel
theorem kw_220 : mm_cw kt_220 := rfl
set_option maxRecDepth 100000 in
theorem kq_221 : mm_qok (kt_221, kb_221, kl_221) = true := by decide +kernel
theorem kw_221 : mm_cw kt_221 := rfl
set_option maxRecDepth 100000 in
theorem kq_222 : mm_qok (kt_222, kb_222, kl_222) = true := by decide +kernel
theorem kw_222 : mm_cw kt_222 := rfl
set_option maxRecDepth 100000 in
theorem kq_223 : mm_qok (kt_223, kb_223, kl_223) = true := by decide +kernel
theorem kw_223 : mm_cw kt_223 := rfl
set_option maxRecDepth 100000 in
theorem kq_224 : mm_qok (kt_224, kb_224, kl_224) = true := by decide +kernel
theorem kw_224 : mm_cw kt_224 := rfl
set_option maxRecDepth 100000 in
theorem kq_225 : mm_qok (kt_225, kb_225, kl_225) = true := by decide +kernel
theorem kw_225 : mm_cw kt_225 := rfl
set_option maxRecDepth 100000 in
theorem kq_226 : mm_qok (kt_226, kb_226, kl_226) = true := by decide +kernel
theorem kw_226 : mm_cw kt_226 := rfl
set_option maxRecDepth 100000 in
theorem kq_227 : mm_qok (kt_227, kb_227, kl_227) = true := by decide +kernel
theorem kw_227 : mm_cw kt_227 := rfl
set_option maxRecDepth 100000 in
theorem kq_228 : mm_qok (kt_228, kb_228, kl_228) = true := by decide +kernel
theorem kw_228 : mm_cw kt_228 := rfl
set_option maxRecDepth 100000 in
theorem kq_229 : mm_qok (kt_229, kb_229, kl_229) = true := by decide +kernel
theorem kw_229 : mm_cw kt_229 := rfl
set_option maxRecDepth 100000 in
theorem kq_230 : mm_qok (kt_230, kb_230, kl_230) = true := by decide +kernel
theorem kw_230 : mm_cw kt_230 := rfl
set_option maxRecDepth 100000 in
theorem kq_231 : mm_qok (kt_231, kb_231, kl_231) = true := by decide +kernel
theorem kw_231 : mm_cw kt_231 := rfl
set_option maxRecDepth 100000 in
theorem kq_232 : mm_qok (kt_232, kb_232, kl_232) = true := by decide +kernel
theorem kw_232 : mm_cw kt_232 := rfl
set_option maxRecDepth 100000 in
theorem kq_233 : mm_qok (kt_233, kb_233, kl_233) = true := by decide +kernel
theorem kw_233 : mm_cw kt_233 := rfl
set_option maxRecDepth 100000 in
theorem kq_234 : mm_qok (kt_234, kb_234, kl_234) = true := by decide +kernel
theorem kw_234 : mm_cw kt_234 := rfl
set_option maxRecDepth 100000 in
theorem kq_235 : mm_qok (kt_235, kb_235, kl_235) = true := by decide +kernel
theorem kw_235 : mm_cw kt_235 := rfl
set_option maxRecDepth 100000 in
theorem kq_236 : mm_qok (kt_236, kb_236, kl_236) = true := by decide +kernel
theorem kw_236 : mm_cw kt_236 := rfl
set_option maxRecDepth 100000 in
theorem kq_237 : mm_qok (kt_237, kb_237, kl_237) = true := by decide +kernel
theorem kw_237 : mm_cw kt_237 := rfl
set_option maxRecDepth 100000 in
theorem kq_238 : mm_qok (kt_238, kb_238, kl_238) = true := by decide +kernel
theorem kw_238 : mm_cw kt_238 := rfl
set_option maxRecDepth 100000 in
theorem kq_239 : mm_qok (kt_239, kb_239, kl_239) = true := by decide +kernel
theorem kw_239 : mm_cw kt_239 := rfl
set_option maxRecDepth 100000 in
theorem kq_240 : mm_qok (kt_240, kb_240, kl_240) = true := by decide +kernel
theorem kw_240 : mm_cw kt_240 := rfl
set_option maxRecDepth 100000 in
theorem kq_241 : mm_qok (kt_241, kb_241, kl_241) = true := by decide +kernel
theorem kw_241 : mm_cw kt_241 := rfl
set_option maxRecDepth 100000 in
theorem kq_242 : mm_qok (kt_242, kb_242, kl_242) = true := by decide +kernel
theorem kw_242 : mm_cw kt_242 := rfl
set_option maxRecDepth 100000 in
theorem kp_243_0 : mm_chk mm_tbl "FenceSides$Seasons" "passOne" (none) prog_8_method_8_code (fun z => (kl_243[z]?).getD 0) 0 kb_243_0 = true := by decide +kernel
set_option maxRecDepth 100000 in
theorem kp_243_1 : mm_chk mm_tbl "FenceSides$Seasons" "passOne" (none) prog_8_method_8_code (fun z => (kl_243[z]?).getD 0) 5 kb_243_1 = true := by decide +kernel
set_option maxRecDepth 100000 in
theorem kp_243_2 : mm_chk mm_tbl "FenceSides$Seasons" "passOne" (none) prog_8_method_8_code (fun z => (kl_243[z]?).getD 0) 15 kb_243_2 = true := by decide +kernel
set_option maxRecDepth 100000 in
theorem kp_243_3 : mm_chk mm_tbl "FenceSides$Seasons" "passOne" (none) prog_8_method_8_code (fun z => (kl_243[z]?).getD 0) 16 kb_243_3 = true := by decide +kernel
set_option maxRecDepth 100000 in
theorem kp_243_4 : mm_chk mm_tbl "FenceSides$Seasons" "passOne" (none) prog_8_method_8_code (fun z => (kl_243[z]?).getD 0) 24 kb_243_4 = true := by decide +kernel
set_option maxRecDepth 100000 in
theorem kp_243_5 : mm_chk mm_tbl "FenceSides$Seasons" "passOne" (none) prog_8_method_8_code (fun z => (kl_243[z]?).getD 0) 33 kb_243_5 = true := by decide +kernel
set_option maxRecDepth 100000 in
theorem kp_243_6 : mm_chk mm_tbl "FenceSides$Seasons" "passOne" (none) prog_8_method_8_code (fun z => (kl_243[z]?).getD 0) 42 kb_243_6 = true := by decide +kernel
set_option maxRecDepth 100000 in
theorem kp_243_7 : mm_chk mm_tbl "FenceSides$Seasons" "passOne" (none) prog_8_method_8_code (fun z => (kl_243[z]?).getD 0) 98 kb_243_7 = true := by decide +kernel
set_option maxRecDepth 100000 in
theorem kp_243_8 : mm_chk mm_tbl "FenceSides$Seasons" "passOne" (none) prog_8_method_8_code (fun z => (kl_243[z]?).getD 0) 105 kb_243_8 = true := by decide +kernel
set_option maxRecDepth 100000 in
theorem kp_243_9 : mm_chk mm_tbl "FenceSides$Seasons" "passOne" (none) prog_8_method_8_code (fun z => (kl_243[z]?).getD 0) 106 kb_243_9 = true := by decide +kernel
set_option maxRecDepth 100000 in
theorem kp_243_10 : mm_chk mm_tbl "FenceSides$Seasons" "passOne" (none) prog_8_method_8_code (fun z => (kl_243[z]?).getD 0) 109 kb_243_10 = true := by decide +kernel
set_option maxRecDepth 100000 in
theorem kp_243_11 : mm_chk mm_tbl "FenceSides$Seasons" "passOne" (none) prog_8_method_8_code (fun z => (kl_243[z]?).getD 0) 115 kb_243_11 = true := by decide +kernel
set_option maxRecDepth 100000 in
theorem kp_243_12 : mm_chk mm_tbl "FenceSides$Seasons" "passOne" (none) prog_8_method_8_code (fun z => (kl_243[z]?).getD 0) 138 kb_243_12 = true := by decide +kernel
set_option maxRecDepth 100000 in
theorem kp_243_13 : mm_chk mm_tbl "FenceSides$Seasons" "passOne" (none) prog_8_method_8_code (fun z => (kl_243[z]?).getD 0) 147 kb_243_13 = true := by decide +kernel
set_option maxRecDepth 100000 in
theorem kp_243_14 : mm_chk mm_tbl "FenceSides$Seasons" "passOne" (none) prog_8_method_8_code (fun z => (kl_243[z]?).getD 0) 156 kb_243_14 = true := by decide +kernel
set_option maxRecDepth 100000 in
theorem kp_243_15 : mm_chk mm_tbl "FenceSides$Seasons" "passOne" (none) prog_8_method_8_code (fun z => (kl_243[z]?).getD 0) 178 kb_243_15 = true := by decide +kernel
set_option maxRecDepth 100000 in
theorem kp_243_16 : mm_chk mm_tbl "FenceSides$Seasons" "passOne" (none) prog_8_method_8_code (fun z => (kl_243[z]?).getD 0) 184 kb_243_16 = true := by decide +kernel
set_option maxRecDepth 100000 in
theorem kp_243_17 : mm_chk mm_tbl "FenceSides$Seasons" "passOne" (none) prog_8_method_8_code (fun z => (kl_243[z]?).getD 0) 187 kb_243_17 = true := by decide +kernel
set_option maxRecDepth 100000 in
theorem kp_243_18 : mm_chk mm_tbl "FenceSides$Seasons" "passOne" (none) prog_8_method_8_code (fun z => (kl_243[z]?).getD 0) 196 kb_243_18 = true := by decide +kernel
set_option maxRecDepth 100000 in
theorem kp_243_19 : mm_chk mm_tbl "FenceSides$Seasons" "passOne" (none) prog_8_method_8_code (fun z => (kl_243[z]?).getD 0) 205 kb_243_19 = true := by decide +kernel
set_option maxRecDepth 100000 in
theorem kp_243_20 : mm_chk mm_tbl "FenceSides$Seasons" "passOne" (none) prog_8_method_8_code (fun z => (kl_243[z]?).getD 0) 243 kb_243_20 = true := by decide +kernel
set_option maxRecDepth 100000 in
theorem kp_243_21 : mm_chk mm_tbl "FenceSides$Seasons" "passOne" (none) prog_8_method_8_code (fun z => (kl_243[z]?).getD 0) 252 kb_243_21 = true := by decide +kernel
set_option maxRecDepth 100000 in
theorem kp_243_22 : mm_chk mm_tbl "FenceSides$Seasons" "passOne" (none) prog_8_method_8_code (fun z => (kl_243[z]?).getD 0) 265 kb_243_22 = true := by decide +kernel
set_option maxRecDepth 100000 in
theorem kp_243_23 : mm_chk mm_tbl "FenceSides$Seasons" "passOne" (none) prog_8_method_8_code (fun z => (kl_243[z]?).getD 0) 271 kb_243_23 = true := by decide +kernel
set_option maxRecDepth 100000 in
theorem kq_243 : mm_qok (kt_243, kb_243, kl_243) = true := mm_qok_of (by decide +kernel) (by decide +kernel) rfl (by
  show ∀ bl ∈ List.range 24, _
  exact List.forall_mem_cons.mpr ⟨kp_243_0, List.forall_mem_cons.mpr ⟨kp_243_1, List.forall_mem_cons.mpr ⟨kp_243_2, List.forall_mem_cons.mpr ⟨kp_243_3, List.forall_mem_cons.mpr ⟨kp_243_4, List.forall_mem_cons.mpr ⟨kp_243_5, List.forall_mem_cons.mpr ⟨kp_243_6, List.forall_mem_cons.mpr ⟨kp_243_7, List.forall_mem_cons.mpr ⟨kp_243_8, List.forall_mem_cons.mpr ⟨kp_243_9, List.forall_mem_cons.mpr ⟨kp_243_10, List.forall_mem_cons.mpr ⟨kp_243_11, List.forall_mem_cons.mpr ⟨kp_243_12, List.forall_mem_cons.mpr ⟨kp_243_13, List.forall_mem_cons.mpr ⟨kp_243_14, List.forall_mem_cons.mpr ⟨kp_243_15, List.forall_mem_cons.mpr ⟨kp_243_16, List.forall_mem_cons.mpr ⟨kp_243_17, List.forall_mem_cons.mpr ⟨kp_243_18, List.forall_mem_cons.mpr ⟨kp_243_19, List.forall_mem_cons.mpr ⟨kp_243_20, List.forall_mem_cons.mpr ⟨kp_243_21, List.forall_mem_cons.mpr ⟨kp_243_22, List.forall_mem_cons.mpr ⟨kp_243_23, fun _ h => absurd h List.not_mem_nil⟩⟩⟩⟩⟩⟩⟩⟩⟩⟩⟩⟩⟩⟩⟩⟩⟩⟩⟩⟩⟩⟩⟩⟩)
theorem kw_243 : mm_cw kt_243 := rfl
set_option maxRecDepth 100000 in
theorem kq_244 : mm_qok (kt_244, kb_244, kl_244) = true := by decide +kernel
theorem kw_244 : mm_cw kt_244 := rfl
set_option maxRecDepth 100000 in
theorem kq_245 : mm_qok (kt_245, kb_245, kl_245) = true := by decide +kernel
theorem kw_245 : mm_cw kt_245 := rfl
set_option maxRecDepth 100000 in
theorem kq_246 : mm_qok (kt_246, kb_246, kl_246) = true := by decide +kernel
theorem kw_246 : mm_cw kt_246 := rfl
set_option maxRecDepth 100000 in
theorem kq_247 : mm_qok (kt_247, kb_247, kl_247) = true := by decide +kernel
theorem kw_247 : mm_cw kt_247 := rfl
set_option maxRecDepth 100000 in
theorem kq_248 : mm_qok (kt_248, kb_248, kl_248) = true := by decide +kernel
theorem kw_248 : mm_cw kt_248 := rfl
set_option maxRecDepth 100000 in
theorem kq_249 : mm_qok (kt_249, kb_249, kl_249) = true := by decide +kernel
theorem kw_249 : mm_cw kt_249 := rfl
set_option maxRecDepth 100000 in
theorem kq_250 : mm_qok (kt_250, kb_250, kl_250) = true := by decide +kernel
theorem kw_250 : mm_cw kt_250 := rfl
set_option maxRecDepth 100000 in
theorem kq_251 : mm_qok (kt_251, kb_251, kl_251) = true := by decide +kernel
theorem kw_251 : mm_cw kt_251 := rfl
set_option maxRecDepth 100000 in
theorem kq_252 : mm_qok (kt_252, kb_252, kl_252) = true := by decide +kernel
theorem kw_252 : mm_cw kt_252 := rfl
set_option maxRecDepth 100000 in
theorem kq_253 : mm_qok (kt_253, kb_253, kl_253) = true := by decide +kernel
theorem kw_253 : mm_cw kt_253 := rfl
set_option maxRecDepth 100000 in
theorem kq_254 : mm_qok (kt_254, kb_254, kl_254) = true := by decide +kernel
theorem kw_254 : mm_cw kt_254 := rfl
set_option maxRecDepth 100000 in
theorem kq_255 : mm_qok (kt_255, kb_255, kl_255) = true := by decide +kernel
theorem kw_255 : mm_cw kt_255 := rfl
set_option maxRecDepth 100000 in
theorem kq_256 : mm_qok (kt_256, kb_256, kl_256) = true := by decide +kernel
theorem kw_256 : mm_cw kt_256 := rfl
set_option maxRecDepth 100000 in
theorem kq_257 : mm_qok (kt_257, kb_257, kl_257) = true := by decide +kernel
theorem kw_257 : mm_cw kt_257 := rfl
set_option maxRecDepth 100000 in
theorem kq_258 : mm_qok (kt_258, kb_258, kl_258) = true := by decide +kernel
theorem kw_258 : mm_cw kt_258 := rfl
set_option maxRecDepth 100000 in
theorem kq_259 : mm_qok (kt_259, kb_259, kl_259) = true := by decide +kernel
theorem kw_259 : mm_cw kt_259 := rfl
set_option maxRecDepth 100000 in
theorem kq_260 : mm_qok (kt_260, kb_260, kl_260) = true := by decide +kernel
theorem kw_260 : mm_cw kt_260 := rfl
set_option maxRecDepth 100000 in
theorem kq_261 : mm_qok (kt_261, kb_261, kl_261) = true := by decide +kernel
theorem kw_261 : mm_cw kt_261 := rfl
set_option maxRecDepth 100000 in
theorem kq_262 : mm_qok (kt_262, kb_262, kl_262) = true := by decide +kernel
theorem kw_262 : mm_cw kt_262 := rfl
set_option maxRecDepth 100000 in
theorem kq_263 : mm_qok (kt_263, kb_263, kl_263) = true := by decide +kernel
theorem kw_263 : mm_cw kt_263 := rfl
set_option maxRecDepth 100000 in
theorem kq_264 : mm_qok (kt_264, kb_264, kl_264) = true := by decide +kernel
theorem kw_264 : mm_cw kt_264 := rfl
set_option maxRecDepth 100000 in
theorem kq_265 : mm_qok (kt_265, kb_265, kl_265) = true := by decide +kernel
theorem kw_265 : mm_cw kt_265 := rfl
set_option maxRecDepth 100000 in
theorem kq_266 : mm_qok (kt_266, kb_266, kl_266) = true := by decide +kernel
theorem kw_266 : mm_cw kt_266 := rfl
set_option maxRecDepth 100000 in
theorem kq_267 : mm_qok (kt_267, kb_267, kl_267) = true := by decide +kernel
theorem kw_267 : mm_cw kt_267 := rfl
set_option maxRecDepth 100000 in
theorem kq_268 : mm_qok (kt_268, kb_268, kl_268) = true := by decide +kernel
theorem kw_268 : mm_cw kt_268 := rfl
set_option maxRecDepth 100000 in
theorem kq_269 : mm_qok (kt_269, kb_269, kl_269) = true := by decide +kernel
theorem kw_269 : mm_cw kt_269 := rfl
set_option maxRecDepth 100000 in
theorem kq_270 : mm_qok (kt_270, kb_270, kl_270) = true := by decide +kernel
theorem kw_270 : mm_cw kt_270 := rfl
set_option maxRecDepth 100000 in
theorem kq_271 : mm_qok (kt_271, kb_271, kl_271) = true := by decide +kernel
theorem kw_271 : mm_cw kt_271 := rfl
set_option maxRecDepth 100000 in
theorem kq_272 : mm_qok (kt_272, kb_272, kl_272) = true := by decide +kernel
theorem kw_272 : mm_cw kt_272 := rfl
set_option maxRecDepth 100000 in
theorem kq_273 : mm_qok (kt_273, kb_273, kl_273) = true := by decide +kernel
theorem kw_273 : mm_cw kt_273 := rfl
set_option maxRecDepth 100000 in
theorem kq_274 : mm_qok (kt_274, kb_274, kl_274) = true := by decide +kernel
theorem kw_274 : mm_cw kt_274 := rfl
set_option maxRecDepth 100000 in
theorem kq_275 : mm_qok (kt_275, kb_275, kl_275) = true := by decide +kernel
theorem kw_275 : mm_cw kt_275 := rfl
