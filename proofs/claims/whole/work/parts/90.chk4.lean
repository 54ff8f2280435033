/-! ===== checks: by program ===== -/
set_option maxRecDepth 100000 in
theorem kq_254 : mm_qok (kt_254, kb_254, kl_254) = true := by decide +kernel
theorem kw_254 : mm_cw kt_254 := rfl
set_option maxRecDepth 100000 in
theorem kq_255 : mm_qok (kt_255, kb_255, kl_255) = true := by decide +kernel
theorem kw_255 : mm_cw kt_255 := rfl
set_option maxRecDepth 100000 in
theorem kq_256 : mm_qok (kt_256, kb_256, kl_256) = true := by decide +kernel
theorem kw_256 : mm_cw kt_256 := rfl
set_option maxRecDepth 100000 in
theorem kq_257 : mm_qok (kt_257, kb_257, kl_257) = true := by decide +kernel
theorem kw_257 : mm_cw kt_257 := rfl
set_option maxRecDepth 100000 in
theorem kq_258 : mm_qok (kt_258, kb_258, kl_258) = true := by decide +kernel
theorem kw_258 : mm_cw kt_258 := rfl
set_option maxRecDepth 100000 in
theorem kq_259 : mm_qok (kt_259, kb_259, kl_259) = true := by decide +kernel
theorem kw_259 : mm_cw kt_259 := rfl
set_option maxRecDepth 100000 in
theorem kq_260 : mm_qok (kt_260, kb_260, kl_260) = true := by decide +kernel
theorem kw_260 : mm_cw kt_260 := rfl
set_option maxRecDepth 100000 in
theorem kq_261 : mm_qok (kt_261, kb_261, kl_261) = true := by decide +kernel
theorem kw_261 : mm_cw kt_261 := rfl
set_option maxRecDepth 100000 in
theorem kq_262 : mm_qok (kt_262, kb_262, kl_262) = true := by decide +kernel
theorem kw_262 : mm_cw kt_262 := rfl
set_option maxRecDepth 100000 in
theorem kq_263 : mm_qok (kt_263, kb_263, kl_263) = true := by decide +kernel
theorem kw_263 : mm_cw kt_263 := rfl
set_option maxRecDepth 100000 in
theorem kq_264 : mm_qok (kt_264, kb_264, kl_264) = true := by decide +kernel
theorem kw_264 : mm_cw kt_264 := rfl
set_option maxRecDepth 100000 in
theorem kq_265 : mm_qok (kt_265, kb_265, kl_265) = true := by decide +kernel
theorem kw_265 : mm_cw kt_265 := rfl
set_option maxRecDepth 100000 in
theorem kq_266 : mm_qok (kt_266, kb_266, kl_266) = true := by decide +kernel
theorem kw_266 : mm_cw kt_266 := rfl
set_option maxRecDepth 100000 in
theorem kq_267 : mm_qok (kt_267, kb_267, kl_267) = true := by decide +kernel
theorem kw_267 : mm_cw kt_267 := rfl
set_option maxRecDepth 100000 in
theorem kq_268 : mm_qok (kt_268, kb_268, kl_268) = true := by decide +kernel
theorem kw_268 : mm_cw kt_268 := rfl
set_option maxRecDepth 100000 in
theorem kq_269 : mm_qok (kt_269, kb_269, kl_269) = true := by decide +kernel
theorem kw_269 : mm_cw kt_269 := rfl
set_option maxRecDepth 100000 in
theorem kq_270 : mm_qok (kt_270, kb_270, kl_270) = true := by decide +kernel
theorem kw_270 : mm_cw kt_270 := rfl
set_option maxRecDepth 100000 in
theorem kq_271 : mm_qok (kt_271, kb_271, kl_271) = true := by decide +kernel
theorem kw_271 : mm_cw kt_271 := rfl
set_option maxRecDepth 100000 in
theorem kq_272 : mm_qok (kt_272, kb_272, kl_272) = true := by decide +kernel
theorem kw_272 : mm_cw kt_272 := rfl
set_option maxRecDepth 100000 in
theorem kq_273 : mm_qok (kt_273, kb_273, kl_273) = true := by decide +kernel
theorem kw_273 : mm_cw kt_273 := rfl
set_option maxRecDepth 100000 in
theorem kq_274 : mm_qok (kt_274, kb_274, kl_274) = true := by decide +kernel
theorem kw_274 : mm_cw kt_274 := rfl
set_option maxRecDepth 100000 in
theorem kq_275 : mm_qok (kt_275, kb_275, kl_275) = true := by decide +kernel
theorem kw_275 : mm_cw kt_275 := rfl
set_option maxRecDepth 100000 in
theorem kq_276 : mm_qok (kt_276, kb_276, kl_276) = true := by decide +kernel
theorem kw_276 : mm_cw kt_276 := rfl
set_option maxRecDepth 100000 in
theorem kq_277 : mm_qok (kt_277, kb_277, kl_277) = true := by decide +kernel
theorem kw_277 : mm_cw kt_277 := rfl
set_option maxRecDepth 100000 in
theorem kq_278 : mm_qok (kt_278, kb_278, kl_278) = true := by decide +kernel
theorem kw_278 : mm_cw kt_278 := rfl
set_option maxRecDepth 100000 in
theorem kq_279 : mm_qok (kt_279, kb_279, kl_279) = true := by decide +kernel
theorem kw_279 : mm_cw kt_279 := rfl
set_option maxRecDepth 100000 in
theorem kq_280 : mm_qok (kt_280, kb_280, kl_280) = true := by decide +kernel
theorem kw_280 : mm_cw kt_280 := rfl
set_option maxRecDepth 100000 in
theorem kq_281 : mm_qok (kt_281, kb_281, kl_281) = true := by decide +kernel
theorem kw_281 : mm_cw kt_281 := rfl
