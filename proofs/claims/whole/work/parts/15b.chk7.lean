/-! ===== checks: by program ===== -/
set_option maxRecDepth 100000 in
theorem kq_276 : mm_qok (kt_276, kb_276, kl_276) = true := by decide +kernel
theorem kw_276 : mm_cw kt_276 := rfl
set_option maxRecDepth 100000 in
theorem kq_277 : mm_qok (kt_277, kb_277, kl_277) = true := by decide +kernel
theorem kw_277 : mm_cw kt_277 := rfl
set_option maxRecDepth 100000 in
theorem kq_278 : mm_qok (kt_278, kb_278, kl_278) = true := by decide +kernel
theorem kw_278 : mm_cw kt_278 := rfl
set_option maxRecDepth 100000 in
theorem kq_279 : mm_qok (kt_279, kb_279, kl_279) = true := by decide +kernel
theorem kw_279 : mm_cw kt_279 := rfl
