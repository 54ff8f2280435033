/-! ===== checks: by program ===== -/
set_option maxRecDepth 100000 in
theorem kq_0 : mm_qok (kt_0, kb_0, kl_0) = true := by decide +kernel
theorem kw_0 : mm_cw kt_0 := rfl
set_option maxRecDepth 100000 in
theorem kq_1 : mm_qok (kt_1, kb_1, kl_1) = true := by decide +kernel
theorem kw_1 : mm_cw kt_1 := rfl
set_option maxRecDepth 100000 in
theorem kq_2 : mm_qok (kt_2, kb_2, kl_2) = true := by decide +kernel
theorem kw_2 : mm_cw kt_2 := rfl
set_option maxRecDepth 100000 in
theorem kq_3 : mm_qok (kt_3, kb_3, kl_3) = true := by decide +kernel
theorem kw_3 : mm_cw kt_3 := rfl
set_option maxRecDepth 100000 in
theorem kq_4 : mm_qok (kt_4, kb_4, kl_4) = true := by decide +kernel
theorem kw_4 : mm_cw kt_4 := rfl
set_option maxRecDepth 100000 in
theorem kq_5 : mm_qok (kt_5, kb_5, kl_5) = true := by decide +kernel
theorem kw_5 : mm_cw kt_5 := rfl
set_option maxRecDepth 100000 in
theorem kq_6 : mm_qok (kt_6, kb_6, kl_6) = true := by decide +kernel
theorem kw_6 : mm_cw kt_6 := rfl
set_option maxRecDepth 100000 in
theorem kq_7 : mm_qok (kt_7, kb_7, kl_7) = true := by decide +kernel
theorem kw_7 : mm_cw kt_7 := rfl
set_option maxRecDepth 100000 in
theorem kq_8 : mm_qok (kt_8, kb_8, kl_8) = true := by decide +kernel
theorem kw_8 : mm_cw kt_8 := rfl
set_option maxRecDepth 100000 in
theorem kq_9 : mm_qok (kt_9, kb_9, kl_9) = true := by decide +kernel
theorem kw_9 : mm_cw kt_9 := rfl
set_option maxRecDepth 100000 in
theorem kq_10 : mm_qok (kt_10, kb_10, kl_10) = true := by decide +kernel
theorem kw_10 : mm_cw kt_10 := rfl
set_option maxRecDepth 100000 in
theorem kq_11 : mm_qok (kt_11, kb_11, kl_11) = true := by decide +kernel
theorem kw_11 : mm_cw kt_11 := rfl
set_option maxRecDepth 100000 in
theorem kq_12 : mm_qok (kt_12, kb_12, kl_12) = true := by decide +kernel
theorem kw_12 : mm_cw kt_12 := rfl
set_option maxRecDepth 100000 in
theorem kq_13 : mm_qok (kt_13, kb_13, kl_13) = true := by decide +kernel
theorem kw_13 : mm_cw kt_13 := rfl
set_option maxRecDepth 100000 in
theorem kq_14 : mm_qok (kt_14, kb_14, kl_14) = true := by decide +kernel
theorem kw_14 : mm_cw kt_14 := rfl
set_option maxRecDepth 100000 in
theorem kq_15 : mm_qok (kt_15, kb_15, kl_15) = true := by decide +kernel
theorem kw_15 : mm_cw kt_15 := rfl
set_option maxRecDepth 100000 in
theorem kq_16 : mm_qok (kt_16, kb_16, kl_16) = true := by decide +kernel
theorem kw_16 : mm_cw kt_16 := rfl
set_option maxRecDepth 100000 in
theorem kq_17 : mm_qok (kt_17, kb_17, kl_17) = true := by decide +kernel
theorem kw_17 : mm_cw kt_17 := rfl
set_option maxRecDepth 100000 in
theorem kq_18 : mm_qok (kt_18, kb_18, kl_18) = true := by decide +kernel
theorem kw_18 : mm_cw kt_18 := rfl
set_option maxRecDepth 100000 in
theorem kq_19 : mm_qok (kt_19, kb_19, kl_19) = true := by decide +kernel
theorem kw_19 : mm_cw kt_19 := rfl
set_option maxRecDepth 100000 in
theorem kq_20 : mm_qok (kt_20, kb_20, kl_20) = true := by decide +kernel
theorem kw_20 : mm_cw kt_20 := rfl
set_option maxRecDepth 100000 in
theorem kq_21 : mm_qok (kt_21, kb_21, kl_21) = true := by decide +kernel
theorem kw_21 : mm_cw kt_21 := rfl
set_option maxRecDepth 100000 in
theorem kq_22 : mm_qok (kt_22, kb_22, kl_22) = true := by decide +kernel
theorem kw_22 : mm_cw kt_22 := rfl
set_option maxRecDepth 100000 in
theorem kq_23 : mm_qok (kt_23, kb_23, kl_23) = true := by decide +kernel
theorem kw_23 : mm_cw kt_23 := rfl
set_option maxRecDepth 100000 in
theorem kq_24 : mm_qok (kt_24, kb_24, kl_24) = true := by decide +kernel
theorem kw_24 : mm_cw kt_24 := rfl
set_option maxRecDepth 100000 in
theorem kq_25 : mm_qok (kt_25, kb_25, kl_25) = true := by decide +kernel
theorem kw_25 : mm_cw kt_25 := rfl
set_option maxRecDepth 100000 in
theorem kq_26 : mm_qok (kt_26, kb_26, kl_26) = true := by decide +kernel
theorem kw_26 : mm_cw kt_26 := rfl
set_option maxRecDepth 100000 in
theorem kq_27 : mm_qok (kt_27, kb_27, kl_27) = true := by decide +kernel
theorem kw_27 : mm_cw kt_27 := rfl
set_option maxRecDepth 100000 in
theorem kq_28 : mm_qok (kt_28, kb_28, kl_28) = true := by decide +kernel
theorem kw_28 : mm_cw kt_28 := rfl
set_option maxRecDepth 100000 in
theorem kq_29 : mm_qok (kt_29, kb_29, kl_29) = true := by decide +kernel
theorem kw_29 : mm_cw kt_29 := rfl
set_option maxRecDepth 100000 in
theorem kq_30 : mm_qok (kt_30, kb_30, kl_30) = true := by decide +kernel
theorem kw_30 : mm_cw kt_30 := rfl
set_option maxRecDepth 100000 in
theorem kq_31 : mm_qok (kt_31, kb_31, kl_31) = true := by decide +kernel
theorem kw_31 : mm_cw kt_31 := rfl
set_option maxRecDepth 100000 in
theorem kq_32 : mm_qok (kt_32, kb_32, kl_32) = true := by decide +kernel
theorem kw_32 : mm_cw kt_32 := rfl
set_option maxRecDepth 100000 in
theorem kq_33 : mm_qok (kt_33, kb_33, kl_33) = true := by decide +kernel
theorem kw_33 : mm_cw kt_33 := rfl
set_option maxRecDepth 100000 in
theorem kq_34 : mm_qok (kt_34, kb_34, kl_34) = true := by decide +kernel
theorem kw_34 : mm_cw kt_34 := rfl
set_option maxRecDepth 100000 in
theorem kq_35 : mm_qok (kt_35, kb_35, kl_35) = true := by decide +kernel
theorem kw_35 : mm_cw kt_35 := rfl
set_option maxRecDepth 100000 in
theorem kq_36 : mm_qok (kt_36, kb_36, kl_36) = true := by decide +kernel
theorem kw_36 : mm_cw kt_36 := rfl
set_option maxRecDepth 100000 in
theorem kq_37 : mm_qok (kt_37, kb_37, kl_37) = true := by decide +kernel
theorem kw_37 : mm_cw kt_37 := rfl
set_option maxRecDepth 100000 in
theorem kq_38 : mm_qok (kt_38, kb_38, kl_38) = true := by decide +kernel
theorem kw_38 : mm_cw kt_38 := rfl
set_option maxRecDepth 100000 in
theorem kq_39 : mm_qok (kt_39, kb_39, kl_39) = true := by decide +kernel
theorem kw_39 : mm_cw kt_39 := rfl
set_option maxRecDepth 100000 in
theorem kq_40 : mm_qok (kt_40, kb_40, kl_40) = true := by decide +kernel
theorem kw_40 : mm_cw kt_40 := rfl
set_option maxRecDepth 100000 in
theorem kq_41 : mm_qok (kt_41, kb_41, kl_41) = true := by decide +kernel
theorem kw_41 : mm_cw kt_41 := rfl
set_option maxRecDepth 100000 in
theorem kq_42 : mm_qok (kt_42, kb_42, kl_42) = true := by decide +kernel
theorem kw_42 : mm_cw kt_42 := rfl
set_option maxRecDepth 100000 in
theorem kq_43 : mm_qok (kt_43, kb_43, kl_43) = true := by decide +kernel
theorem kw_43 : mm_cw kt_43 := rfl
set_option maxRecDepth 100000 in
theorem kq_44 : mm_qok (kt_44, kb_44, kl_44) = true := by decide +kernel
theorem kw_44 : mm_cw kt_44 := rfl
set_option maxRecDepth 100000 in
theorem kq_45 : mm_qok (kt_45, kb_45, kl_45) = true := by decide +kernel
theorem kw_45 : mm_cw kt_45 := rfl
set_option maxRecDepth 100000 in
theorem kq_46 : mm_qok (kt_46, kb_46, kl_46) = true := by decide +kernel
theorem kw_46 : mm_cw kt_46 := rfl
set_option maxRecDepth 100000 in
theorem kq_47 : mm_qok (kt_47, kb_47, kl_47) = true := by decide +kernel
theorem kw_47 : mm_cw kt_47 := rfl
set_option maxRecDepth 100000 in
theorem kq_48 : mm_qok (kt_48, kb_48, kl_48) = true := by decide +kernel
theorem kw_48 : mm_cw kt_48 := rfl
set_option maxRecDepth 100000 in
theorem kq_49 : mm_qok (kt_49, kb_49, kl_49) = true := by decide +kernel
theorem kw_49 : mm_cw kt_49 := rfl
set_option maxRecDepth 100000 in
theorem kq_50 : mm_qok (kt_50, kb_50, kl_50) = true := by decide +kernel
theorem kw_50 : mm_cw kt_50 := rfl
set_option maxRecDepth 100000 in
theorem kq_51 : mm_qok (kt_51, kb_51, kl_51) = true := by decide +kernel
theorem kw_51 : mm_cw kt_51 := rfl
set_option maxRecDepth 100000 in
theorem kq_52 : mm_qok (kt_52, kb_52, kl_52) = true := by decide +kernel
theorem kw_52 : mm_cw kt_52 := rfl
set_option maxRecDepth 100000 in
theorem kq_53 : mm_qok (kt_53, kb_53, kl_53) = true := by decide +kernel
theorem kw_53 : mm_cw kt_53 := rfl
set_option maxRecDepth 100000 in
theorem kq_54 : mm_qok (kt_54, kb_54, kl_54) = true := by decide +kernel
theorem kw_54 : mm_cw kt_54 := rfl
set_option maxRecDepth 100000 in
theorem kq_55 : mm_qok (kt_55, kb_55, kl_55) = true := by decide +kernel
theorem kw_55 : mm_cw kt_55 := rfl
set_option maxRecDepth 100000 in
theorem kq_56 : mm_qok (kt_56, kb_56, kl_56) = true := by decide +kernel
theorem kw_56 : mm_cw kt_56 := rfl
set_option maxRecDepth 100000 in
theorem kq_57 : mm_qok (kt_57, kb_57, kl_57) = true := by decide +kernel
theorem kw_57 : mm_cw kt_57 := rfl
set_option maxRecDepth 100000 in
theorem kq_58 : mm_qok (kt_58, kb_58, kl_58) = true := by decide +kernel
theorem kw_58 : mm_cw kt_58 := rfl
set_option maxRecDepth 100000 in
theorem kq_59 : mm_qok (kt_59, kb_59, kl_59) = true := by decide +kernel
theorem kw_59 : mm_cw kt_59 := rfl
set_option maxRecDepth 100000 in
theorem kq_60 : mm_qok (kt_60, kb_60, kl_60) = true := by decide +kernel
theorem kw_60 : mm_cw kt_60 := rfl
