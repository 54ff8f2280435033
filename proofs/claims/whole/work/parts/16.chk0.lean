/-! ===== checks: by program ===== -/
set_option maxRecDepth 100000 in
theorem kq_0 : mm_qok (kt_0, kb_0, kl_0) = true := by decide +kernel
set_option maxRecDepth 100000 in
theorem kq_1 : mm_qok (kt_1, kb_1, kl_1) = true := by decide +kernel
set_option maxRecDepth 100000 in
theorem kq_2 : mm_qok (kt_2, kb_2, kl_2) = true := by decide +kernel
set_option maxRecDepth 100000 in
theorem kq_3 : mm_qok (kt_3, kb_3, kl_3) = true := by decide +kernel
set_option maxRecDepth 100000 in
theorem kq_4 : mm_qok (kt_4, kb_4, kl_4) = true := by decide +kernel
set_option maxRecDepth 100000 in
theorem kq_5 : mm_qok (kt_5, kb_5, kl_5) = true := by decide +kernel
set_option maxRecDepth 100000 in
theorem kq_6 : mm_qok (kt_6, kb_6, kl_6) = true := by decide +kernel
set_option maxRecDepth 100000 in
theorem kq_7 : mm_qok (kt_7, kb_7, kl_7) = true := by decide +kernel
set_option maxRecDepth 100000 in
theorem kq_8 : mm_qok (kt_8, kb_8, kl_8) = true := by decide +kernel
set_option maxRecDepth 100000 in
theorem kq_9 : mm_qok (kt_9, kb_9, kl_9) = true := by decide +kernel
set_option maxRecDepth 100000 in
theorem kq_10 : mm_qok (kt_10, kb_10, kl_10) = true := by decide +kernel
set_option maxRecDepth 100000 in
theorem kq_11 : mm_qok (kt_11, kb_11, kl_11) = true := by decide +kernel
set_option maxRecDepth 100000 in
theorem kq_12 : mm_qok (kt_12, kb_12, kl_12) = true := by decide +kernel
set_option maxRecDepth 100000 in
theorem kq_13 : mm_qok (kt_13, kb_13, kl_13) = true := by decide +kernel
set_option maxRecDepth 100000 in
theorem kq_14 : mm_qok (kt_14, kb_14, kl_14) = true := by decide +kernel
set_option maxRecDepth 100000 in
theorem kq_15 : mm_qok (kt_15, kb_15, kl_15) = true := by decide +kernel
set_option maxRecDepth 100000 in
theorem kq_16 : mm_qok (kt_16, kb_16, kl_16) = true := by decide +kernel
set_option maxRecDepth 100000 in
theorem kq_17 : mm_qok (kt_17, kb_17, kl_17) = true := by decide +kernel
set_option maxRecDepth 100000 in
theorem kq_18 : mm_qok (kt_18, kb_18, kl_18) = true := by decide +kernel
set_option maxRecDepth 100000 in
theorem kq_19 : mm_qok (kt_19, kb_19, kl_19) = true := by decide +kernel
set_option maxRecDepth 100000 in
theorem kq_20 : mm_qok (kt_20, kb_20, kl_20) = true := by decide +kernel
set_option maxRecDepth 100000 in
theorem kq_21 : mm_qok (kt_21, kb_21, kl_21) = true := by decide +kernel
set_option maxRecDepth 100000 in
theorem kq_22 : mm_qok (kt_22, kb_22, kl_22) = true := by decide +kernel
set_option maxRecDepth 100000 in
theorem kq_23 : mm_qok (kt_23, kb_23, kl_23) = true := by decide +kernel
set_option maxRecDepth 100000 in
theorem kq_24 : mm_qok (kt_24, kb_24, kl_24) = true := by decide +kernel
set_option maxRecDepth 100000 in
theorem kq_25 : mm_qok (kt_25, kb_25, kl_25) = true := by decide +kernel
set_option maxRecDepth 100000 in
theorem kq_26 : mm_qok (kt_26, kb_26, kl_26) = true := by decide +kernel
set_option maxRecDepth 100000 in
theorem kq_27 : mm_qok (kt_27, kb_27, kl_27) = true := by decide +kernel
set_option maxRecDepth 100000 in
theorem kq_28 : mm_qok (kt_28, kb_28, kl_28) = true := by decide +kernel
set_option maxRecDepth 100000 in
theorem kq_29 : mm_qok (kt_29, kb_29, kl_29) = true := by decide +kernel
set_option maxRecDepth 100000 in
theorem kq_30 : mm_qok (kt_30, kb_30, kl_30) = true := by decide +kernel
set_option maxRecDepth 100000 in
theorem kq_31 : mm_qok (kt_31, kb_31, kl_31) = true := by decide +kernel
set_option maxRecDepth 100000 in
theorem kq_32 : mm_qok (kt_32, kb_32, kl_32) = true := by decide +kernel
set_option maxRecDepth 100000 in
theorem kq_33 : mm_qok (kt_33, kb_33, kl_33) = true := by decide +kernel
set_option maxRecDepth 100000 in
theorem kq_34 : mm_qok (kt_34, kb_34, kl_34) = true := by decide +kernel
set_option maxRecDepth 100000 in
theorem kq_35 : mm_qok (kt_35, kb_35, kl_35) = true := by decide +kernel
set_option maxRecDepth 100000 in
theorem kq_36 : mm_qok (kt_36, kb_36, kl_36) = true := by decide +kernel
set_option maxRecDepth 100000 in
theorem kq_37 : mm_qok (kt_37, kb_37, kl_37) = true := by decide +kernel
set_option maxRecDepth 100000 in
theorem kq_38 : mm_qok (kt_38, kb_38, kl_38) = true := by decide +kernel
set_option maxRecDepth 100000 in
theorem kq_39 : mm_qok (kt_39, kb_39, kl_39) = true := by decide +kernel
set_option maxRecDepth 100000 in
theorem kq_40 : mm_qok (kt_40, kb_40, kl_40) = true := by decide +kernel
set_option maxRecDepth 100000 in
theorem kq_41 : mm_qok (kt_41, kb_41, kl_41) = true := by decide +kernel
set_option maxRecDepth 100000 in
theorem kq_42 : mm_qok (kt_42, kb_42, kl_42) = true := by decide +kernel
set_option maxRecDepth 100000 in
theorem kq_43 : mm_qok (kt_43, kb_43, kl_43) = true := by decide +kernel
set_option maxRecDepth 100000 in
theorem kq_44 : mm_qok (kt_44, kb_44, kl_44) = true := by decide +kernel
set_option maxRecDepth 100000 in
theorem kq_45 : mm_qok (kt_45, kb_45, kl_45) = true := by decide +kernel
set_option maxRecDepth 100000 in
theorem kq_46 : mm_qok (kt_46, kb_46, kl_46) = true := by decide +kernel
set_option maxRecDepth 100000 in
theorem kq_47 : mm_qok (kt_47, kb_47, kl_47) = true := by decide +kernel
set_option maxRecDepth 100000 in
theorem kq_48 : mm_qok (kt_48, kb_48, kl_48) = true := by decide +kernel
set_option maxRecDepth 100000 in
theorem kq_49 : mm_qok (kt_49, kb_49, kl_49) = true := by decide +kernel
set_option maxRecDepth 100000 in
theorem kq_50 : mm_qok (kt_50, kb_50, kl_50) = true := by decide +kernel
set_option maxRecDepth 100000 in
theorem kq_51 : mm_qok (kt_51, kb_51, kl_51) = true := by decide +kernel
set_option maxRecDepth 100000 in
theorem kq_52 : mm_qok (kt_52, kb_52, kl_52) = true := by decide +kernel
set_option maxRecDepth 100000 in
theorem kq_53 : mm_qok (kt_53, kb_53, kl_53) = true := by decide +kernel
set_option maxRecDepth 100000 in
theorem kq_54 : mm_qok (kt_54, kb_54, kl_54) = true := by decide +kernel
set_option maxRecDepth 100000 in
theorem kq_55 : mm_qok (kt_55, kb_55, kl_55) = true := by decide +kernel
set_option maxRecDepth 100000 in
theorem kq_56 : mm_qok (kt_56, kb_56, kl_56) = true := by decide +kernel
set_option maxRecDepth 100000 in
theorem kq_57 : mm_qok (kt_57, kb_57, kl_57) = true := by decide +kernel
set_option maxRecDepth 100000 in
theorem kq_58 : mm_qok (kt_58, kb_58, kl_58) = true := by decide +kernel
set_option maxRecDepth 100000 in
theorem kq_59 : mm_qok (kt_59, kb_59, kl_59) = true := by decide +kernel
set_option maxRecDepth 100000 in
theorem kq_60 : mm_qok (kt_60, kb_60, kl_60) = true := by decide +kernel
