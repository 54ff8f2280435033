/-! ===== checks: by program ===== -/
set_option maxRecDepth 100000 in
theorem kq_36 : mm_qok (kt_36, kb_36, kl_36) = true := by decide +kernel
theorem kw_36 : mm_cw kt_36 := rfl
set_option maxRecDepth 100000 in
theorem kq_37 : mm_qok (kt_37, kb_37, kl_37) = true := by decide +kernel
theorem kw_37 : mm_cw kt_37 := rfl
set_option maxRecDepth 100000 in
theorem kq_38 : mm_qok (kt_38, kb_38, kl_38) = true := by decide +kernel
theorem kw_38 : mm_cw kt_38 := rfl
set_option maxRecDepth 100000 in
theorem kq_39 : mm_qok (kt_39, kb_39, kl_39) = true := by decide +kernel
theorem kw_39 : mm_cw kt_39 := rfl
set_option maxRecDepth 100000 in
theorem kq_40 : mm_qok (kt_40, kb_40, kl_40) = true := by decide +kernel
theorem kw_40 : mm_cw kt_40 := rfl
set_option maxRecDepth 100000 in
theorem kq_41 : mm_qok (kt_41, kb_41, kl_41) = true := by decide +kernel
theorem kw_41 : mm_cw kt_41 := rfl
set_option maxRecDepth 100000 in
theorem kq_42 : mm_qok (kt_42, kb_42, kl_42) = true := by decide +kernel
theorem kw_42 : mm_cw kt_42 := rfl
set_option maxRecDepth 100000 in
theorem kq_43 : mm_qok (kt_43, kb_43, kl_43) = true := by decide +kernel
theorem kw_43 : mm_cw kt_43 := rfl
set_option maxRecDepth 100000 in
theorem kq_44 : mm_qok (kt_44, kb_44, kl_44) = true := by decide +kernel
theorem kw_44 : mm_cw kt_44 := rfl
set_option maxRecDepth 100000 in
theorem kq_45 : mm_qok (kt_45, kb_45, kl_45) = true := by decide +kernel
theorem kw_45 : mm_cw kt_45 := rfl
set_option maxRecDepth 100000 in
theorem kq_46 : mm_qok (kt_46, kb_46, kl_46) = true := by decide +kernel
theorem kw_46 : mm_cw kt_46 := rfl
set_option maxRecDepth 100000 in
theorem kq_47 : mm_qok (kt_47, kb_47, kl_47) = true := by decide +kernel
theorem kw_47 : mm_cw kt_47 := rfl
set_option maxRecDepth 100000 in
theorem kq_48 : mm_qok (kt_48, kb_48, kl_48) = true := by decide +kernel
theorem kw_48 : mm_cw kt_48 := rfl
set_option maxRecDepth 100000 in
theorem kq_49 : mm_qok (kt_49, kb_49, kl_49) = true := by decide +kernel
theorem kw_49 : mm_cw kt_49 := rfl
set_option maxRecDepth 100000 in
theorem kq_50 : mm_qok (kt_50, kb_50, kl_50) = true := by decide +kernel
theorem kw_50 : mm_cw kt_50 := rfl
set_option maxRecDepth 100000 in
theorem kq_51 : mm_qok (kt_51, kb_51, kl_51) = true := by decide +kernel
theorem kw_51 : mm_cw kt_51 := rfl
set_option maxRecDepth 100000 in
theorem kq_52 : mm_qok (kt_52, kb_52, kl_52) = true := by decide +kernel
theorem kw_52 : mm_cw kt_52 := rfl
set_option maxRecDepth 100000 in
theorem kq_53 : mm_qok (kt_53, kb_53, kl_53) = true := by decide +kernel
theorem kw_53 : mm_cw kt_53 := rfl
set_option maxRecDepth 100000 in
theorem kq_54 : mm_qok (kt_54, kb_54, kl_54) = true := by decide +kernel
theorem kw_54 : mm_cw kt_54 := rfl
set_option maxRecDepth 100000 in
theorem kq_55 : mm_qok (kt_55, kb_55, kl_55) = true := by decide +kernel
theorem kw_55 : mm_cw kt_55 := rfl
def ks_56_0_0 : List mm_I := [(2, 0, 0, 0), (39, 0, 5143, 0), (2, 0, 0, 0), (7, 0, 0, 2000), (37, 1, 0, 0), (26, 12, 1, 5163), (2, 0, 0, 0), (7, 0, 0, 2000), (37, 1, 0, 0), (26, 12, 3, 5165), (2, 0, 0, 0), (7, 0, 0, 403), (37, 0, 0, 0), (26, 12, 5, 5167), (2, 0, 0, 0), (7, 0, 0, 403), (37, 0, 0, 0), (26, 12, 6, 5168), (2, 0, 0, 0), (7, 0, 0, 403), (37, 0, 0, 0), (26, 12, 7, 5169), (2, 0, 0, 0), (7, 0, 0, 403), (37, 3, 0, 0), (26, 12, 8, 5170), (2, 0, 0, 0), (7, 0, 0, 21), (37, 3, 0, 0), (26, 12, 9, 5171), (2, 0, 0, 0), (7, 0, 0, (-1)), (24, 12, 17, 5179), (2, 0, 0, 0), (7, 0, 0, 13), (37, 3, 0, 0), (26, 12, 21, 5183), (2, 0, 0, 0), (7, 0, 0, 13), (37, 0, 0, 0)]
def ks_56_0_1 : List mm_I := [(26, 12, 22, 5184), (2, 0, 0, 0), (7, 0, 0, 2), (37, 0, 0, 0), (26, 12, 23, 5185), (2, 0, 0, 0), (7, 0, 0, 2), (37, 0, 0, 0), (26, 12, 24, 5186), (2, 0, 0, 0), (7, 0, 0, 12), (37, 0, 0, 0), (26, 12, 25, 5187), (2, 0, 0, 0), (7, 0, 0, 12), (37, 0, 0, 0), (26, 12, 26, 5188), (2, 0, 0, 0), (7, 0, 0, 12), (37, 0, 0, 0), (26, 12, 27, 5189), (2, 0, 0, 0), (7, 0, 0, 2), (37, 0, 0, 0), (26, 12, 28, 5190), (2, 0, 0, 0), (7, 0, 0, 20), (37, 0, 0, 0), (26, 12, 29, 5191), (2, 0, 0, 0), (7, 0, 0, 20), (37, 0, 0, 0), (26, 12, 30, 5192), (2, 0, 0, 0), (7, 0, 0, 20), (37, 0, 0, 0), (26, 12, 31, 5193), (2, 0, 0, 0), (7, 0, 0, 20), (37, 0, 0, 0)]
def ks_56_0_2 : List mm_I := [(26, 12, 32, 5194), (2, 0, 0, 0), (7, 0, 0, 20), (37, 0, 0, 0), (26, 12, 33, 5195), (2, 0, 0, 0), (7, 0, 0, 2), (37, 0, 0, 0), (26, 12, 34, 5196), (2, 0, 0, 0), (7, 0, 0, 2), (37, 0, 0, 0), (26, 12, 35, 5197), (2, 0, 0, 0), (7, 0, 0, 8), (37, 0, 0, 0), (26, 12, 36, 5198), (2, 0, 0, 0), (7, 0, 0, 8), (37, 0, 0, 0), (26, 12, 37, 5199), (2, 0, 0, 0), (7, 0, 0, 260), (37, 2, 0, 0), (26, 12, 39, 5201), (2, 0, 0, 0), (7, 0, 0, 260), (37, 0, 0, 0), (26, 12, 40, 5202), (2, 0, 0, 0), (7, 0, 0, 260), (37, 0, 0, 0), (26, 12, 41, 5203), (2, 0, 0, 0), (7, 0, 0, 260), (37, 0, 0, 0), (26, 12, 42, 5204), (2, 0, 0, 0), (7, 0, 0, 260), (37, 0, 0, 0)]
def ks_56_0_3 : List mm_I := [(26, 12, 43, 5205), (2, 0, 0, 0), (7, 0, 0, 840), (37, 0, 0, 0), (26, 12, 45, 5207), (2, 0, 0, 0), (7, 0, 0, 840), (37, 0, 0, 0), (26, 12, 46, 5208), (2, 0, 0, 0), (7, 0, 0, 64), (37, 0, 0, 0), (26, 12, 47, 5209), (2, 0, 0, 0), (7, 0, 0, 9), (37, 0, 0, 0), (26, 12, 49, 5211), (2, 0, 0, 0), (7, 0, 0, 400), (37, 0, 0, 0), (26, 12, 50, 5212), (2, 0, 0, 0), (7, 0, 0, 69), (37, 0, 0, 0), (26, 12, 52, 5214), (2, 0, 0, 0), (7, 0, 0, 69), (37, 0, 0, 0), (26, 12, 53, 5215), (2, 0, 0, 0), (7, 0, 0, 6), (37, 2, 0, 0), (26, 12, 56, 5218), (2, 0, 0, 0), (7, 0, 0, 10), (37, 0, 0, 0), (26, 12, 57, 5219), (2, 0, 0, 0), (7, 0, 0, 10), (37, 2, 0, 0)]
def ks_56_0_4 : List mm_I := [(26, 12, 58, 5220), (2, 0, 0, 0), (7, 0, 0, 2760), (37, 0, 0, 0), (26, 12, 60, 5222), (2, 0, 0, 0), (7, 0, 0, 64), (37, 0, 0, 0), (26, 12, 61, 5223), (2, 0, 0, 0), (7, 0, 0, 20), (37, 0, 0, 0), (26, 12, 63, 5225), (2, 0, 0, 0), (7, 0, 0, 20), (37, 0, 0, 0), (26, 12, 64, 5226), (2, 0, 0, 0), (7, 0, 0, 20), (37, 2, 0, 0), (26, 12, 65, 5227), (2, 0, 0, 0), (7, 0, 0, 3), (37, 2, 0, 0), (26, 12, 66, 5228), (2, 0, 0, 0), (7, 0, 0, 207), (37, 0, 0, 0), (26, 12, 67, 5229), (2, 0, 0, 0), (7, 0, 0, 0), (70, 73, 5144, 0), (2, 0, 0, 0), (7, 0, 0, 1), (70, 73, 5144, 0), (2, 0, 0, 0), (23, 12, 9, 5171), (7, 0, 0, 0), (7, 0, 0, 102), (7, 0, 0, 105)]
def ks_56_0_5 : List mm_I := [(7, 0, 0, 101), (7, 0, 0, 108), (7, 0, 0, 100), (7, 0, 0, 0), (7, 0, 0, 0), (70, 64, 5148, 0), (32, 0, 0, 0), (2, 0, 0, 0), (23, 12, 9, 5171), (7, 0, 0, 1), (7, 0, 0, 112), (7, 0, 0, 101), (7, 0, 0, 114), (7, 0, 0, 115), (7, 0, 0, 111), (7, 0, 0, 110), (7, 0, 0, 0), (70, 64, 5148, 0), (32, 0, 0, 0), (2, 0, 0, 0), (23, 12, 9, 5171), (7, 0, 0, 2), (7, 0, 0, 104), (7, 0, 0, 101), (7, 0, 0, 100), (7, 0, 0, 103), (7, 0, 0, 101), (7, 0, 0, 0), (7, 0, 0, 0), (70, 64, 5148, 0), (32, 0, 0, 0), (2, 0, 0, 0), (23, 12, 9, 5171), (7, 0, 0, 3), (7, 0, 0, 104), (7, 0, 0, 101), (7, 0, 0, 105), (7, 0, 0, 114), (7, 0, 0, 115), (7, 0, 0, 0)]
def ks_56_0_6 : List mm_I := [(7, 0, 0, 0), (70, 64, 5148, 0), (32, 0, 0, 0), (2, 0, 0, 0), (23, 12, 9, 5171), (7, 0, 0, 4), (7, 0, 0, 103), (7, 0, 0, 114), (7, 0, 0, 111), (7, 0, 0, 119), (7, 0, 0, 115), (7, 0, 0, 0), (7, 0, 0, 0), (70, 64, 5148, 0), (32, 0, 0, 0), (2, 0, 0, 0), (23, 12, 9, 5171), (7, 0, 0, 5), (7, 0, 0, 100), (7, 0, 0, 105), (7, 0, 0, 101), (7, 0, 0, 115), (7, 0, 0, 0), (7, 0, 0, 0), (7, 0, 0, 0), (70, 64, 5148, 0), (32, 0, 0, 0), (2, 0, 0, 0), (23, 12, 9, 5171), (7, 0, 0, 6), (7, 0, 0, 102), (7, 0, 0, 97), (7, 0, 0, 108), (7, 0, 0, 108), (7, 0, 0, 115), (7, 0, 0, 0), (7, 0, 0, 0), (70, 64, 5148, 0), (32, 0, 0, 0), (2, 0, 0, 0)]
def ks_56_0_7 : List mm_I := [(23, 12, 9, 5171), (7, 0, 0, 7), (7, 0, 0, 99), (7, 0, 0, 111), (7, 0, 0, 115), (7, 0, 0, 116), (7, 0, 0, 115), (7, 0, 0, 0), (7, 0, 0, 0), (70, 64, 5148, 0), (32, 0, 0, 0), (2, 0, 0, 0), (23, 12, 9, 5171), (7, 0, 0, 8), (7, 0, 0, 115), (7, 0, 0, 101), (7, 0, 0, 101), (7, 0, 0, 100), (7, 0, 0, 0), (7, 0, 0, 0), (7, 0, 0, 0), (70, 64, 5148, 0), (32, 0, 0, 0), (2, 0, 0, 0), (23, 12, 9, 5171), (7, 0, 0, 9), (7, 0, 0, 105), (7, 0, 0, 102), (7, 0, 0, 0), (7, 0, 0, 0), (7, 0, 0, 0), (7, 0, 0, 0), (7, 0, 0, 0), (70, 64, 5148, 0), (32, 0, 0, 0), (2, 0, 0, 0), (23, 12, 9, 5171), (7, 0, 0, 10), (7, 0, 0, 116), (7, 0, 0, 104)]
def ks_56_0_8 : List mm_I := [(7, 0, 0, 101), (7, 0, 0, 110), (7, 0, 0, 0), (7, 0, 0, 0), (7, 0, 0, 0), (70, 64, 5148, 0), (32, 0, 0, 0), (2, 0, 0, 0), (23, 12, 9, 5171), (7, 0, 0, 11), (7, 0, 0, 101), (7, 0, 0, 108), (7, 0, 0, 115), (7, 0, 0, 101), (7, 0, 0, 0), (7, 0, 0, 0), (7, 0, 0, 0), (70, 64, 5148, 0), (32, 0, 0, 0), (2, 0, 0, 0), (23, 12, 9, 5171), (7, 0, 0, 12), (7, 0, 0, 104), (7, 0, 0, 105), (7, 0, 0, 103), (7, 0, 0, 104), (7, 0, 0, 0), (7, 0, 0, 0), (7, 0, 0, 0), (70, 64, 5148, 0), (32, 0, 0, 0), (2, 0, 0, 0), (23, 12, 9, 5171), (7, 0, 0, 13), (7, 0, 0, 121), (7, 0, 0, 101), (7, 0, 0, 97), (7, 0, 0, 114), (7, 0, 0, 115), (7, 0, 0, 0)]
def ks_56_0_9 : List mm_I := [(7, 0, 0, 0), (70, 64, 5148, 0), (32, 0, 0, 0), (2, 0, 0, 0), (23, 12, 9, 5171), (7, 0, 0, 14), (7, 0, 0, 97), (7, 0, 0, 103), (7, 0, 0, 101), (7, 0, 0, 0), (7, 0, 0, 0), (7, 0, 0, 0), (7, 0, 0, 0), (70, 64, 5148, 0), (32, 0, 0, 0), (2, 0, 0, 0), (23, 12, 9, 5171), (7, 0, 0, 15), (7, 0, 0, 102), (7, 0, 0, 97), (7, 0, 0, 99), (7, 0, 0, 101), (7, 0, 0, 115), (7, 0, 0, 0), (7, 0, 0, 0), (70, 64, 5148, 0), (32, 0, 0, 0), (2, 0, 0, 0), (23, 12, 9, 5171), (7, 0, 0, 16), (7, 0, 0, 119), (7, 0, 0, 104), (7, 0, 0, 105), (7, 0, 0, 99), (7, 0, 0, 104), (7, 0, 0, 0), (7, 0, 0, 0), (70, 64, 5148, 0), (32, 0, 0, 0), (2, 0, 0, 0)]
def ks_56_0_10 : List mm_I := [(23, 12, 9, 5171), (7, 0, 0, 17), (7, 0, 0, 111), (7, 0, 0, 117), (7, 0, 0, 116), (7, 0, 0, 101), (7, 0, 0, 114), (7, 0, 0, 0), (7, 0, 0, 0), (70, 64, 5148, 0), (32, 0, 0, 0), (2, 0, 0, 0), (23, 12, 9, 5171), (7, 0, 0, 18), (7, 0, 0, 105), (7, 0, 0, 110), (7, 0, 0, 110), (7, 0, 0, 101), (7, 0, 0, 114), (7, 0, 0, 0), (7, 0, 0, 0), (70, 64, 5148, 0), (32, 0, 0, 0), (2, 0, 0, 0), (23, 12, 9, 5171), (7, 0, 0, 19), (7, 0, 0, 99), (7, 0, 0, 108), (7, 0, 0, 105), (7, 0, 0, 112), (7, 0, 0, 112), (7, 0, 0, 101), (7, 0, 0, 100), (70, 64, 5148, 0), (32, 0, 0, 0), (2, 0, 0, 0), (23, 12, 9, 5171), (7, 0, 0, 20), (7, 0, 0, 103), (7, 0, 0, 97)]
def ks_56_0_11 : List mm_I := [(7, 0, 0, 112), (7, 0, 0, 115), (7, 0, 0, 0), (7, 0, 0, 0), (7, 0, 0, 0), (70, 64, 5148, 0), (32, 0, 0, 0), (2, 0, 0, 0), (70, 99, 5155, 0), (2, 0, 0, 0), (70, 100, 5159, 0), (74, 0, 0, 0)]
set_option maxRecDepth 100000 in
theorem kv_56_0_0 : mm_seg mm_tbl "FenceSidesModel" "<init>" prog_14_method_2_code 0 ks_56_0_0 = some 84 := by decide +kernel
set_option maxRecDepth 100000 in
theorem kv_56_0_1 : mm_seg mm_tbl "FenceSidesModel" "<init>" prog_14_method_2_code 84 ks_56_0_1 = some 161 := by decide +kernel
set_option maxRecDepth 100000 in
theorem kv_56_0_2 : mm_seg mm_tbl "FenceSidesModel" "<init>" prog_14_method_2_code 161 ks_56_0_2 = some 244 := by decide +kernel
set_option maxRecDepth 100000 in
theorem kv_56_0_3 : mm_seg mm_tbl "FenceSidesModel" "<init>" prog_14_method_2_code 244 ks_56_0_3 = some 327 := by decide +kernel
set_option maxRecDepth 100000 in
theorem kv_56_0_4 : mm_seg mm_tbl "FenceSidesModel" "<init>" prog_14_method_2_code 327 ks_56_0_4 = some 406 := by decide +kernel
set_option maxRecDepth 100000 in
theorem kv_56_0_5 : mm_seg mm_tbl "FenceSidesModel" "<init>" prog_14_method_2_code 406 ks_56_0_5 = some 477 := by decide +kernel
set_option maxRecDepth 100000 in
theorem kv_56_0_6 : mm_seg mm_tbl "FenceSidesModel" "<init>" prog_14_method_2_code 477 ks_56_0_6 = some 546 := by decide +kernel
set_option maxRecDepth 100000 in
theorem kv_56_0_7 : mm_seg mm_tbl "FenceSidesModel" "<init>" prog_14_method_2_code 546 ks_56_0_7 = some 617 := by decide +kernel
set_option maxRecDepth 100000 in
theorem kv_56_0_8 : mm_seg mm_tbl "FenceSidesModel" "<init>" prog_14_method_2_code 617 ks_56_0_8 = some 687 := by decide +kernel
set_option maxRecDepth 100000 in
theorem kv_56_0_9 : mm_seg mm_tbl "FenceSidesModel" "<init>" prog_14_method_2_code 687 ks_56_0_9 = some 757 := by decide +kernel
set_option maxRecDepth 100000 in
theorem kv_56_0_10 : mm_seg mm_tbl "FenceSidesModel" "<init>" prog_14_method_2_code 757 ks_56_0_10 = some 834 := by decide +kernel
set_option maxRecDepth 100000 in
theorem kv_56_0_11 : mm_chk mm_tbl "FenceSidesModel" "<init>" (none) prog_14_method_2_code (fun z => (kl_56[z]?).getD 0) 834 ks_56_0_11 = true := by decide +kernel
theorem kp_56_0 : mm_chk mm_tbl "FenceSidesModel" "<init>" (none) prog_14_method_2_code (fun z => (kl_56[z]?).getD 0) 0 kb_56_0 = true := (mm_seg_app ks_56_0_0 _ _ _ kv_56_0_0 (mm_seg_app ks_56_0_1 _ _ _ kv_56_0_1 (mm_seg_app ks_56_0_2 _ _ _ kv_56_0_2 (mm_seg_app ks_56_0_3 _ _ _ kv_56_0_3 (mm_seg_app ks_56_0_4 _ _ _ kv_56_0_4 (mm_seg_app ks_56_0_5 _ _ _ kv_56_0_5 (mm_seg_app ks_56_0_6 _ _ _ kv_56_0_6 (mm_seg_app ks_56_0_7 _ _ _ kv_56_0_7 (mm_seg_app ks_56_0_8 _ _ _ kv_56_0_8 (mm_seg_app ks_56_0_9 _ _ _ kv_56_0_9 (mm_seg_app ks_56_0_10 _ _ _ kv_56_0_10 kv_56_0_11)))))))))))
set_option maxRecDepth 100000 in
theorem kq_56 : mm_qok (kt_56, kb_56, kl_56) = true := mm_qok_of (by decide +kernel) (by decide +kernel) rfl (by
  show ∀ bl ∈ List.range 1, _
  exact List.forall_mem_cons.mpr ⟨kp_56_0, fun _ h => absurd h List.not_mem_nil⟩)
theorem kw_56 : mm_cw kt_56 := rfl
set_option maxRecDepth 100000 in
theorem kq_57 : mm_qok (kt_57, kb_57, kl_57) = true := by decide +kernel
theorem kw_57 : mm_cw kt_57 := rfl
set_option maxRecDepth 100000 in
theorem kq_58 : mm_qok (kt_58, kb_58, kl_58) = true := by decide +kernel
theorem kw_58 : mm_cw kt_58 := rfl
set_option maxRecDepth 100000 in
theorem kq_59 : mm_qok (kt_59, kb_59, kl_59) = true := by decide +kernel
theorem kw_59 : mm_cw kt_59 := rfl
set_option maxRecDepth 100000 in
theorem kq_60 : mm_qok (kt_60, kb_60, kl_60) = true := by decide +kernel
theorem kw_60 : mm_cw kt_60 := rfl
set_option maxRecDepth 100000 in
theorem kq_61 : mm_qok (kt_61, kb_61, kl_61) = true := by decide +kernel
theorem kw_61 : mm_cw kt_61 := rfl
set_option maxRecDepth 100000 in
theorem kq_62 : mm_qok (kt_62, kb_62, kl_62) = true := by decide +kernel
theorem kw_62 : mm_cw kt_62 := rfl
set_option maxRecDepth 100000 in
theorem kq_63 : mm_qok (kt_63, kb_63, kl_63) = true := by decide +kernel
theorem kw_63 : mm_cw kt_63 := rfl
set_option maxRecDepth 100000 in
theorem kq_64 : mm_qok (kt_64, kb_64, kl_64) = true := by decide +kernel
theorem kw_64 : mm_cw kt_64 := rfl
set_option maxRecDepth 100000 in
theorem kq_65 : mm_qok (kt_65, kb_65, kl_65) = true := by decide +kernel
theorem kw_65 : mm_cw kt_65 := rfl
set_option maxRecDepth 100000 in
theorem kp_66_0 : mm_chk mm_tbl "FenceSidesModel" "cut" (none) prog_14_method_12_code (fun z => (kl_66[z]?).getD 0) 0 kb_66_0 = true := by decide +kernel
set_option maxRecDepth 100000 in
theorem kp_66_1 : mm_chk mm_tbl "FenceSidesModel" "cut" (none) prog_14_method_12_code (fun z => (kl_66[z]?).getD 0) 7 kb_66_1 = true := by decide +kernel
set_option maxRecDepth 100000 in
theorem kp_66_2 : mm_chk mm_tbl "FenceSidesModel" "cut" (none) prog_14_method_12_code (fun z => (kl_66[z]?).getD 0) 17 kb_66_2 = true := by decide +kernel
set_option maxRecDepth 100000 in
theorem kp_66_3 : mm_chk mm_tbl "FenceSidesModel" "cut" (none) prog_14_method_12_code (fun z => (kl_66[z]?).getD 0) 31 kb_66_3 = true := by decide +kernel
set_option maxRecDepth 100000 in
theorem kp_66_4 : mm_chk mm_tbl "FenceSidesModel" "cut" (none) prog_14_method_12_code (fun z => (kl_66[z]?).getD 0) 43 kb_66_4 = true := by decide +kernel
set_option maxRecDepth 100000 in
theorem kp_66_5 : mm_chk mm_tbl "FenceSidesModel" "cut" (none) prog_14_method_12_code (fun z => (kl_66[z]?).getD 0) 49 kb_66_5 = true := by decide +kernel
set_option maxRecDepth 100000 in
theorem kp_66_6 : mm_chk mm_tbl "FenceSidesModel" "cut" (none) prog_14_method_12_code (fun z => (kl_66[z]?).getD 0) 55 kb_66_6 = true := by decide +kernel
set_option maxRecDepth 100000 in
theorem kp_66_7 : mm_chk mm_tbl "FenceSidesModel" "cut" (none) prog_14_method_12_code (fun z => (kl_66[z]?).getD 0) 61 kb_66_7 = true := by decide +kernel
set_option maxRecDepth 100000 in
theorem kp_66_8 : mm_chk mm_tbl "FenceSidesModel" "cut" (none) prog_14_method_12_code (fun z => (kl_66[z]?).getD 0) 67 kb_66_8 = true := by decide +kernel
set_option maxRecDepth 100000 in
theorem kp_66_9 : mm_chk mm_tbl "FenceSidesModel" "cut" (none) prog_14_method_12_code (fun z => (kl_66[z]?).getD 0) 73 kb_66_9 = true := by decide +kernel
set_option maxRecDepth 100000 in
theorem kp_66_10 : mm_chk mm_tbl "FenceSidesModel" "cut" (none) prog_14_method_12_code (fun z => (kl_66[z]?).getD 0) 80 kb_66_10 = true := by decide +kernel
set_option maxRecDepth 100000 in
theorem kp_66_11 : mm_chk mm_tbl "FenceSidesModel" "cut" (none) prog_14_method_12_code (fun z => (kl_66[z]?).getD 0) 85 kb_66_11 = true := by decide +kernel
set_option maxRecDepth 100000 in
theorem kp_66_12 : mm_chk mm_tbl "FenceSidesModel" "cut" (none) prog_14_method_12_code (fun z => (kl_66[z]?).getD 0) 98 kb_66_12 = true := by decide +kernel
set_option maxRecDepth 100000 in
theorem kp_66_13 : mm_chk mm_tbl "FenceSidesModel" "cut" (none) prog_14_method_12_code (fun z => (kl_66[z]?).getD 0) 104 kb_66_13 = true := by decide +kernel
set_option maxRecDepth 100000 in
theorem kp_66_14 : mm_chk mm_tbl "FenceSidesModel" "cut" (none) prog_14_method_12_code (fun z => (kl_66[z]?).getD 0) 118 kb_66_14 = true := by decide +kernel
set_option maxRecDepth 100000 in
theorem kp_66_15 : mm_chk mm_tbl "FenceSidesModel" "cut" (none) prog_14_method_12_code (fun z => (kl_66[z]?).getD 0) 124 kb_66_15 = true := by decide +kernel
set_option maxRecDepth 100000 in
theorem kp_66_16 : mm_chk mm_tbl "FenceSidesModel" "cut" (none) prog_14_method_12_code (fun z => (kl_66[z]?).getD 0) 130 kb_66_16 = true := by decide +kernel
set_option maxRecDepth 100000 in
theorem kp_66_17 : mm_chk mm_tbl "FenceSidesModel" "cut" (none) prog_14_method_12_code (fun z => (kl_66[z]?).getD 0) 134 kb_66_17 = true := by decide +kernel
set_option maxRecDepth 100000 in
theorem kp_66_18 : mm_chk mm_tbl "FenceSidesModel" "cut" (none) prog_14_method_12_code (fun z => (kl_66[z]?).getD 0) 135 kb_66_18 = true := by decide +kernel
set_option maxRecDepth 100000 in
theorem kp_66_19 : mm_chk mm_tbl "FenceSidesModel" "cut" (none) prog_14_method_12_code (fun z => (kl_66[z]?).getD 0) 143 kb_66_19 = true := by decide +kernel
set_option maxRecDepth 100000 in
theorem kp_66_20 : mm_chk mm_tbl "FenceSidesModel" "cut" (none) prog_14_method_12_code (fun z => (kl_66[z]?).getD 0) 146 kb_66_20 = true := by decide +kernel
set_option maxRecDepth 100000 in
theorem kp_66_21 : mm_chk mm_tbl "FenceSidesModel" "cut" (none) prog_14_method_12_code (fun z => (kl_66[z]?).getD 0) 153 kb_66_21 = true := by decide +kernel
set_option maxRecDepth 100000 in
theorem kp_66_22 : mm_chk mm_tbl "FenceSidesModel" "cut" (none) prog_14_method_12_code (fun z => (kl_66[z]?).getD 0) 166 kb_66_22 = true := by decide +kernel
set_option maxRecDepth 100000 in
theorem kp_66_23 : mm_chk mm_tbl "FenceSidesModel" "cut" (none) prog_14_method_12_code (fun z => (kl_66[z]?).getD 0) 173 kb_66_23 = true := by decide +kernel
set_option maxRecDepth 100000 in
theorem kp_66_24 : mm_chk mm_tbl "FenceSidesModel" "cut" (none) prog_14_method_12_code (fun z => (kl_66[z]?).getD 0) 179 kb_66_24 = true := by decide +kernel
set_option maxRecDepth 100000 in
theorem kp_66_25 : mm_chk mm_tbl "FenceSidesModel" "cut" (none) prog_14_method_12_code (fun z => (kl_66[z]?).getD 0) 196 kb_66_25 = true := by decide +kernel
set_option maxRecDepth 100000 in
theorem kp_66_26 : mm_chk mm_tbl "FenceSidesModel" "cut" (none) prog_14_method_12_code (fun z => (kl_66[z]?).getD 0) 203 kb_66_26 = true := by decide +kernel
set_option maxRecDepth 100000 in
theorem kp_66_27 : mm_chk mm_tbl "FenceSidesModel" "cut" (none) prog_14_method_12_code (fun z => (kl_66[z]?).getD 0) 208 kb_66_27 = true := by decide +kernel
set_option maxRecDepth 100000 in
theorem kp_66_28 : mm_chk mm_tbl "FenceSidesModel" "cut" (none) prog_14_method_12_code (fun z => (kl_66[z]?).getD 0) 221 kb_66_28 = true := by decide +kernel
set_option maxRecDepth 100000 in
theorem kp_66_29 : mm_chk mm_tbl "FenceSidesModel" "cut" (none) prog_14_method_12_code (fun z => (kl_66[z]?).getD 0) 226 kb_66_29 = true := by decide +kernel
set_option maxRecDepth 100000 in
theorem kp_66_30 : mm_chk mm_tbl "FenceSidesModel" "cut" (none) prog_14_method_12_code (fun z => (kl_66[z]?).getD 0) 244 kb_66_30 = true := by decide +kernel
set_option maxRecDepth 100000 in
theorem kp_66_31 : mm_chk mm_tbl "FenceSidesModel" "cut" (none) prog_14_method_12_code (fun z => (kl_66[z]?).getD 0) 250 kb_66_31 = true := by decide +kernel
set_option maxRecDepth 100000 in
theorem kp_66_32 : mm_chk mm_tbl "FenceSidesModel" "cut" (none) prog_14_method_12_code (fun z => (kl_66[z]?).getD 0) 256 kb_66_32 = true := by decide +kernel
set_option maxRecDepth 100000 in
theorem kp_66_33 : mm_chk mm_tbl "FenceSidesModel" "cut" (none) prog_14_method_12_code (fun z => (kl_66[z]?).getD 0) 260 kb_66_33 = true := by decide +kernel
set_option maxRecDepth 100000 in
theorem kp_66_34 : mm_chk mm_tbl "FenceSidesModel" "cut" (none) prog_14_method_12_code (fun z => (kl_66[z]?).getD 0) 261 kb_66_34 = true := by decide +kernel
set_option maxRecDepth 100000 in
theorem kp_66_35 : mm_chk mm_tbl "FenceSidesModel" "cut" (none) prog_14_method_12_code (fun z => (kl_66[z]?).getD 0) 275 kb_66_35 = true := by decide +kernel
set_option maxRecDepth 100000 in
theorem kp_66_36 : mm_chk mm_tbl "FenceSidesModel" "cut" (none) prog_14_method_12_code (fun z => (kl_66[z]?).getD 0) 291 kb_66_36 = true := by decide +kernel
set_option maxRecDepth 100000 in
theorem kp_66_37 : mm_chk mm_tbl "FenceSidesModel" "cut" (none) prog_14_method_12_code (fun z => (kl_66[z]?).getD 0) 294 kb_66_37 = true := by decide +kernel
set_option maxRecDepth 100000 in
theorem kq_66 : mm_qok (kt_66, kb_66, kl_66) = true := mm_qok_of (by decide +kernel) (by decide +kernel) rfl (by
  show ∀ bl ∈ List.range 38, _
  exact List.forall_mem_cons.mpr ⟨kp_66_0, List.forall_mem_cons.mpr ⟨kp_66_1, List.forall_mem_cons.mpr ⟨kp_66_2, List.forall_mem_cons.mpr ⟨kp_66_3, List.forall_mem_cons.mpr ⟨kp_66_4, List.forall_mem_cons.mpr ⟨kp_66_5, List.forall_mem_cons.mpr ⟨kp_66_6, List.forall_mem_cons.mpr ⟨kp_66_7, List.forall_mem_cons.mpr ⟨kp_66_8, List.forall_mem_cons.mpr ⟨kp_66_9, List.forall_mem_cons.mpr ⟨kp_66_10, List.forall_mem_cons.mpr ⟨kp_66_11, List.forall_mem_cons.mpr ⟨kp_66_12, List.forall_mem_cons.mpr ⟨kp_66_13, List.forall_mem_cons.mpr ⟨kp_66_14, List.forall_mem_cons.mpr ⟨kp_66_15, List.forall_mem_cons.mpr ⟨kp_66_16, List.forall_mem_cons.mpr ⟨kp_66_17, List.forall_mem_cons.mpr ⟨kp_66_18, List.forall_mem_cons.mpr ⟨kp_66_19, List.forall_mem_cons.mpr ⟨kp_66_20, List.forall_mem_cons.mpr ⟨kp_66_21, List.forall_mem_cons.mpr ⟨kp_66_22, List.forall_mem_cons.mpr ⟨kp_66_23, List.forall_mem_cons.mpr ⟨kp_66_24, List.forall_mem_cons.mpr ⟨kp_66_25, List.forall_mem_cons.mpr ⟨kp_66_26, List.forall_mem_cons.mpr ⟨kp_66_27, List.forall_mem_cons.mpr ⟨kp_66_28, List.forall_mem_cons.mpr ⟨kp_66_29, List.forall_mem_cons.mpr ⟨kp_66_30, List.forall_mem_cons.mpr ⟨kp_66_31, List.forall_mem_cons.mpr ⟨kp_66_32, List.forall_mem_cons.mpr ⟨kp_66_33, List.forall_mem_cons.mpr ⟨kp_66_34, List.forall_mem_cons.mpr ⟨kp_66_35, List.forall_mem_cons.mpr ⟨kp_66_36, List.forall_mem_cons.mpr ⟨kp_66_37, fun _ h => absurd h List.not_mem_nil⟩⟩⟩⟩⟩⟩⟩⟩⟩⟩⟩⟩⟩⟩⟩⟩⟩⟩⟩⟩⟩⟩⟩⟩⟩⟩⟩⟩⟩⟩⟩⟩⟩⟩⟩⟩⟩⟩)
theorem kw_66 : mm_cw kt_66 := rfl
set_option maxRecDepth 100000 in
theorem kq_67 : mm_qok (kt_67, kb_67, kl_67) = true := by decide +kernel
theorem kw_67 : mm_cw kt_67 := rfl
set_option maxRecDepth 100000 in
theorem kq_68 : mm_qok (kt_68, kb_68, kl_68) = true := by decide +kernel
theorem kw_68 : mm_cw kt_68 := rfl
set_option maxRecDepth 100000 in
theorem kq_69 : mm_qok (kt_69, kb_69, kl_69) = true := by decide +kernel
theorem kw_69 : mm_cw kt_69 := rfl
set_option maxRecDepth 100000 in
theorem kq_70 : mm_qok (kt_70, kb_70, kl_70) = true := by decide +kernel
theorem kw_70 : mm_cw kt_70 := rfl
set_option maxRecDepth 100000 in
theorem kq_71 : mm_qok (kt_71, kb_71, kl_71) = true := by decide +kernel
theorem kw_71 : mm_cw kt_71 := rfl
set_option maxRecDepth 100000 in
theorem kq_72 : mm_qok (kt_72, kb_72, kl_72) = true := by decide +kernel
theorem kw_72 : mm_cw kt_72 := rfl
set_option maxRecDepth 100000 in
theorem kq_73 : mm_qok (kt_73, kb_73, kl_73) = true := by decide +kernel
theorem kw_73 : mm_cw kt_73 := rfl
set_option maxRecDepth 100000 in
theorem kp_74_0 : mm_chk mm_tbl "FenceSidesModel" "read" (some .int) prog_14_method_20_code (fun z => (kl_74[z]?).getD 0) 0 kb_74_0 = true := by decide +kernel
set_option maxRecDepth 100000 in
theorem kp_74_1 : mm_chk mm_tbl "FenceSidesModel" "read" (some .int) prog_14_method_20_code (fun z => (kl_74[z]?).getD 0) 10 kb_74_1 = true := by decide +kernel
set_option maxRecDepth 100000 in
theorem kp_74_2 : mm_chk mm_tbl "FenceSidesModel" "read" (some .int) prog_14_method_20_code (fun z => (kl_74[z]?).getD 0) 18 kb_74_2 = true := by decide +kernel
def ks_74_3_0 : List mm_I := [(2, 0, 0, 0), (7, 0, 0, 0), (24, 12, 2, 5164), (2, 0, 0, 0), (70, 66, 6143, 0), (2, 0, 0, 0), (7, 0, 0, 0), (24, 12, 11, 5173), (2, 0, 0, 0), (7, 0, 0, 0), (24, 12, 12, 5174), (2, 0, 0, 0), (7, 0, 0, 0), (24, 12, 13, 5175), (2, 0, 0, 0), (7, 0, 0, 0), (24, 12, 15, 5177), (2, 0, 0, 0), (7, 0, 0, 1), (2, 0, 0, 0), (23, 12, 18, 5180), (13, 1, 0, 0), (24, 12, 19, 5181), (2, 0, 0, 0), (7, 0, 0, 0), (24, 12, 20, 5182), (2, 0, 0, 0), (2, 0, 0, 0), (23, 12, 19, 5181), (70, 73, 5144, 0), (2, 0, 0, 0), (7, 0, 0, 130), (2, 0, 0, 0), (23, 12, 19, 5181), (13, 2, 0, 0), (24, 12, 38, 5200), (2, 0, 0, 0), (7, 0, 0, 420), (2, 0, 0, 0), (23, 12, 19, 5181)]
def ks_74_3_1 : List mm_I := [(13, 2, 0, 0), (24, 12, 44, 5206), (51, 4, 0, 0)]
set_option maxRecDepth 100000 in
theorem kv_74_3_0 : mm_seg mm_tbl "FenceSidesModel" "read" prog_14_method_20_code 36 ks_74_3_0 = some 108 := by decide +kernel
set_option maxRecDepth 100000 in
theorem kv_74_3_1 : mm_chk mm_tbl "FenceSidesModel" "read" (some .int) prog_14_method_20_code (fun z => (kl_74[z]?).getD 0) 108 ks_74_3_1 = true := by decide +kernel
theorem kp_74_3 : mm_chk mm_tbl "FenceSidesModel" "read" (some .int) prog_14_method_20_code (fun z => (kl_74[z]?).getD 0) 36 kb_74_3 = true := (mm_seg_app ks_74_3_0 _ _ _ kv_74_3_0 kv_74_3_1)
set_option maxRecDepth 100000 in
theorem kp_74_4 : mm_chk mm_tbl "FenceSidesModel" "read" (some .int) prog_14_method_20_code (fun z => (kl_74[z]?).getD 0) 112 kb_74_4 = true := by decide +kernel
set_option maxRecDepth 100000 in
theorem kp_74_5 : mm_chk mm_tbl "FenceSidesModel" "read" (some .int) prog_14_method_20_code (fun z => (kl_74[z]?).getD 0) 119 kb_74_5 = true := by decide +kernel
set_option maxRecDepth 100000 in
theorem kp_74_6 : mm_chk mm_tbl "FenceSidesModel" "read" (some .int) prog_14_method_20_code (fun z => (kl_74[z]?).getD 0) 127 kb_74_6 = true := by decide +kernel
set_option maxRecDepth 100000 in
theorem kp_74_7 : mm_chk mm_tbl "FenceSidesModel" "read" (some .int) prog_14_method_20_code (fun z => (kl_74[z]?).getD 0) 134 kb_74_7 = true := by decide +kernel
set_option maxRecDepth 100000 in
theorem kp_74_8 : mm_chk mm_tbl "FenceSidesModel" "read" (some .int) prog_14_method_20_code (fun z => (kl_74[z]?).getD 0) 142 kb_74_8 = true := by decide +kernel
set_option maxRecDepth 100000 in
theorem kp_74_9 : mm_chk mm_tbl "FenceSidesModel" "read" (some .int) prog_14_method_20_code (fun z => (kl_74[z]?).getD 0) 149 kb_74_9 = true := by decide +kernel
set_option maxRecDepth 100000 in
theorem kp_74_10 : mm_chk mm_tbl "FenceSidesModel" "read" (some .int) prog_14_method_20_code (fun z => (kl_74[z]?).getD 0) 156 kb_74_10 = true := by decide +kernel
set_option maxRecDepth 100000 in
theorem kp_74_11 : mm_chk mm_tbl "FenceSidesModel" "read" (some .int) prog_14_method_20_code (fun z => (kl_74[z]?).getD 0) 163 kb_74_11 = true := by decide +kernel
set_option maxRecDepth 100000 in
theorem kp_74_12 : mm_chk mm_tbl "FenceSidesModel" "read" (some .int) prog_14_method_20_code (fun z => (kl_74[z]?).getD 0) 164 kb_74_12 = true := by decide +kernel
set_option maxRecDepth 100000 in
theorem kp_74_13 : mm_chk mm_tbl "FenceSidesModel" "read" (some .int) prog_14_method_20_code (fun z => (kl_74[z]?).getD 0) 174 kb_74_13 = true := by decide +kernel
set_option maxRecDepth 100000 in
theorem kp_74_14 : mm_chk mm_tbl "FenceSidesModel" "read" (some .int) prog_14_method_20_code (fun z => (kl_74[z]?).getD 0) 179 kb_74_14 = true := by decide +kernel
set_option maxRecDepth 100000 in
theorem kp_74_15 : mm_chk mm_tbl "FenceSidesModel" "read" (some .int) prog_14_method_20_code (fun z => (kl_74[z]?).getD 0) 186 kb_74_15 = true := by decide +kernel
set_option maxRecDepth 100000 in
theorem kp_74_16 : mm_chk mm_tbl "FenceSidesModel" "read" (some .int) prog_14_method_20_code (fun z => (kl_74[z]?).getD 0) 191 kb_74_16 = true := by decide +kernel
set_option maxRecDepth 100000 in
theorem kp_74_17 : mm_chk mm_tbl "FenceSidesModel" "read" (some .int) prog_14_method_20_code (fun z => (kl_74[z]?).getD 0) 219 kb_74_17 = true := by decide +kernel
set_option maxRecDepth 100000 in
theorem kp_74_18 : mm_chk mm_tbl "FenceSidesModel" "read" (some .int) prog_14_method_20_code (fun z => (kl_74[z]?).getD 0) 224 kb_74_18 = true := by decide +kernel
set_option maxRecDepth 100000 in
theorem kp_74_19 : mm_chk mm_tbl "FenceSidesModel" "read" (some .int) prog_14_method_20_code (fun z => (kl_74[z]?).getD 0) 237 kb_74_19 = true := by decide +kernel
set_option maxRecDepth 100000 in
theorem kq_74 : mm_qok (kt_74, kb_74, kl_74) = true := mm_qok_of (by decide +kernel) (by decide +kernel) rfl (by
  show ∀ bl ∈ List.range 20, _
  exact List.forall_mem_cons.mpr ⟨kp_74_0, List.forall_mem_cons.mpr ⟨kp_74_1, List.forall_mem_cons.mpr ⟨kp_74_2, List.forall_mem_cons.mpr ⟨kp_74_3, List.forall_mem_cons.mpr ⟨kp_74_4, List.forall_mem_cons.mpr ⟨kp_74_5, List.forall_mem_cons.mpr ⟨kp_74_6, List.forall_mem_cons.mpr ⟨kp_74_7, List.forall_mem_cons.mpr ⟨kp_74_8, List.forall_mem_cons.mpr ⟨kp_74_9, List.forall_mem_cons.mpr ⟨kp_74_10, List.forall_mem_cons.mpr ⟨kp_74_11, List.forall_mem_cons.mpr ⟨kp_74_12, List.forall_mem_cons.mpr ⟨kp_74_13, List.forall_mem_cons.mpr ⟨kp_74_14, List.forall_mem_cons.mpr ⟨kp_74_15, List.forall_mem_cons.mpr ⟨kp_74_16, List.forall_mem_cons.mpr ⟨kp_74_17, List.forall_mem_cons.mpr ⟨kp_74_18, List.forall_mem_cons.mpr ⟨kp_74_19, fun _ h => absurd h List.not_mem_nil⟩⟩⟩⟩⟩⟩⟩⟩⟩⟩⟩⟩⟩⟩⟩⟩⟩⟩⟩⟩)
theorem kw_74 : mm_cw kt_74 := rfl
