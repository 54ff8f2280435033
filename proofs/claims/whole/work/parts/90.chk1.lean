/-! ===== checks: by program ===== -/
set_option maxRecDepth 100000 in
theorem kq_61 : mm_qok (kt_61, kb_61, kl_61) = true := by decide +kernel
theorem kw_61 : mm_cw kt_61 := rfl
set_option maxRecDepth 100000 in
theorem kq_62 : mm_qok (kt_62, kb_62, kl_62) = true := by decide +kernel
theorem kw_62 : mm_cw kt_62 := rfl
set_option maxRecDepth 100000 in
theorem kq_63 : mm_qok (kt_63, kb_63, kl_63) = true := by decide +kernel
theorem kw_63 : mm_cw kt_63 := rfl
set_option maxRecDepth 100000 in
theorem kq_64 : mm_qok (kt_64, kb_64, kl_64) = true := by decide +kernel
theorem kw_64 : mm_cw kt_64 := rfl
set_option maxRecDepth 100000 in
theorem kq_65 : mm_qok (kt_65, kb_65, kl_65) = true := by decide +kernel
theorem kw_65 : mm_cw kt_65 := rfl
set_option maxRecDepth 100000 in
theorem kq_66 : mm_qok (kt_66, kb_66, kl_66) = true := by decide +kernel
theorem kw_66 : mm_cw kt_66 := rfl
set_option maxRecDepth 100000 in
theorem kq_67 : mm_qok (kt_67, kb_67, kl_67) = true := by decide +kernel
theorem kw_67 : mm_cw kt_67 := rfl
set_option maxRecDepth 100000 in
theorem kq_68 : mm_qok (kt_68, kb_68, kl_68) = true := by decide +kernel
theorem kw_68 : mm_cw kt_68 := rfl
set_option maxRecDepth 100000 in
theorem kq_69 : mm_qok (kt_69, kb_69, kl_69) = true := by decide +kernel
theorem kw_69 : mm_cw kt_69 := rfl
set_option maxRecDepth 100000 in
theorem kq_70 : mm_qok (kt_70, kb_70, kl_70) = true := by decide +kernel
theorem kw_70 : mm_cw kt_70 := rfl
set_option maxRecDepth 100000 in
theorem kq_71 : mm_qok (kt_71, kb_71, kl_71) = true := by decide +kernel
theorem kw_71 : mm_cw kt_71 := rfl
set_option maxRecDepth 100000 in
theorem kq_72 : mm_qok (kt_72, kb_72, kl_72) = true := by decide +kernel
theorem kw_72 : mm_cw kt_72 := rfl
set_option maxRecDepth 100000 in
theorem kq_73 : mm_qok (kt_73, kb_73, kl_73) = true := by decide +kernel
theorem kw_73 : mm_cw kt_73 := rfl
set_option maxRecDepth 100000 in
theorem kq_74 : mm_qok (kt_74, kb_74, kl_74) = true := by decide +kernel
theorem kw_74 : mm_cw kt_74 := rfl
set_option maxRecDepth 100000 in
theorem kq_75 : mm_qok (kt_75, kb_75, kl_75) = true := by decide +kernel
theorem kw_75 : mm_cw kt_75 := rfl
set_option maxRecDepth 100000 in
theorem kq_76 : mm_qok (kt_76, kb_76, kl_76) = true := by decide +kernel
theorem kw_76 : mm_cw kt_76 := rfl
set_option maxRecDepth 100000 in
theorem kq_77 : mm_qok (kt_77, kb_77, kl_77) = true := by decide +kernel
theorem kw_77 : mm_cw kt_77 := rfl
set_option maxRecDepth 100000 in
theorem kq_78 : mm_qok (kt_78, kb_78, kl_78) = true := by decide +kernel
theorem kw_78 : mm_cw kt_78 := rfl
set_option maxRecDepth 100000 in
theorem kq_79 : mm_qok (kt_79, kb_79, kl_79) = true := by decide +kernel
theorem kw_79 : mm_cw kt_79 := rfl
set_option maxRecDepth 100000 in
theorem kq_80 : mm_qok (kt_80, kb_80, kl_80) = true := by decide +kernel
theorem kw_80 : mm_cw kt_80 := rfl
set_option maxRecDepth 100000 in
theorem kq_81 : mm_qok (kt_81, kb_81, kl_81) = true := by decide +kernel
theorem kw_81 : mm_cw kt_81 := rfl
set_option maxRecDepth 100000 in
theorem kq_82 : mm_qok (kt_82, kb_82, kl_82) = true := by decide +kernel
theorem kw_82 : mm_cw kt_82 := rfl
set_option maxRecDepth 100000 in
theorem kq_83 : mm_qok (kt_83, kb_83, kl_83) = true := by decide +kernel
theorem kw_83 : mm_cw kt_83 := rfl
set_option maxRecDepth 100000 in
theorem kq_84 : mm_qok (kt_84, kb_84, kl_84) = true := by decide +kernel
theorem kw_84 : mm_cw kt_84 := rfl
set_option maxRecDepth 100000 in
theorem kq_85 : mm_qok (kt_85, kb_85, kl_85) = true := by decide +kernel
theorem kw_85 : mm_cw kt_85 := rfl
set_option maxRecDepth 100000 in
theorem kq_86 : mm_qok (kt_86, kb_86, kl_86) = true := by decide +kernel
theorem kw_86 : mm_cw kt_86 := rfl
set_option maxRecDepth 100000 in
theorem kq_87 : mm_qok (kt_87, kb_87, kl_87) = true := by decide +kernel
theorem kw_87 : mm_cw kt_87 := rfl
set_option maxRecDepth 100000 in
theorem kq_88 : mm_qok (kt_88, kb_88, kl_88) = true := by decide +kernel
theorem kw_88 : mm_cw kt_88 := rfl
set_option maxRecDepth 100000 in
theorem kq_89 : mm_qok (kt_89, kb_89, kl_89) = true := by decide +kernel
theorem kw_89 : mm_cw kt_89 := rfl
set_option maxRecDepth 100000 in
theorem kq_90 : mm_qok (kt_90, kb_90, kl_90) = true := by decide +kernel
theorem kw_90 : mm_cw kt_90 := rfl
set_option maxRecDepth 100000 in
theorem kq_91 : mm_qok (kt_91, kb_91, kl_91) = true := by decide +kernel
theorem kw_91 : mm_cw kt_91 := rfl
set_option maxRecDepth 100000 in
theorem kq_92 : mm_qok (kt_92, kb_92, kl_92) = true := by decide +kernel
theorem kw_92 : mm_cw kt_92 := rfl
set_option maxRecDepth 100000 in
theorem kq_93 : mm_qok (kt_93, kb_93, kl_93) = true := by decide +kernel
theorem kw_93 : mm_cw kt_93 := rfl
set_option maxRecDepth 100000 in
theorem kq_94 : mm_qok (kt_94, kb_94, kl_94) = true := by decide +kernel
theorem kw_94 : mm_cw kt_94 := rfl
set_option maxRecDepth 100000 in
theorem kq_95 : mm_qok (kt_95, kb_95, kl_95) = true := by decide +kernel
theorem kw_95 : mm_cw kt_95 := rfl
set_option maxRecDepth 100000 in
theorem kq_96 : mm_qok (kt_96, kb_96, kl_96) = true := by decide +kernel
theorem kw_96 : mm_cw kt_96 := rfl
set_option maxRecDepth 100000 in
theorem kq_97 : mm_qok (kt_97, kb_97, kl_97) = true := by decide +kernel
theorem kw_97 : mm_cw kt_97 := rfl
set_option maxRecDepth 100000 in
theorem kq_98 : mm_qok (kt_98, kb_98, kl_98) = true := by decide +kernel
theorem kw_98 : mm_cw kt_98 := rfl
set_option maxRecDepth 100000 in
theorem kq_99 : mm_qok (kt_99, kb_99, kl_99) = true := by decide +kernel
theorem kw_99 : mm_cw kt_99 := rfl
set_option maxRecDepth 100000 in
theorem kq_100 : mm_qok (kt_100, kb_100, kl_100) = true := by decide +kernel
theorem kw_100 : mm_cw kt_100 := rfl
set_option maxRecDepth 100000 in
theorem kq_101 : mm_qok (kt_101, kb_101, kl_101) = true := by decide +kernel
theorem kw_101 : mm_cw kt_101 := rfl
set_option maxRecDepth 100000 in
theorem kq_102 : mm_qok (kt_102, kb_102, kl_102) = true := by decide +kernel
theorem kw_102 : mm_cw kt_102 := rfl
set_option maxRecDepth 100000 in
theorem kq_103 : mm_qok (kt_103, kb_103, kl_103) = true := by decide +kernel
theorem kw_103 : mm_cw kt_103 := rfl
set_option maxRecDepth 100000 in
theorem kq_104 : mm_qok (kt_104, kb_104, kl_104) = true := by decide +kernel
theorem kw_104 : mm_cw kt_104 := rfl
set_option maxRecDepth 100000 in
theorem kq_105 : mm_qok (kt_105, kb_105, kl_105) = true := by decide +kernel
theorem kw_105 : mm_cw kt_105 := rfl
set_option maxRecDepth 100000 in
theorem kq_106 : mm_qok (kt_106, kb_106, kl_106) = true := by decide +kernel
theorem kw_106 : mm_cw kt_106 := rfl
set_option maxRecDepth 100000 in
theorem kq_107 : mm_qok (kt_107, kb_107, kl_107) = true := by decide +kernel
theorem kw_107 : mm_cw kt_107 := rfl
set_option maxRecDepth 100000 in
theorem kq_108 : mm_qok (kt_108, kb_108, kl_108) = true := by decide +kernel
theorem kw_108 : mm_cw kt_108 := rfl
set_option maxRecDepth 100000 in
theorem kq_109 : mm_qok (kt_109, kb_109, kl_109) = true := by decide +kernel
theorem kw_109 : mm_cw kt_109 := rfl
set_option maxRecDepth 100000 in
theorem kq_110 : mm_qok (kt_110, kb_110, kl_110) = true := by decide +kernel
theorem kw_110 : mm_cw kt_110 := rfl
set_option maxRecDepth 100000 in
theorem kq_111 : mm_qok (kt_111, kb_111, kl_111) = true := by decide +kernel
theorem kw_111 : mm_cw kt_111 := rfl
set_option maxRecDepth 100000 in
theorem kq_112 : mm_qok (kt_112, kb_112, kl_112) = true := by decide +kernel
theorem kw_112 : mm_cw kt_112 := rfl
set_option maxRecDepth 100000 in
theorem kq_113 : mm_qok (kt_113, kb_113, kl_113) = true := by decide +kernel
theorem kw_113 : mm_cw kt_113 := rfl
set_option maxRecDepth 100000 in
theorem kq_114 : mm_qok (kt_114, kb_114, kl_114) = true := by decide +kernel
theorem kw_114 : mm_cw kt_114 := rfl
set_option maxRecDepth 100000 in
theorem kq_115 : mm_qok (kt_115, kb_115, kl_115) = true := by decide +kernel
theorem kw_115 : mm_cw kt_115 := rfl
set_option maxRecDepth 100000 in
theorem kq_116 : mm_qok (kt_116, kb_116, kl_116) = true := by decide +kernel
theorem kw_116 : mm_cw kt_116 := rfl
set_option maxRecDepth 100000 in
theorem kq_117 : mm_qok (kt_117, kb_117, kl_117) = true := by decide +kernel
theorem kw_117 : mm_cw kt_117 := rfl
set_option maxRecDepth 100000 in
theorem kq_118 : mm_qok (kt_118, kb_118, kl_118) = true := by decide +kernel
theorem kw_118 : mm_cw kt_118 := rfl
set_option maxRecDepth 100000 in
theorem kq_119 : mm_qok (kt_119, kb_119, kl_119) = true := by decide +kernel
theorem kw_119 : mm_cw kt_119 := rfl
set_option maxRecDepth 100000 in
theorem kq_120 : mm_qok (kt_120, kb_120, kl_120) = true := by decide +kernel
theorem kw_120 : mm_cw kt_120 := rfl
set_option maxRecDepth 100000 in
theorem kq_121 : mm_qok (kt_121, kb_121, kl_121) = true := by decide +kernel
theorem kw_121 : mm_cw kt_121 := rfl
set_option maxRecDepth 100000 in
theorem kq_122 : mm_qok (kt_122, kb_122, kl_122) = true := by decide +kernel
theorem kw_122 : mm_cw kt_122 := rfl
set_option maxRecDepth 100000 in
theorem kq_123 : mm_qok (kt_123, kb_123, kl_123) = true := by decide +kernel
theorem kw_123 : mm_cw kt_123 := rfl
