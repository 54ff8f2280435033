/-! ===== checks: by program ===== -/
set_option maxRecDepth 100000 in
theorem kq_124 : mm_qok (kt_124, kb_124, kl_124) = true := by decide +kernel
theorem kw_124 : mm_cw kt_124 := rfl
set_option maxRecDepth 100000 in
theorem kq_125 : mm_qok (kt_125, kb_125, kl_125) = true := by decide +kernel
theorem kw_125 : mm_cw kt_125 := rfl
set_option maxRecDepth 100000 in
theorem kq_126 : mm_qok (kt_126, kb_126, kl_126) = true := by decide +kernel
theorem kw_126 : mm_cw kt_126 := rfl
set_option maxRecDepth 100000 in
theorem kq_127 : mm_qok (kt_127, kb_127, kl_127) = true := by decide +kernel
theorem kw_127 : mm_cw kt_127 := rfl
set_option maxRecDepth 100000 in
theorem kq_128 : mm_qok (kt_128, kb_128, kl_128) = true := by decide +kernel
theorem kw_128 : mm_cw kt_128 := rfl
set_option maxRecDepth 100000 in
theorem kq_129 : mm_qok (kt_129, kb_129, kl_129) = true := by decide +kernel
theorem kw_129 : mm_cw kt_129 := rfl
set_option maxRecDepth 100000 in
theorem kq_130 : mm_qok (kt_130, kb_130, kl_130) = true := by decide +kernel
theorem kw_130 : mm_cw kt_130 := rfl
set_option maxRecDepth 100000 in
theorem kq_131 : mm_qok (kt_131, kb_131, kl_131) = true := by decide +kernel
theorem kw_131 : mm_cw kt_131 := rfl
set_option maxRecDepth 100000 in
theorem kq_132 : mm_qok (kt_132, kb_132, kl_132) = true := by decide +kernel
theorem kw_132 : mm_cw kt_132 := rfl
set_option maxRecDepth 100000 in
theorem kq_133 : mm_qok (kt_133, kb_133, kl_133) = true := by decide +kernel
theorem kw_133 : mm_cw kt_133 := rfl
set_option maxRecDepth 100000 in
theorem kq_134 : mm_qok (kt_134, kb_134, kl_134) = true := by decide +kernel
theorem kw_134 : mm_cw kt_134 := rfl
set_option maxRecDepth 100000 in
theorem kq_135 : mm_qok (kt_135, kb_135, kl_135) = true := by decide +kernel
theorem kw_135 : mm_cw kt_135 := rfl
set_option maxRecDepth 100000 in
theorem kq_136 : mm_qok (kt_136, kb_136, kl_136) = true := by decide +kernel
theorem kw_136 : mm_cw kt_136 := rfl
set_option maxRecDepth 100000 in
theorem kq_137 : mm_qok (kt_137, kb_137, kl_137) = true := by decide +kernel
theorem kw_137 : mm_cw kt_137 := rfl
set_option maxRecDepth 100000 in
theorem kq_138 : mm_qok (kt_138, kb_138, kl_138) = true := by decide +kernel
theorem kw_138 : mm_cw kt_138 := rfl
set_option maxRecDepth 100000 in
theorem kq_139 : mm_qok (kt_139, kb_139, kl_139) = true := by decide +kernel
theorem kw_139 : mm_cw kt_139 := rfl
set_option maxRecDepth 100000 in
theorem kq_140 : mm_qok (kt_140, kb_140, kl_140) = true := by decide +kernel
theorem kw_140 : mm_cw kt_140 := rfl
set_option maxRecDepth 100000 in
theorem kq_141 : mm_qok (kt_141, kb_141, kl_141) = true := by decide +kernel
theorem kw_141 : mm_cw kt_141 := rfl
set_option maxRecDepth 100000 in
theorem kq_142 : mm_qok (kt_142, kb_142, kl_142) = true := by decide +kernel
theorem kw_142 : mm_cw kt_142 := rfl
set_option maxRecDepth 100000 in
theorem kq_143 : mm_qok (kt_143, kb_143, kl_143) = true := by decide +kernel
theorem kw_143 : mm_cw kt_143 := rfl
set_option maxRecDepth 100000 in
theorem kq_144 : mm_qok (kt_144, kb_144, kl_144) = true := by decide +kernel
theorem kw_144 : mm_cw kt_144 := rfl
set_option maxRecDepth 100000 in
theorem kq_145 : mm_qok (kt_145, kb_145, kl_145) = true := by decide +kernel
theorem kw_145 : mm_cw kt_145 := rfl
set_option maxRecDepth 100000 in
theorem kq_146 : mm_qok (kt_146, kb_146, kl_146) = true := by decide +kernel
theorem kw_146 : mm_cw kt_146 := rfl
set_option maxRecDepth 100000 in
theorem kq_147 : mm_qok (kt_147, kb_147, kl_147) = true := by decide +kernel
theorem kw_147 : mm_cw kt_147 := rfl
set_option maxRecDepth 100000 in
theorem kq_148 : mm_qok (kt_148, kb_148, kl_148) = true := by decide +kernel
theorem kw_148 : mm_cw kt_148 := rfl
set_option maxRecDepth 100000 in
theorem kq_149 : mm_qok (kt_149, kb_149, kl_149) = true := by decide +kernel
theorem kw_149 : mm_cw kt_149 := rfl
set_option maxRecDepth 100000 in
theorem kq_150 : mm_qok (kt_150, kb_150, kl_150) = true := by decide +kernel
theorem kw_150 : mm_cw kt_150 := rfl
set_option maxRecDepth 100000 in
theorem kq_151 : mm_qok (kt_151, kb_151, kl_151) = true := by decide +kernel
theorem kw_151 : mm_cw kt_151 := rfl
set_option maxRecDepth 100000 in
theorem kq_152 : mm_qok (kt_152, kb_152, kl_152) = true := by decide +kernel
theorem kw_152 : mm_cw kt_152 := rfl
set_option maxRecDepth 100000 in
theorem kq_153 : mm_qok (kt_153, kb_153, kl_153) = true := by decide +kernel
theorem kw_153 : mm_cw kt_153 := rfl
set_option maxRecDepth 100000 in
theorem kq_154 : mm_qok (kt_154, kb_154, kl_154) = true := by decide +kernel
theorem kw_154 : mm_cw kt_154 := rfl
set_option maxRecDepth 100000 in
theorem kq_155 : mm_qok (kt_155, kb_155, kl_155) = true := by decide +kernel
theorem kw_155 : mm_cw kt_155 := rfl
set_option maxRecDepth 100000 in
theorem kq_156 : mm_qok (kt_156, kb_156, kl_156) = true := by decide +kernel
theorem kw_156 : mm_cw kt_156 := rfl
set_option maxRecDepth 100000 in
theorem kq_157 : mm_qok (kt_157, kb_157, kl_157) = true := by decide +kernel
theorem kw_157 : mm_cw kt_157 := rfl
set_option maxRecDepth 100000 in
theorem kq_158 : mm_qok (kt_158, kb_158, kl_158) = true := by decide +kernel
theorem kw_158 : mm_cw kt_158 := rfl
set_option maxRecDepth 100000 in
theorem kq_159 : mm_qok (kt_159, kb_159, kl_159) = true := by decide +kernel
theorem kw_159 : mm_cw kt_159 := rfl
set_option maxRecDepth 100000 in
theorem kq_160 : mm_qok (kt_160, kb_160, kl_160) = true := by decide +kernel
theorem kw_160 : mm_cw kt_160 := rfl
set_option maxRecDepth 100000 in
theorem kq_161 : mm_qok (kt_161, kb_161, kl_161) = true := by decide +kernel
theorem kw_161 : mm_cw kt_161 := rfl
set_option maxRecDepth 100000 in
theorem kq_162 : mm_qok (kt_162, kb_162, kl_162) = true := by decide +kernel
theorem kw_162 : mm_cw kt_162 := rfl
set_option maxRecDepth 100000 in
theorem kq_163 : mm_qok (kt_163, kb_163, kl_163) = true := by decide +kernel
theorem kw_163 : mm_cw kt_163 := rfl
set_option maxRecDepth 100000 in
theorem kq_164 : mm_qok (kt_164, kb_164, kl_164) = true := by decide +kernel
theorem kw_164 : mm_cw kt_164 := rfl
set_option maxRecDepth 100000 in
theorem kq_165 : mm_qok (kt_165, kb_165, kl_165) = true := by decide +kernel
theorem kw_165 : mm_cw kt_165 := rfl
set_option maxRecDepth 100000 in
theorem kq_166 : mm_qok (kt_166, kb_166, kl_166) = true := by decide +kernel
theorem kw_166 : mm_cw kt_166 := rfl
set_option maxRecDepth 100000 in
theorem kq_167 : mm_qok (kt_167, kb_167, kl_167) = true := by decide +kernel
theorem kw_167 : mm_cw kt_167 := rfl
set_option maxRecDepth 100000 in
theorem kq_168 : mm_qok (kt_168, kb_168, kl_168) = true := by decide +kernel
theorem kw_168 : mm_cw kt_168 := rfl
set_option maxRecDepth 100000 in
theorem kq_169 : mm_qok (kt_169, kb_169, kl_169) = true := by decide +kernel
theorem kw_169 : mm_cw kt_169 := rfl
set_option maxRecDepth 100000 in
theorem kq_170 : mm_qok (kt_170, kb_170, kl_170) = true := by decide +kernel
theorem kw_170 : mm_cw kt_170 := rfl
set_option maxRecDepth 100000 in
theorem kq_171 : mm_qok (kt_171, kb_171, kl_171) = true := by decide +kernel
theorem kw_171 : mm_cw kt_171 := rfl
set_option maxRecDepth 100000 in
theorem kq_172 : mm_qok (kt_172, kb_172, kl_172) = true := by decide +kernel
theorem kw_172 : mm_cw kt_172 := rfl
set_option maxRecDepth 100000 in
theorem kq_173 : mm_qok (kt_173, kb_173, kl_173) = true := by decide +kernel
theorem kw_173 : mm_cw kt_173 := rfl
set_option maxRecDepth 100000 in
theorem kq_174 : mm_qok (kt_174, kb_174, kl_174) = true := by decide +kernel
theorem kw_174 : mm_cw kt_174 := rfl
set_option maxRecDepth 100000 in
theorem kq_175 : mm_qok (kt_175, kb_175, kl_175) = true := by decide +kernel
theorem kw_175 : mm_cw kt_175 := rfl
set_option maxRecDepth 100000 in
theorem kq_176 : mm_qok (kt_176, kb_176, kl_176) = true := by decide +kernel
theorem kw_176 : mm_cw kt_176 := rfl
set_option maxRecDepth 100000 in
theorem kq_177 : mm_qok (kt_177, kb_177, kl_177) = true := by decide +kernel
theorem kw_177 : mm_cw kt_177 := rfl
set_option maxRecDepth 100000 in
theorem kq_178 : mm_qok (kt_178, kb_178, kl_178) = true := by decide +kernel
theorem kw_178 : mm_cw kt_178 := rfl
set_option maxRecDepth 100000 in
theorem kq_179 : mm_qok (kt_179, kb_179, kl_179) = true := by decide +kernel
theorem kw_179 : mm_cw kt_179 := rfl
set_option maxRecDepth 100000 in
theorem kq_180 : mm_qok (kt_180, kb_180, kl_180) = true := by decide +kernel
theorem kw_180 : mm_cw kt_180 := rfl
