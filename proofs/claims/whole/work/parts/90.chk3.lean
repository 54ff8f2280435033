/-! ===== checks: by program ===== -/
set_option maxRecDepth 100000 in
theorem kq_181 : mm_qok (kt_181, kb_181, kl_181) = true := by decide +kernel
theorem kw_181 : mm_cw kt_181 := rfl
set_option maxRecDepth 100000 in
theorem kq_182 : mm_qok (kt_182, kb_182, kl_182) = true := by decide +kernel
theorem kw_182 : mm_cw kt_182 := rfl
set_option maxRecDepth 100000 in
theorem kq_183 : mm_qok (kt_183, kb_183, kl_183) = true := by decide +kernel
theorem kw_183 : mm_cw kt_183 := rfl
set_option maxRecDepth 100000 in
theorem kq_184 : mm_qok (kt_184, kb_184, kl_184) = true := by decide +kernel
theorem kw_184 : mm_cw kt_184 := rfl
set_option maxRecDepth 100000 in
theorem kq_185 : mm_qok (kt_185, kb_185, kl_185) = true := by decide +kernel
theorem kw_185 : mm_cw kt_185 := rfl
set_option maxRecDepth 100000 in
theorem kq_186 : mm_qok (kt_186, kb_186, kl_186) = true := by decide +kernel
theorem kw_186 : mm_cw kt_186 := rfl
set_option maxRecDepth 100000 in
theorem kq_187 : mm_qok (kt_187, kb_187, kl_187) = true := by decide +kernel
theorem kw_187 : mm_cw kt_187 := rfl
set_option maxRecDepth 100000 in
theorem kq_188 : mm_qok (kt_188, kb_188, kl_188) = true := by decide +kernel
theorem kw_188 : mm_cw kt_188 := rfl
set_option maxRecDepth 100000 in
theorem kq_189 : mm_qok (kt_189, kb_189, kl_189) = true := by decide +kernel
theorem kw_189 : mm_cw kt_189 := rfl
set_option maxRecDepth 100000 in
theorem kq_190 : mm_qok (kt_190, kb_190, kl_190) = true := by decide +kernel
theorem kw_190 : mm_cw kt_190 := rfl
set_option maxRecDepth 100000 in
theorem kq_191 : mm_qok (kt_191, kb_191, kl_191) = true := by decide +kernel
theorem kw_191 : mm_cw kt_191 := rfl
set_option maxRecDepth 100000 in
theorem kq_192 : mm_qok (kt_192, kb_192, kl_192) = true := by decide +kernel
theorem kw_192 : mm_cw kt_192 := rfl
set_option maxRecDepth 100000 in
theorem kq_193 : mm_qok (kt_193, kb_193, kl_193) = true := by decide +kernel
theorem kw_193 : mm_cw kt_193 := rfl
set_option maxRecDepth 100000 in
theorem kq_194 : mm_qok (kt_194, kb_194, kl_194) = true := by decide +kernel
theorem kw_194 : mm_cw kt_194 := rfl
set_option maxRecDepth 100000 in
theorem kq_195 : mm_qok (kt_195, kb_195, kl_195) = true := by decide +kernel
theorem kw_195 : mm_cw kt_195 := rfl
set_option maxRecDepth 100000 in
theorem kq_196 : mm_qok (kt_196, kb_196, kl_196) = true := by decide +kernel
theorem kw_196 : mm_cw kt_196 := rfl
set_option maxRecDepth 100000 in
theorem kq_197 : mm_qok (kt_197, kb_197, kl_197) = true := by decide +kernel
theorem kw_197 : mm_cw kt_197 := rfl
set_option maxRecDepth 100000 in
theorem kq_198 : mm_qok (kt_198, kb_198, kl_198) = true := by decide +kernel
theorem kw_198 : mm_cw kt_198 := rfl
set_option maxRecDepth 100000 in
theorem kq_199 : mm_qok (kt_199, kb_199, kl_199) = true := by decide +kernel
theorem kw_199 : mm_cw kt_199 := rfl
set_option maxRecDepth 100000 in
theorem kq_200 : mm_qok (kt_200, kb_200, kl_200) = true := by decide +kernel
theorem kw_200 : mm_cw kt_200 := rfl
set_option maxRecDepth 100000 in
theorem kq_201 : mm_qok (kt_201, kb_201, kl_201) = true := by decide +kernel
theorem kw_201 : mm_cw kt_201 := rfl
set_option maxRecDepth 100000 in
theorem kq_202 : mm_qok (kt_202, kb_202, kl_202) = true := by decide +kernel
theorem kw_202 : mm_cw kt_202 := rfl
set_option maxRecDepth 100000 in
theorem kq_203 : mm_qok (kt_203, kb_203, kl_203) = true := by decide +kernel
theorem kw_203 : mm_cw kt_203 := rfl
set_option maxRecDepth 100000 in
theorem kq_204 : mm_qok (kt_204, kb_204, kl_204) = true := by decide +kernel
theorem kw_204 : mm_cw kt_204 := rfl
set_option maxRecDepth 100000 in
theorem kq_205 : mm_qok (kt_205, kb_205, kl_205) = true := by decide +kernel
theorem kw_205 : mm_cw kt_205 := rfl
set_option maxRecDepth 100000 in
theorem kq_206 : mm_qok (kt_206, kb_206, kl_206) = true := by decide +kernel
theorem kw_206 : mm_cw kt_206 := rfl
set_option maxRecDepth 100000 in
theorem kq_207 : mm_qok (kt_207, kb_207, kl_207) = true := by decide +kernel
theorem kw_207 : mm_cw kt_207 := rfl
set_option maxRecDepth 100000 in
theorem kq_208 : mm_qok (kt_208, kb_208, kl_208) = true := by decide +kernel
theorem kw_208 : mm_cw kt_208 := rfl
set_option maxRecDepth 100000 in
theorem kq_209 : mm_qok (kt_209, kb_209, kl_209) = true := by decide +kernel
theorem kw_209 : mm_cw kt_209 := rfl
set_option maxRecDepth 100000 in
theorem kq_210 : mm_qok (kt_210, kb_210, kl_210) = true := by decide +kernel
theorem kw_210 : mm_cw kt_210 := rfl
set_option maxRecDepth 100000 in
theorem kq_211 : mm_qok (kt_211, kb_211, kl_211) = true := by decide +kernel
theorem kw_211 : mm_cw kt_211 := rfl
set_option maxRecDepth 100000 in
theorem kq_212 : mm_qok (kt_212, kb_212, kl_212) = true := by decide +kernel
theorem kw_212 : mm_cw kt_212 := rfl
set_option maxRecDepth 100000 in
theorem kq_213 : mm_qok (kt_213, kb_213, kl_213) = true := by decide +kernel
theorem kw_213 : mm_cw kt_213 := rfl
set_option maxRecDepth 100000 in
theorem kq_214 : mm_qok (kt_214, kb_214, kl_214) = true := by decide +kernel
theorem kw_214 : mm_cw kt_214 := rfl
set_option maxRecDepth 100000 in
theorem kq_215 : mm_qok (kt_215, kb_215, kl_215) = true := by decide +kernel
theorem kw_215 : mm_cw kt_215 := rfl
set_option maxRecDepth 100000 in
theorem kq_216 : mm_qok (kt_216, kb_216, kl_216) = true := by decide +kernel
theorem kw_216 : mm_cw kt_216 := rfl
set_option maxRecDepth 100000 in
theorem kq_217 : mm_qok (kt_217, kb_217, kl_217) = true := by decide +kernel
theorem kw_217 : mm_cw kt_217 := rfl
set_option maxRecDepth 100000 in
theorem kq_218 : mm_qok (kt_218, kb_218, kl_218) = true := by decide +kernel
theorem kw_218 : mm_cw kt_218 := rfl
set_option maxRecDepth 100000 in
theorem kq_219 : mm_qok (kt_219, kb_219, kl_219) = true := by decide +kernel
theorem kw_219 : mm_cw kt_219 := rfl
set_option maxRecDepth 100000 in
theorem kq_220 : mm_qok (kt_220, kb_220, kl_220) = true := by decide +kernel
theorem kw_220 : mm_cw kt_220 := rfl
set_option maxRecDepth 100000 in
theorem kq_221 : mm_qok (kt_221, kb_221, kl_221) = true := by decide +kernel
theorem kw_221 : mm_cw kt_221 := rfl
set_option maxRecDepth 100000 in
theorem kq_222 : mm_qok (kt_222, kb_222, kl_222) = true := by decide +kernel
theorem kw_222 : mm_cw kt_222 := rfl
set_option maxRecDepth 100000 in
theorem kq_223 : mm_qok (kt_223, kb_223, kl_223) = true := by decide +kernel
theorem kw_223 : mm_cw kt_223 := rfl
set_option maxRecDepth 100000 in
theorem kq_224 : mm_qok (kt_224, kb_224, kl_224) = true := by decide +kernel
theorem kw_224 : mm_cw kt_224 := rfl
set_option maxRecDepth 100000 in
theorem kq_225 : mm_qok (kt_225, kb_225, kl_225) = true := by decide +kernel
theorem kw_225 : mm_cw kt_225 := rfl
set_option maxRecDepth 100000 in
theorem kq_226 : mm_qok (kt_226, kb_226, kl_226) = true := by decide +kernel
theorem kw_226 : mm_cw kt_226 := rfl
set_option maxRecDepth 100000 in
theorem kq_227 : mm_qok (kt_227, kb_227, kl_227) = true := by decide +kernel
theorem kw_227 : mm_cw kt_227 := rfl
set_option maxRecDepth 100000 in
theorem kq_228 : mm_qok (kt_228, kb_228, kl_228) = true := by decide +kernel
theorem kw_228 : mm_cw kt_228 := rfl
set_option maxRecDepth 100000 in
theorem kq_229 : mm_qok (kt_229, kb_229, kl_229) = true := by decide +kernel
theorem kw_229 : mm_cw kt_229 := rfl
set_option maxRecDepth 100000 in
theorem kq_230 : mm_qok (kt_230, kb_230, kl_230) = true := by decide +kernel
theorem kw_230 : mm_cw kt_230 := rfl
set_option maxRecDepth 100000 in
theorem kq_231 : mm_qok (kt_231, kb_231, kl_231) = true := by decide +kernel
theorem kw_231 : mm_cw kt_231 := rfl
set_option maxRecDepth 100000 in
theorem kq_232 : mm_qok (kt_232, kb_232, kl_232) = true := by decide +kernel
theorem kw_232 : mm_cw kt_232 := rfl
set_option maxRecDepth 100000 in
theorem kq_233 : mm_qok (kt_233, kb_233, kl_233) = true := by decide +kernel
theorem kw_233 : mm_cw kt_233 := rfl
set_option maxRecDepth 100000 in
theorem kq_234 : mm_qok (kt_234, kb_234, kl_234) = true := by decide +kernel
theorem kw_234 : mm_cw kt_234 := rfl
set_option maxRecDepth 100000 in
theorem kq_235 : mm_qok (kt_235, kb_235, kl_235) = true := by decide +kernel
theorem kw_235 : mm_cw kt_235 := rfl
set_option maxRecDepth 100000 in
theorem kq_236 : mm_qok (kt_236, kb_236, kl_236) = true := by decide +kernel
theorem kw_236 : mm_cw kt_236 := rfl
set_option maxRecDepth 100000 in
theorem kq_237 : mm_qok (kt_237, kb_237, kl_237) = true := by decide +kernel
theorem kw_237 : mm_cw kt_237 := rfl
set_option maxRecDepth 100000 in
theorem kq_238 : mm_qok (kt_238, kb_238, kl_238) = true := by decide +kernel
theorem kw_238 : mm_cw kt_238 := rfl
set_option maxRecDepth 100000 in
theorem kq_239 : mm_qok (kt_239, kb_239, kl_239) = true := by decide +kernel
theorem kw_239 : mm_cw kt_239 := rfl
set_option maxRecDepth 100000 in
theorem kq_240 : mm_qok (kt_240, kb_240, kl_240) = true := by decide +kernel
theorem kw_240 : mm_cw kt_240 := rfl
set_option maxRecDepth 100000 in
theorem kq_241 : mm_qok (kt_241, kb_241, kl_241) = true := by decide +kernel
theorem kw_241 : mm_cw kt_241 := rfl
set_option maxRecDepth 100000 in
theorem kq_242 : mm_qok (kt_242, kb_242, kl_242) = true := by decide +kernel
theorem kw_242 : mm_cw kt_242 := rfl
set_option maxRecDepth 100000 in
theorem kq_243 : mm_qok (kt_243, kb_243, kl_243) = true := by decide +kernel
theorem kw_243 : mm_cw kt_243 := rfl
set_option maxRecDepth 100000 in
theorem kq_244 : mm_qok (kt_244, kb_244, kl_244) = true := by decide +kernel
theorem kw_244 : mm_cw kt_244 := rfl
set_option maxRecDepth 100000 in
theorem kq_245 : mm_qok (kt_245, kb_245, kl_245) = true := by decide +kernel
theorem kw_245 : mm_cw kt_245 := rfl
set_option maxRecDepth 100000 in
theorem kq_246 : mm_qok (kt_246, kb_246, kl_246) = true := by decide +kernel
theorem kw_246 : mm_cw kt_246 := rfl
set_option maxRecDepth 100000 in
theorem kq_247 : mm_qok (kt_247, kb_247, kl_247) = true := by decide +kernel
theorem kw_247 : mm_cw kt_247 := rfl
set_option maxRecDepth 100000 in
theorem kq_248 : mm_qok (kt_248, kb_248, kl_248) = true := by decide +kernel
theorem kw_248 : mm_cw kt_248 := rfl
set_option maxRecDepth 100000 in
theorem kq_249 : mm_qok (kt_249, kb_249, kl_249) = true := by decide +kernel
theorem kw_249 : mm_cw kt_249 := rfl
set_option maxRecDepth 100000 in
theorem kq_250 : mm_qok (kt_250, kb_250, kl_250) = true := by decide +kernel
theorem kw_250 : mm_cw kt_250 := rfl
set_option maxRecDepth 100000 in
theorem kq_251 : mm_qok (kt_251, kb_251, kl_251) = true := by decide +kernel
theorem kw_251 : mm_cw kt_251 := rfl
set_option maxRecDepth 100000 in
theorem kq_252 : mm_qok (kt_252, kb_252, kl_252) = true := by decide +kernel
theorem kw_252 : mm_cw kt_252 := rfl
set_option maxRecDepth 100000 in
theorem kq_253 : mm_qok (kt_253, kb_253, kl_253) = true := by decide +kernel
theorem kw_253 : mm_cw kt_253 := rfl
