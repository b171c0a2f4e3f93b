set_option maxRecDepth 20000 in
theorem iw_wsX4_draw_r3 : ∀ w ∈ wsX4_draw_r3, w ∈ wsL_law := wq wm_323 (wq wm_324 (wq wm_325 (wq wm_326 (wq wm_161 (wq wm_162 (wq wm_163 (wq wm_164 (wq wm_165 (wq wm_166 (wq wm_167 (wq wm_168 (wq wm_169 (wq wm_131 (wq wm_132 (wq wm_133 (wq wm_105 (wq wm_106 (wq wm_107 (wq wm_108 (wq wm_170 (wq wm_171 (wq wm_172 (wq wm_173 wz)))))))))))))))))))))))
set_option maxRecDepth 20000 in
theorem iw_wsX4_draw_r4 : ∀ w ∈ wsX4_draw_r4, w ∈ wsL_law := wq wm_174 (wq wm_175 (wq wm_176 (wq wm_177 (wq wm_178 (wq wm_179 (wq wm_180 (wq wm_181 (wq wm_182 (wq wm_183 (wq wm_184 (wq wm_185 (wq wm_186 (wq wm_187 (wq wm_188 (wq wm_189 (wq wm_190 (wq wm_191 (wq wm_192 (wq wm_193 (wq wm_194 (wq wm_195 (wq wm_196 (wq wm_197 wz)))))))))))))))))))))))
set_option maxRecDepth 20000 in
theorem iw_wsX4_draw_r5 : ∀ w ∈ wsX4_draw_r5, w ∈ wsL_law := wq wm_198 (wq wm_199 (wq wm_200 (wq wm_201 (wq wm_202 (wq wm_203 (wq wm_204 (wq wm_205 (wq wm_159 (wq wm_160 (wq wm_206 (wq wm_207 (wq wm_208 (wq wm_209 (wq wm_210 (wq wm_211 (wq wm_212 (wq wm_213 (wq wm_214 (wq wm_215 (wq wm_216 (wq wm_217 (wq wm_218 (wq wm_219 wz)))))))))))))))))))))))
set_option maxRecDepth 20000 in
theorem iw_wsX4_draw_r6 : ∀ w ∈ wsX4_draw_r6, w ∈ wsL_law := wq wm_220 (wq wm_221 (wq wm_222 (wq wm_223 (wq wm_224 (wq wm_225 (wq wm_226 (wq wm_227 (wq wm_228 (wq wm_229 (wq wm_230 (wq wm_231 (wq wm_232 (wq wm_233 (wq wm_234 (wq wm_235 (wq wm_236 (wq wm_237 (wq wm_238 wz))))))))))))))))))
set_option maxRecDepth 20000 in
theorem ggL_law_X4_draw : GoodIn wsL_law wsX4_draw := goodIn_sub (List.forall_mem_cons.mpr ⟨wm_307, List.forall_mem_append.mpr ⟨List.forall_mem_append.mpr ⟨List.forall_mem_append.mpr ⟨List.forall_mem_append.mpr ⟨iw_wsX4_draw_r1, List.forall_mem_append.mpr ⟨iw_wsX4_draw_r2, List.forall_mem_append.mpr ⟨iw_wsX4_draw_r3, List.forall_mem_append.mpr ⟨iw_wsX4_draw_r4, List.forall_mem_append.mpr ⟨iw_wsX4_draw_r5, iw_wsX4_draw_r6⟩⟩⟩⟩⟩, inlX4⟩, inlX3⟩, inlX1⟩⟩) (by decide +kernel)
set_option maxRecDepth 20000 in
theorem gL_law_X4_draw : GoodIn wsL_law (wsV RL 26 RX4 yX4_draw wsX4_draw) := goodIn_app (goodIn_of _ (by decide +kernel)) ggL_law_X4_draw
set_option maxRecDepth 20000 in
theorem iw_wsX5_draw_r1 : ∀ w ∈ wsX5_draw_r1, w ∈ wsL_law := wq wm_78 (wq wm_331 (wq wm_332 (wq wm_333 (wq wm_334 (wq wm_139 (wq wm_140 (wq wm_5 (wq wm_141 (wq wm_146 (wq wm_147 (wq wm_148 (wq wm_149 (wq wm_150 (wq wm_80 (wq wm_151 (wq wm_152 (wq wm_153 (wq wm_335 (wq wm_336 (wq wm_337 (wq wm_338 (wq wm_339 (wq wm_340 wz)))))))))))))))))))))))
set_option maxRecDepth 20000 in
theorem iw_wsX5_draw_r2 : ∀ w ∈ wsX5_draw_r2, w ∈ wsL_law := wq wm_341 (wq wm_342 (wq wm_343 (wq wm_344 (wq wm_247 (wq wm_248 (wq wm_249 (wq wm_250 (wq wm_251 (wq wm_252 (wq wm_253 (wq wm_254 (wq wm_255 (wq wm_256 (wq wm_257 (wq wm_258 (wq wm_259 (wq wm_260 (wq wm_261 (wq wm_262 (wq wm_263 (wq wm_264 (wq wm_265 (wq wm_266 wz)))))))))))))))))))))))
set_option maxRecDepth 20000 in
theorem iw_wsX5_draw_r3 : ∀ w ∈ wsX5_draw_r3, w ∈ wsL_law := wq wm_267 (wq wm_268 (wq wm_269 (wq wm_270 (wq wm_271 (wq wm_272 (wq wm_273 (wq wm_274 (wq wm_275 (wq wm_276 (wq wm_277 (wq wm_278 (wq wm_279 (wq wm_280 (wq wm_281 (wq wm_282 (wq wm_283 (wq wm_284 (wq wm_285 wz))))))))))))))))))
set_option maxRecDepth 20000 in
theorem ggL_law_X5_draw : GoodIn wsL_law wsX5_draw := goodIn_sub (List.forall_mem_cons.mpr ⟨wm_330, List.forall_mem_append.mpr ⟨List.forall_mem_append.mpr ⟨iw_wsX5_draw_r1, List.forall_mem_append.mpr ⟨iw_wsX5_draw_r2, iw_wsX5_draw_r3⟩⟩, inlX5⟩⟩) (by decide +kernel)
set_option maxRecDepth 20000 in
theorem gL_law_X5_draw : GoodIn wsL_law (wsV RL 30 RX5 yX5_draw wsX5_draw) := goodIn_app (goodIn_of _ (by decide +kernel)) ggL_law_X5_draw
set_option maxRecDepth 20000 in
theorem iw_wsX4_shuffle_r1 : ∀ w ∈ wsX4_shuffle_r1, w ∈ wsL_law := wq wm_15 (wq wm_109 (wq wm_110 (wq wm_111 (wq wm_2 (wq wm_112 (wq wm_20 (wq wm_19 (wq wm_113 (wq wm_114 (wq wm_115 (wq wm_116 (wq wm_117 (wq wm_118 (wq wm_119 (wq wm_14 (wq wm_120 (wq wm_39 (wq wm_41 (wq wm_121 (wq wm_122 (wq wm_123 (wq wm_124 (wq wm_42 wz)))))))))))))))))))))))
set_option maxRecDepth 20000 in
theorem iw_wsX4_shuffle_r2 : ∀ w ∈ wsX4_shuffle_r2, w ∈ wsL_law := wq wm_43 (wq wm_44 (wq wm_125 (wq wm_126 (wq wm_127 (wq wm_38 (wq wm_128 (wq wm_49 (wq wm_129 wz))))))))
set_option maxRecDepth 20000 in
theorem ggL_law_X4_shuffle : GoodIn wsL_law wsX4_shuffle := goodIn_sub (List.forall_mem_cons.mpr ⟨wm_348, List.forall_mem_append.mpr ⟨List.forall_mem_append.mpr ⟨List.forall_mem_append.mpr ⟨List.forall_mem_append.mpr ⟨iw_wsX4_shuffle_r1, iw_wsX4_shuffle_r2⟩, inlX4⟩, inlX3⟩, inlX1⟩⟩) (by decide +kernel)
set_option maxRecDepth 20000 in
theorem gL_law_X4_shuffle : GoodIn wsL_law (wsV RL 31 RX4 yX4_shuffle wsX4_shuffle) := goodIn_app (goodIn_of _ (by decide +kernel)) ggL_law_X4_shuffle
set_option maxRecDepth 20000 in
theorem ggL_law_X5_shuffle : GoodIn wsL_law wsX5_shuffle := goodIn_sub (List.forall_mem_cons.mpr ⟨wm_352, List.forall_mem_append.mpr ⟨(wq wm_78 (wq wm_146 (wq wm_147 (wq wm_148 (wq wm_5 (wq wm_149 (wq wm_150 (wq wm_80 (wq wm_151 (wq wm_152 (wq wm_153 wz))))))))))), inlX5⟩⟩) (by decide +kernel)
set_option maxRecDepth 20000 in
theorem gL_law_X5_shuffle : GoodIn wsL_law (wsV RL 34 RX5 yX5_shuffle wsX5_shuffle) := goodIn_app (goodIn_of _ (by decide +kernel)) ggL_law_X5_shuffle
set_option maxRecDepth 20000 in
theorem iw_wsX4_perform_r1 : ∀ w ∈ wsX4_perform_r1, w ∈ wsL_law := wq wm_22 (wq wm_23 (wq wm_27 (wq wm_15 (wq wm_357 (wq wm_358 (wq wm_26 (wq wm_359 (wq wm_360 (wq wm_361 (wq wm_362 (wq wm_363 (wq wm_364 (wq wm_365 (wq wm_366 (wq wm_367 (wq wm_368 (wq wm_369 (wq wm_62 (wq wm_63 (wq wm_370 (wq wm_371 (wq wm_372 (wq wm_373 wz)))))))))))))))))))))))
set_option maxRecDepth 20000 in
theorem iw_wsX4_perform_r2 : ∀ w ∈ wsX4_perform_r2, w ∈ wsL_law := wq wm_60 (wq wm_61 (wq wm_374 (wq wm_375 (wq wm_376 (wq wm_377 (wq wm_378 (wq wm_379 (wq wm_380 (wq wm_381 (wq wm_59 (wq wm_382 (wq wm_122 (wq wm_123 (wq wm_124 (wq wm_383 (wq wm_384 (wq wm_385 (wq wm_386 (wq wm_109 (wq wm_110 (wq wm_111 (wq wm_2 (wq wm_112 wz)))))))))))))))))))))))
set_option maxRecDepth 20000 in
theorem iw_wsX4_perform_r3 : ∀ w ∈ wsX4_perform_r3, w ∈ wsL_law := wq wm_20 (wq wm_19 (wq wm_113 (wq wm_114 (wq wm_115 (wq wm_116 (wq wm_117 (wq wm_118 (wq wm_119 (wq wm_14 (wq wm_120 (wq wm_39 (wq wm_41 (wq wm_121 (wq wm_42 (wq wm_43 (wq wm_44 (wq wm_125 (wq wm_126 (wq wm_127 (wq wm_38 (wq wm_128 (wq wm_49 (wq wm_129 wz)))))))))))))))))))))))
set_option maxRecDepth 20000 in
theorem iw_wsX4_perform_r4 : ∀ w ∈ wsX4_perform_r4, w ∈ wsL_law := wq wm_387 (wq wm_388 (wq wm_389 (wq wm_390 (wq wm_161 (wq wm_162 (wq wm_163 (wq wm_164 (wq wm_165 (wq wm_166 (wq wm_167 (wq wm_168 (wq wm_169 (wq wm_131 (wq wm_132 (wq wm_133 (wq wm_105 (wq wm_106 (wq wm_107 (wq wm_108 (wq wm_170 (wq wm_171 (wq wm_172 (wq wm_173 wz)))))))))))))))))))))))
set_option maxRecDepth 20000 in
theorem iw_wsX4_perform_r5 : ∀ w ∈ wsX4_perform_r5, w ∈ wsL_law := wq wm_174 (wq wm_175 (wq wm_176 (wq wm_177 (wq wm_178 (wq wm_179 (wq wm_180 (wq wm_181 (wq wm_182 (wq wm_183 (wq wm_184 (wq wm_185 (wq wm_186 (wq wm_187 (wq wm_188 (wq wm_189 (wq wm_190 (wq wm_191 (wq wm_192 (wq wm_193 (wq wm_194 (wq wm_195 (wq wm_196 (wq wm_197 wz)))))))))))))))))))))))
set_option maxRecDepth 20000 in
theorem iw_wsX4_perform_r6 : ∀ w ∈ wsX4_perform_r6, w ∈ wsL_law := wq wm_198 (wq wm_199 (wq wm_200 (wq wm_201 (wq wm_202 (wq wm_203 (wq wm_204 (wq wm_205 (wq wm_159 (wq wm_160 (wq wm_206 (wq wm_207 (wq wm_208 (wq wm_209 (wq wm_210 (wq wm_211 (wq wm_212 (wq wm_213 (wq wm_214 (wq wm_215 (wq wm_216 (wq wm_217 (wq wm_218 (wq wm_219 wz)))))))))))))))))))))))
set_option maxRecDepth 20000 in
theorem iw_wsX4_perform_r7 : ∀ w ∈ wsX4_perform_r7, w ∈ wsL_law := wq wm_220 (wq wm_221 (wq wm_222 (wq wm_223 (wq wm_224 (wq wm_225 (wq wm_226 (wq wm_227 (wq wm_228 (wq wm_229 (wq wm_230 (wq wm_231 (wq wm_232 (wq wm_233 (wq wm_234 (wq wm_235 (wq wm_236 (wq wm_237 (wq wm_238 wz))))))))))))))))))
set_option maxRecDepth 20000 in
theorem ggL_law_X4_perform : GoodIn wsL_law wsX4_perform := goodIn_sub (List.forall_mem_cons.mpr ⟨wm_356, List.forall_mem_append.mpr ⟨List.forall_mem_append.mpr ⟨List.forall_mem_append.mpr ⟨List.forall_mem_append.mpr ⟨List.forall_mem_append.mpr ⟨iw_wsX4_perform_r1, List.forall_mem_append.mpr ⟨iw_wsX4_perform_r2, List.forall_mem_append.mpr ⟨iw_wsX4_perform_r3, List.forall_mem_append.mpr ⟨iw_wsX4_perform_r4, List.forall_mem_append.mpr ⟨iw_wsX4_perform_r5, List.forall_mem_append.mpr ⟨iw_wsX4_perform_r6, iw_wsX4_perform_r7⟩⟩⟩⟩⟩⟩, inlX4⟩, inlX2⟩, inlX3⟩, inlX1⟩⟩) (by decide +kernel)
set_option maxRecDepth 20000 in
theorem gL_law_X4_perform : GoodIn wsL_law (wsV RL 35 RX4 yX4_perform wsX4_perform) := goodIn_app (goodIn_of _ (by decide +kernel)) ggL_law_X4_perform
set_option maxRecDepth 20000 in
theorem iw_wsX5_perform_r1 : ∀ w ∈ wsX5_perform_r1, w ∈ wsL_law := wq wm_395 (wq wm_396 (wq wm_82 (wq wm_86 (wq wm_87 (wq wm_397 (wq wm_398 (wq wm_399 (wq wm_5 (wq wm_400 (wq wm_83 (wq wm_84 (wq wm_85 (wq wm_139 (wq wm_140 (wq wm_141 (wq wm_401 (wq wm_402 (wq wm_403 (wq wm_146 (wq wm_147 (wq wm_148 (wq wm_149 (wq wm_150 wz)))))))))))))))))))))))
set_option maxRecDepth 20000 in
theorem iw_wsX5_perform_r2 : ∀ w ∈ wsX5_perform_r2, w ∈ wsL_law := wq wm_80 (wq wm_78 (wq wm_151 (wq wm_152 (wq wm_153 (wq wm_247 (wq wm_248 (wq wm_249 (wq wm_250 (wq wm_251 (wq wm_252 (wq wm_253 (wq wm_254 (wq wm_255 (wq wm_256 (wq wm_257 (wq wm_258 (wq wm_259 (wq wm_260 (wq wm_261 (wq wm_262 (wq wm_263 (wq wm_264 (wq wm_265 wz)))))))))))))))))))))))
set_option maxRecDepth 20000 in
theorem iw_wsX5_perform_r3 : ∀ w ∈ wsX5_perform_r3, w ∈ wsL_law := wq wm_266 (wq wm_267 (wq wm_268 (wq wm_269 (wq wm_270 (wq wm_271 (wq wm_272 (wq wm_273 (wq wm_274 (wq wm_275 (wq wm_276 (wq wm_277 (wq wm_278 (wq wm_279 (wq wm_280 (wq wm_281 (wq wm_282 (wq wm_283 (wq wm_284 (wq wm_285 wz)))))))))))))))))))
set_option maxRecDepth 20000 in
theorem ggL_law_X5_perform : GoodIn wsL_law wsX5_perform := goodIn_sub (List.forall_mem_cons.mpr ⟨wm_394, List.forall_mem_append.mpr ⟨List.forall_mem_append.mpr ⟨iw_wsX5_perform_r1, List.forall_mem_append.mpr ⟨iw_wsX5_perform_r2, iw_wsX5_perform_r3⟩⟩, inlX5⟩⟩) (by decide +kernel)
set_option maxRecDepth 20000 in
theorem gL_law_X5_perform : GoodIn wsL_law (wsV RL 39 RX5 yX5_perform wsX5_perform) := goodIn_app (goodIn_of _ (by decide +kernel)) ggL_law_X5_perform
set_option maxRecDepth 20000 in
theorem iw_wsX4_finish_r1 : ∀ w ∈ wsX4_finish_r1, w ∈ wsL_law := wq wm_15 (wq wm_97 (wq wm_98 (wq wm_99 (wq wm_14 (wq wm_100 (wq wm_39 (wq wm_101 (wq wm_102 (wq wm_103 (wq wm_38 (wq wm_104 (wq wm_105 (wq wm_106 (wq wm_107 (wq wm_108 (wq wm_49 (wq wm_109 (wq wm_110 (wq wm_111 (wq wm_2 (wq wm_112 (wq wm_20 (wq wm_19 wz)))))))))))))))))))))))
set_option maxRecDepth 20000 in
theorem iw_wsX4_finish_r2 : ∀ w ∈ wsX4_finish_r2, w ∈ wsL_law := wq wm_113 (wq wm_114 (wq wm_115 (wq wm_116 (wq wm_117 (wq wm_118 (wq wm_119 (wq wm_120 (wq wm_41 (wq wm_121 (wq wm_122 (wq wm_123 (wq wm_124 (wq wm_42 (wq wm_43 (wq wm_44 (wq wm_125 (wq wm_126 (wq wm_127 (wq wm_128 (wq wm_129 (wq wm_408 (wq wm_409 (wq wm_410 wz)))))))))))))))))))))))
set_option maxRecDepth 20000 in
theorem iw_wsX4_finish_r3 : ∀ w ∈ wsX4_finish_r3, w ∈ wsL_law := wq wm_411 (wq wm_412 (wq wm_413 (wq wm_230 (wq wm_295 (wq wm_162 (wq wm_163 (wq wm_164 (wq wm_165 (wq wm_166 (wq wm_167 (wq wm_168 (wq wm_169 (wq wm_131 (wq wm_132 (wq wm_133 (wq wm_170 (wq wm_171 (wq wm_172 (wq wm_173 (wq wm_174 (wq wm_175 (wq wm_176 (wq wm_177 wz)))))))))))))))))))))))
set_option maxRecDepth 20000 in
theorem iw_wsX4_finish_r4 : ∀ w ∈ wsX4_finish_r4, w ∈ wsL_law := wq wm_178 (wq wm_179 (wq wm_180 (wq wm_181 (wq wm_182 (wq wm_183 (wq wm_184 (wq wm_185 (wq wm_186 (wq wm_187 (wq wm_188 (wq wm_189 (wq wm_190 (wq wm_191 (wq wm_192 (wq wm_193 (wq wm_194 (wq wm_195 (wq wm_196 (wq wm_197 (wq wm_198 (wq wm_199 (wq wm_200 (wq wm_201 wz)))))))))))))))))))))))
set_option maxRecDepth 20000 in
theorem iw_wsX4_finish_r5 : ∀ w ∈ wsX4_finish_r5, w ∈ wsL_law := wq wm_202 (wq wm_203 (wq wm_204 (wq wm_205 (wq wm_159 (wq wm_160 (wq wm_206 (wq wm_207 (wq wm_208 (wq wm_209 (wq wm_210 (wq wm_211 (wq wm_212 (wq wm_213 (wq wm_214 (wq wm_215 (wq wm_216 (wq wm_217 (wq wm_218 (wq wm_219 (wq wm_220 (wq wm_221 (wq wm_222 (wq wm_223 wz)))))))))))))))))))))))
set_option maxRecDepth 20000 in
theorem iw_wsX4_finish_r6 : ∀ w ∈ wsX4_finish_r6, w ∈ wsL_law := wq wm_224 (wq wm_225 (wq wm_226 (wq wm_227 (wq wm_228 (wq wm_229 (wq wm_231 (wq wm_232 (wq wm_233 (wq wm_234 (wq wm_235 (wq wm_236 (wq wm_237 (wq wm_238 wz)))))))))))))
set_option maxRecDepth 20000 in
theorem ggL_law_X4_finish : GoodIn wsL_law wsX4_finish := goodIn_sub (List.forall_mem_cons.mpr ⟨wm_407, List.forall_mem_append.mpr ⟨List.forall_mem_append.mpr ⟨List.forall_mem_append.mpr ⟨List.forall_mem_append.mpr ⟨iw_wsX4_finish_r1, List.forall_mem_append.mpr ⟨iw_wsX4_finish_r2, List.forall_mem_append.mpr ⟨iw_wsX4_finish_r3, List.forall_mem_append.mpr ⟨iw_wsX4_finish_r4, List.forall_mem_append.mpr ⟨iw_wsX4_finish_r5, iw_wsX4_finish_r6⟩⟩⟩⟩⟩, inlX4⟩, inlX3⟩, inlX1⟩⟩) (by decide +kernel)
set_option maxRecDepth 20000 in
theorem gL_law_X4_finish : GoodIn wsL_law (wsV RL 40 RX4 yX4_finish wsX4_finish) := goodIn_app (goodIn_of _ (by decide +kernel)) ggL_law_X4_finish
set_option maxRecDepth 20000 in
theorem iw_wsX5_finish_r1 : ∀ w ∈ wsX5_finish_r1, w ∈ wsL_law := wq wm_142 (wq wm_143 (wq wm_144 (wq wm_5 (wq wm_145 (wq wm_78 (wq wm_146 (wq wm_147 (wq wm_148 (wq wm_149 (wq wm_150 (wq wm_80 (wq wm_151 (wq wm_152 (wq wm_153 (wq wm_418 (wq wm_419 (wq wm_420 (wq wm_421 (wq wm_335 (wq wm_336 (wq wm_337 (wq wm_338 (wq wm_247 wz)))))))))))))))))))))))
set_option maxRecDepth 20000 in
theorem iw_wsX5_finish_r2 : ∀ w ∈ wsX5_finish_r2, w ∈ wsL_law := wq wm_248 (wq wm_249 (wq wm_250 (wq wm_251 (wq wm_252 (wq wm_253 (wq wm_254 (wq wm_255 (wq wm_256 (wq wm_257 (wq wm_258 (wq wm_259 (wq wm_260 (wq wm_261 (wq wm_262 (wq wm_263 (wq wm_264 (wq wm_265 (wq wm_266 (wq wm_267 (wq wm_268 (wq wm_269 (wq wm_270 (wq wm_271 wz)))))))))))))))))))))))
set_option maxRecDepth 20000 in
theorem iw_wsX5_finish_r3 : ∀ w ∈ wsX5_finish_r3, w ∈ wsL_law := wq wm_272 (wq wm_273 (wq wm_274 (wq wm_275 (wq wm_276 (wq wm_277 (wq wm_278 (wq wm_279 (wq wm_280 (wq wm_281 (wq wm_282 (wq wm_283 (wq wm_284 (wq wm_285 wz)))))))))))))
