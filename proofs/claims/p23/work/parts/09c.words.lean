set_option maxRecDepth 20000 in
theorem iw_wsX4_build_r1 : ∀ w ∈ wsX4_build_r1, w ∈ lw_tbl := wq wm_12 (wq wm_100 (wq wm_101 (wq wm_102 (wq wm_11 (wq wm_103 (wq wm_36 (wq wm_104 (wq wm_105 (wq wm_106 (wq wm_35 (wq wm_107 (wq wm_108 (wq wm_109 (wq wm_110 (wq wm_111 (wq wm_46 (wq wm_92 (wq wm_93 (wq wm_94 (wq wm_2 (wq wm_95 (wq wm_17 (wq wm_16 wz)))))))))))))))))))))))
set_option maxRecDepth 20000 in
theorem iw_wsX4_build_r2 : ∀ w ∈ wsX4_build_r2, w ∈ lw_tbl := wq wm_96 (wq wm_97 (wq wm_98 (wq wm_99 (wq wm_75 (wq wm_76 (wq wm_77 (wq wm_78 (wq wm_38 (wq wm_79 (wq wm_80 (wq wm_81 (wq wm_82 (wq wm_39 (wq wm_40 (wq wm_41 (wq wm_83 (wq wm_84 (wq wm_85 (wq wm_86 (wq wm_87 (wq wm_116 (wq wm_117 (wq wm_118 wz)))))))))))))))))))))))
set_option maxRecDepth 20000 in
theorem iw_wsX4_build_r3 : ∀ w ∈ wsX4_build_r3, w ∈ lw_tbl := wq wm_119 (wq wm_217 (wq wm_48 (wq wm_49 (wq wm_50 wz))))
set_option maxRecDepth 20000 in
theorem tgX4_build : GoodIn lw_tbl wsX4_build := goodIn_sub (List.forall_mem_cons.mpr ⟨wm_216, List.forall_mem_append.mpr ⟨List.forall_mem_append.mpr ⟨List.forall_mem_append.mpr ⟨List.forall_mem_append.mpr ⟨iw_wsX4_build_r1, List.forall_mem_append.mpr ⟨iw_wsX4_build_r2, iw_wsX4_build_r3⟩⟩, inX4⟩, inX3⟩, inX1⟩⟩) (by decide +kernel)
set_option maxRecDepth 20000 in
theorem iw_wsX4_step_r1 : ∀ w ∈ wsX4_step_r1, w ∈ lw_tbl := wq wm_12 (wq wm_159 (wq wm_160 (wq wm_2 (wq wm_161 (wq wm_92 (wq wm_93 (wq wm_94 (wq wm_95 (wq wm_17 (wq wm_16 (wq wm_96 (wq wm_97 (wq wm_98 (wq wm_99 (wq wm_75 (wq wm_76 (wq wm_77 (wq wm_11 (wq wm_78 (wq wm_36 (wq wm_38 (wq wm_79 (wq wm_80 wz)))))))))))))))))))))))
set_option maxRecDepth 20000 in
theorem iw_wsX4_step_r2 : ∀ w ∈ wsX4_step_r2, w ∈ lw_tbl := wq wm_81 (wq wm_82 (wq wm_39 (wq wm_40 (wq wm_41 (wq wm_83 (wq wm_84 (wq wm_85 (wq wm_35 (wq wm_86 (wq wm_46 (wq wm_87 (wq wm_222 (wq wm_223 (wq wm_224 (wq wm_225 (wq wm_226 (wq wm_227 (wq wm_228 (wq wm_229 (wq wm_137 (wq wm_117 (wq wm_118 (wq wm_119 wz)))))))))))))))))))))))
set_option maxRecDepth 20000 in
theorem iw_wsX4_step_r3 : ∀ w ∈ wsX4_step_r3, w ∈ lw_tbl := wq wm_108 (wq wm_109 (wq wm_110 (wq wm_111 (wq wm_230 (wq wm_231 (wq wm_232 (wq wm_233 (wq wm_234 (wq wm_235 (wq wm_236 (wq wm_237 (wq wm_238 (wq wm_239 (wq wm_240 (wq wm_241 (wq wm_242 (wq wm_243 (wq wm_207 (wq wm_208 (wq wm_209 (wq wm_204 (wq wm_205 (wq wm_244 wz)))))))))))))))))))))))
set_option maxRecDepth 20000 in
theorem iw_wsX4_step_r4 : ∀ w ∈ wsX4_step_r4, w ∈ lw_tbl := wq wm_245 (wq wm_246 (wq wm_247 (wq wm_248 (wq wm_249 (wq wm_250 (wq wm_251 (wq wm_252 (wq wm_253 (wq wm_254 (wq wm_255 (wq wm_256 (wq wm_257 (wq wm_258 (wq wm_259 (wq wm_260 (wq wm_261 (wq wm_262 (wq wm_263 (wq wm_264 (wq wm_265 (wq wm_266 (wq wm_267 (wq wm_268 wz)))))))))))))))))))))))
set_option maxRecDepth 20000 in
theorem iw_wsX4_step_r5 : ∀ w ∈ wsX4_step_r5, w ∈ lw_tbl := wq wm_269 (wq wm_270 (wq wm_271 (wq wm_272 (wq wm_273 (wq wm_274 (wq wm_275 (wq wm_276 (wq wm_277 (wq wm_278 (wq wm_279 (wq wm_280 (wq wm_281 (wq wm_282 (wq wm_283 (wq wm_284 (wq wm_285 (wq wm_286 (wq wm_287 (wq wm_288 (wq wm_289 (wq wm_290 (wq wm_291 (wq wm_292 wz)))))))))))))))))))))))
set_option maxRecDepth 20000 in
theorem iw_wsX4_step_r6 : ∀ w ∈ wsX4_step_r6, w ∈ lw_tbl := wq wm_293 (wq wm_162 wz)
set_option maxRecDepth 20000 in
theorem tgX4_step : GoodIn lw_tbl wsX4_step := goodIn_sub (List.forall_mem_cons.mpr ⟨wm_221, List.forall_mem_append.mpr ⟨List.forall_mem_append.mpr ⟨List.forall_mem_append.mpr ⟨List.forall_mem_append.mpr ⟨iw_wsX4_step_r1, List.forall_mem_append.mpr ⟨iw_wsX4_step_r2, List.forall_mem_append.mpr ⟨iw_wsX4_step_r3, List.forall_mem_append.mpr ⟨iw_wsX4_step_r4, List.forall_mem_append.mpr ⟨iw_wsX4_step_r5, iw_wsX4_step_r6⟩⟩⟩⟩⟩, inX4⟩, inX3⟩, inX1⟩⟩) (by decide +kernel)
set_option maxRecDepth 20000 in
theorem iw_wsX4_go_r1 : ∀ w ∈ wsX4_go_r1, w ∈ lw_tbl := wq wm_12 (wq wm_159 (wq wm_160 (wq wm_2 (wq wm_161 (wq wm_298 (wq wm_236 (wq wm_237 (wq wm_35 (wq wm_238 (wq wm_46 (wq wm_108 (wq wm_109 (wq wm_110 (wq wm_111 (wq wm_239 (wq wm_240 (wq wm_241 (wq wm_242 (wq wm_137 (wq wm_117 (wq wm_118 (wq wm_119 (wq wm_243 wz)))))))))))))))))))))))
set_option maxRecDepth 20000 in
theorem iw_wsX4_go_r2 : ∀ w ∈ wsX4_go_r2, w ∈ lw_tbl := wq wm_207 (wq wm_208 (wq wm_209 (wq wm_204 (wq wm_205 (wq wm_92 (wq wm_93 (wq wm_94 (wq wm_95 (wq wm_17 (wq wm_16 (wq wm_96 (wq wm_97 (wq wm_98 (wq wm_99 (wq wm_75 (wq wm_76 (wq wm_77 (wq wm_11 (wq wm_78 (wq wm_36 (wq wm_38 (wq wm_79 (wq wm_80 wz)))))))))))))))))))))))
set_option maxRecDepth 20000 in
theorem iw_wsX4_go_r3 : ∀ w ∈ wsX4_go_r3, w ∈ lw_tbl := wq wm_81 (wq wm_82 (wq wm_39 (wq wm_40 (wq wm_41 (wq wm_83 (wq wm_84 (wq wm_85 (wq wm_86 (wq wm_87 (wq wm_299 (wq wm_300 (wq wm_301 (wq wm_302 (wq wm_303 (wq wm_223 (wq wm_224 (wq wm_225 (wq wm_226 (wq wm_227 (wq wm_228 (wq wm_229 (wq wm_230 (wq wm_231 wz)))))))))))))))))))))))
set_option maxRecDepth 20000 in
theorem iw_wsX4_go_r4 : ∀ w ∈ wsX4_go_r4, w ∈ lw_tbl := wq wm_232 (wq wm_233 (wq wm_234 (wq wm_235 (wq wm_244 (wq wm_245 (wq wm_246 (wq wm_247 (wq wm_248 (wq wm_249 (wq wm_250 (wq wm_251 (wq wm_252 (wq wm_253 (wq wm_254 (wq wm_255 (wq wm_256 (wq wm_257 (wq wm_258 (wq wm_259 (wq wm_260 (wq wm_261 (wq wm_262 (wq wm_263 wz)))))))))))))))))))))))
set_option maxRecDepth 20000 in
theorem iw_wsX4_go_r5 : ∀ w ∈ wsX4_go_r5, w ∈ lw_tbl := wq wm_264 (wq wm_265 (wq wm_266 (wq wm_267 (wq wm_268 (wq wm_269 (wq wm_270 (wq wm_271 (wq wm_272 (wq wm_273 (wq wm_274 (wq wm_275 (wq wm_276 (wq wm_277 (wq wm_278 (wq wm_279 (wq wm_280 (wq wm_281 (wq wm_282 (wq wm_283 (wq wm_284 (wq wm_285 (wq wm_286 (wq wm_287 wz)))))))))))))))))))))))
set_option maxRecDepth 20000 in
theorem iw_wsX4_go_r6 : ∀ w ∈ wsX4_go_r6, w ∈ lw_tbl := wq wm_288 (wq wm_289 (wq wm_290 (wq wm_291 (wq wm_292 (wq wm_293 (wq wm_304 (wq wm_305 (wq wm_306 (wq wm_307 wz)))))))))
set_option maxRecDepth 20000 in
theorem tgX4_go : GoodIn lw_tbl wsX4_go := goodIn_sub (List.forall_mem_cons.mpr ⟨wm_297, List.forall_mem_append.mpr ⟨List.forall_mem_append.mpr ⟨List.forall_mem_append.mpr ⟨List.forall_mem_append.mpr ⟨iw_wsX4_go_r1, List.forall_mem_append.mpr ⟨iw_wsX4_go_r2, List.forall_mem_append.mpr ⟨iw_wsX4_go_r3, List.forall_mem_append.mpr ⟨iw_wsX4_go_r4, List.forall_mem_append.mpr ⟨iw_wsX4_go_r5, iw_wsX4_go_r6⟩⟩⟩⟩⟩, inX4⟩, inX3⟩, inX1⟩⟩) (by decide +kernel)
set_option maxRecDepth 20000 in
theorem iw_wsX4_draw_r1 : ∀ w ∈ wsX4_draw_r1, w ∈ lw_tbl := wq wm_12 (wq wm_92 (wq wm_93 (wq wm_94 (wq wm_2 (wq wm_95 (wq wm_17 (wq wm_16 (wq wm_96 (wq wm_97 (wq wm_98 (wq wm_99 (wq wm_75 (wq wm_76 (wq wm_77 (wq wm_11 (wq wm_78 (wq wm_36 (wq wm_38 (wq wm_79 (wq wm_80 (wq wm_81 (wq wm_82 (wq wm_39 wz)))))))))))))))))))))))
set_option maxRecDepth 20000 in
theorem iw_wsX4_draw_r2 : ∀ w ∈ wsX4_draw_r2, w ∈ lw_tbl := wq wm_40 (wq wm_41 (wq wm_83 (wq wm_84 (wq wm_85 (wq wm_35 (wq wm_86 (wq wm_46 (wq wm_87 (wq wm_129 (wq wm_130 (wq wm_131 (wq wm_132 (wq wm_312 (wq wm_313 (wq wm_314 (wq wm_315 (wq wm_316 (wq wm_317 (wq wm_318 (wq wm_319 (wq wm_320 (wq wm_321 (wq wm_322 wz)))))))))))))))))))))))
set_option maxRecDepth 20000 in
theorem iw_wsX4_draw_r3 : ∀ w ∈ wsX4_draw_r3, w ∈ lw_tbl := wq wm_323 (wq wm_324 (wq wm_325 (wq wm_326 (wq wm_222 (wq wm_223 (wq wm_224 (wq wm_225 (wq wm_226 (wq wm_227 (wq wm_228 (wq wm_229 (wq wm_137 (wq wm_117 (wq wm_118 (wq wm_119 (wq wm_108 (wq wm_109 (wq wm_110 (wq wm_111 (wq wm_230 (wq wm_231 (wq wm_232 (wq wm_233 wz)))))))))))))))))))))))
set_option maxRecDepth 20000 in
theorem iw_wsX4_draw_r4 : ∀ w ∈ wsX4_draw_r4, w ∈ lw_tbl := wq wm_234 (wq wm_235 (wq wm_236 (wq wm_237 (wq wm_238 (wq wm_239 (wq wm_240 (wq wm_241 (wq wm_242 (wq wm_243 (wq wm_207 (wq wm_208 (wq wm_209 (wq wm_204 (wq wm_205 (wq wm_244 (wq wm_245 (wq wm_246 (wq wm_247 (wq wm_248 (wq wm_249 (wq wm_250 (wq wm_251 (wq wm_252 wz)))))))))))))))))))))))
set_option maxRecDepth 20000 in
theorem iw_wsX4_draw_r5 : ∀ w ∈ wsX4_draw_r5, w ∈ lw_tbl := wq wm_253 (wq wm_254 (wq wm_255 (wq wm_256 (wq wm_257 (wq wm_258 (wq wm_259 (wq wm_260 (wq wm_160 (wq wm_161 (wq wm_261 (wq wm_262 (wq wm_263 (wq wm_264 (wq wm_265 (wq wm_266 (wq wm_267 (wq wm_268 (wq wm_269 (wq wm_270 (wq wm_271 (wq wm_272 (wq wm_273 (wq wm_274 wz)))))))))))))))))))))))
set_option maxRecDepth 20000 in
theorem iw_wsX4_draw_r6 : ∀ w ∈ wsX4_draw_r6, w ∈ lw_tbl := wq wm_275 (wq wm_276 (wq wm_277 (wq wm_278 (wq wm_279 (wq wm_280 (wq wm_281 (wq wm_282 (wq wm_283 (wq wm_284 (wq wm_285 (wq wm_286 (wq wm_287 (wq wm_288 (wq wm_289 (wq wm_290 (wq wm_291 (wq wm_292 (wq wm_293 wz))))))))))))))))))
set_option maxRecDepth 20000 in
theorem tgX4_draw : GoodIn lw_tbl wsX4_draw := goodIn_sub (List.forall_mem_cons.mpr ⟨wm_311, List.forall_mem_append.mpr ⟨List.forall_mem_append.mpr ⟨List.forall_mem_append.mpr ⟨List.forall_mem_append.mpr ⟨iw_wsX4_draw_r1, List.forall_mem_append.mpr ⟨iw_wsX4_draw_r2, List.forall_mem_append.mpr ⟨iw_wsX4_draw_r3, List.forall_mem_append.mpr ⟨iw_wsX4_draw_r4, List.forall_mem_append.mpr ⟨iw_wsX4_draw_r5, iw_wsX4_draw_r6⟩⟩⟩⟩⟩, inX4⟩, inX3⟩, inX1⟩⟩) (by decide +kernel)
set_option maxRecDepth 20000 in
theorem iw_wsX4_shuffle_r1 : ∀ w ∈ wsX4_shuffle_r1, w ∈ lw_tbl := wq wm_12 (wq wm_92 (wq wm_93 (wq wm_94 (wq wm_2 (wq wm_95 (wq wm_17 (wq wm_16 (wq wm_96 (wq wm_97 (wq wm_98 (wq wm_99 (wq wm_75 (wq wm_76 (wq wm_77 (wq wm_11 (wq wm_78 (wq wm_36 (wq wm_38 (wq wm_79 (wq wm_80 (wq wm_81 (wq wm_82 (wq wm_39 wz)))))))))))))))))))))))
set_option maxRecDepth 20000 in
theorem iw_wsX4_shuffle_r2 : ∀ w ∈ wsX4_shuffle_r2, w ∈ lw_tbl := wq wm_40 (wq wm_41 (wq wm_83 (wq wm_84 (wq wm_85 (wq wm_35 (wq wm_86 (wq wm_46 (wq wm_87 wz))))))))
set_option maxRecDepth 20000 in
theorem tgX4_shuffle : GoodIn lw_tbl wsX4_shuffle := goodIn_sub (List.forall_mem_cons.mpr ⟨wm_330, List.forall_mem_append.mpr ⟨List.forall_mem_append.mpr ⟨List.forall_mem_append.mpr ⟨List.forall_mem_append.mpr ⟨iw_wsX4_shuffle_r1, iw_wsX4_shuffle_r2⟩, inX4⟩, inX3⟩, inX1⟩⟩) (by decide +kernel)
set_option maxRecDepth 20000 in
theorem iw_wsX4_perform_r1 : ∀ w ∈ wsX4_perform_r1, w ∈ lw_tbl := wq wm_19 (wq wm_20 (wq wm_24 (wq wm_12 (wq wm_406 (wq wm_407 (wq wm_23 (wq wm_408 (wq wm_409 (wq wm_410 (wq wm_411 (wq wm_412 (wq wm_413 (wq wm_414 (wq wm_415 (wq wm_416 (wq wm_417 (wq wm_418 (wq wm_59 (wq wm_60 (wq wm_419 (wq wm_420 (wq wm_421 (wq wm_422 wz)))))))))))))))))))))))
set_option maxRecDepth 20000 in
theorem iw_wsX4_perform_r2 : ∀ w ∈ wsX4_perform_r2, w ∈ lw_tbl := wq wm_57 (wq wm_58 (wq wm_423 (wq wm_424 (wq wm_425 (wq wm_426 (wq wm_427 (wq wm_428 (wq wm_429 (wq wm_430 (wq wm_56 (wq wm_431 (wq wm_80 (wq wm_81 (wq wm_82 (wq wm_432 (wq wm_433 (wq wm_434 (wq wm_435 (wq wm_92 (wq wm_93 (wq wm_94 (wq wm_2 (wq wm_95 wz)))))))))))))))))))))))
set_option maxRecDepth 20000 in
theorem iw_wsX4_perform_r3 : ∀ w ∈ wsX4_perform_r3, w ∈ lw_tbl := wq wm_17 (wq wm_16 (wq wm_96 (wq wm_97 (wq wm_98 (wq wm_99 (wq wm_75 (wq wm_76 (wq wm_77 (wq wm_11 (wq wm_78 (wq wm_36 (wq wm_38 (wq wm_79 (wq wm_39 (wq wm_40 (wq wm_41 (wq wm_83 (wq wm_84 (wq wm_85 (wq wm_35 (wq wm_86 (wq wm_46 (wq wm_87 wz)))))))))))))))))))))))
set_option maxRecDepth 20000 in
theorem iw_wsX4_perform_r4 : ∀ w ∈ wsX4_perform_r4, w ∈ lw_tbl := wq wm_436 (wq wm_437 (wq wm_438 (wq wm_439 (wq wm_222 (wq wm_223 (wq wm_224 (wq wm_225 (wq wm_226 (wq wm_227 (wq wm_228 (wq wm_229 (wq wm_137 (wq wm_117 (wq wm_118 (wq wm_119 (wq wm_108 (wq wm_109 (wq wm_110 (wq wm_111 (wq wm_230 (wq wm_231 (wq wm_232 (wq wm_233 wz)))))))))))))))))))))))
set_option maxRecDepth 20000 in
theorem iw_wsX4_perform_r5 : ∀ w ∈ wsX4_perform_r5, w ∈ lw_tbl := wq wm_234 (wq wm_235 (wq wm_236 (wq wm_237 (wq wm_238 (wq wm_239 (wq wm_240 (wq wm_241 (wq wm_242 (wq wm_243 (wq wm_207 (wq wm_208 (wq wm_209 (wq wm_204 (wq wm_205 (wq wm_244 (wq wm_245 (wq wm_246 (wq wm_247 (wq wm_248 (wq wm_249 (wq wm_250 (wq wm_251 (wq wm_252 wz)))))))))))))))))))))))
set_option maxRecDepth 20000 in
theorem iw_wsX4_perform_r6 : ∀ w ∈ wsX4_perform_r6, w ∈ lw_tbl := wq wm_253 (wq wm_254 (wq wm_255 (wq wm_256 (wq wm_257 (wq wm_258 (wq wm_259 (wq wm_260 (wq wm_160 (wq wm_161 (wq wm_261 (wq wm_262 (wq wm_263 (wq wm_264 (wq wm_265 (wq wm_266 (wq wm_267 (wq wm_268 (wq wm_269 (wq wm_270 (wq wm_271 (wq wm_272 (wq wm_273 (wq wm_274 wz)))))))))))))))))))))))
set_option maxRecDepth 20000 in
theorem iw_wsX4_perform_r7 : ∀ w ∈ wsX4_perform_r7, w ∈ lw_tbl := wq wm_275 (wq wm_276 (wq wm_277 (wq wm_278 (wq wm_279 (wq wm_280 (wq wm_281 (wq wm_282 (wq wm_283 (wq wm_284 (wq wm_285 (wq wm_286 (wq wm_287 (wq wm_288 (wq wm_289 (wq wm_290 (wq wm_291 (wq wm_292 (wq wm_293 wz))))))))))))))))))
set_option maxRecDepth 20000 in
theorem tgX4_perform : GoodIn lw_tbl wsX4_perform := goodIn_sub (List.forall_mem_cons.mpr ⟨wm_405, List.forall_mem_append.mpr ⟨List.forall_mem_append.mpr ⟨List.forall_mem_append.mpr ⟨List.forall_mem_append.mpr ⟨List.forall_mem_append.mpr ⟨iw_wsX4_perform_r1, List.forall_mem_append.mpr ⟨iw_wsX4_perform_r2, List.forall_mem_append.mpr ⟨iw_wsX4_perform_r3, List.forall_mem_append.mpr ⟨iw_wsX4_perform_r4, List.forall_mem_append.mpr ⟨iw_wsX4_perform_r5, List.forall_mem_append.mpr ⟨iw_wsX4_perform_r6, iw_wsX4_perform_r7⟩⟩⟩⟩⟩⟩, inX4⟩, inX2⟩, inX3⟩, inX1⟩⟩) (by decide +kernel)
set_option maxRecDepth 20000 in
theorem iw_wsX4_finish_r1 : ∀ w ∈ wsX4_finish_r1, w ∈ lw_tbl := wq wm_12 (wq wm_100 (wq wm_101 (wq wm_102 (wq wm_11 (wq wm_103 (wq wm_36 (wq wm_104 (wq wm_105 (wq wm_106 (wq wm_35 (wq wm_107 (wq wm_108 (wq wm_109 (wq wm_110 (wq wm_111 (wq wm_46 (wq wm_92 (wq wm_93 (wq wm_94 (wq wm_2 (wq wm_95 (wq wm_17 (wq wm_16 wz)))))))))))))))))))))))
set_option maxRecDepth 20000 in
theorem iw_wsX4_finish_r2 : ∀ w ∈ wsX4_finish_r2, w ∈ lw_tbl := wq wm_96 (wq wm_97 (wq wm_98 (wq wm_99 (wq wm_75 (wq wm_76 (wq wm_77 (wq wm_78 (wq wm_38 (wq wm_79 (wq wm_80 (wq wm_81 (wq wm_82 (wq wm_39 (wq wm_40 (wq wm_41 (wq wm_83 (wq wm_84 (wq wm_85 (wq wm_86 (wq wm_87 (wq wm_335 (wq wm_336 (wq wm_337 wz)))))))))))))))))))))))
set_option maxRecDepth 20000 in
theorem iw_wsX4_finish_r3 : ∀ w ∈ wsX4_finish_r3, w ∈ lw_tbl := wq wm_338 (wq wm_339 (wq wm_340 (wq wm_285 (wq wm_303 (wq wm_223 (wq wm_224 (wq wm_225 (wq wm_226 (wq wm_227 (wq wm_228 (wq wm_229 (wq wm_137 (wq wm_117 (wq wm_118 (wq wm_119 (wq wm_230 (wq wm_231 (wq wm_232 (wq wm_233 (wq wm_234 (wq wm_235 (wq wm_236 (wq wm_237 wz)))))))))))))))))))))))
set_option maxRecDepth 20000 in
theorem iw_wsX4_finish_r4 : ∀ w ∈ wsX4_finish_r4, w ∈ lw_tbl := wq wm_238 (wq wm_239 (wq wm_240 (wq wm_241 (wq wm_242 (wq wm_243 (wq wm_207 (wq wm_208 (wq wm_209 (wq wm_204 (wq wm_205 (wq wm_244 (wq wm_245 (wq wm_246 (wq wm_247 (wq wm_248 (wq wm_249 (wq wm_250 (wq wm_251 (wq wm_252 (wq wm_253 (wq wm_254 (wq wm_255 (wq wm_256 wz)))))))))))))))))))))))
set_option maxRecDepth 20000 in
theorem iw_wsX4_finish_r5 : ∀ w ∈ wsX4_finish_r5, w ∈ lw_tbl := wq wm_257 (wq wm_258 (wq wm_259 (wq wm_260 (wq wm_160 (wq wm_161 (wq wm_261 (wq wm_262 (wq wm_263 (wq wm_264 (wq wm_265 (wq wm_266 (wq wm_267 (wq wm_268 (wq wm_269 (wq wm_270 (wq wm_271 (wq wm_272 (wq wm_273 (wq wm_274 (wq wm_275 (wq wm_276 (wq wm_277 (wq wm_278 wz)))))))))))))))))))))))
set_option maxRecDepth 20000 in
theorem iw_wsX4_finish_r6 : ∀ w ∈ wsX4_finish_r6, w ∈ lw_tbl := wq wm_279 (wq wm_280 (wq wm_281 (wq wm_282 (wq wm_283 (wq wm_284 (wq wm_286 (wq wm_287 (wq wm_288 (wq wm_289 (wq wm_290 (wq wm_291 (wq wm_292 (wq wm_293 wz)))))))))))))
