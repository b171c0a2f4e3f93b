set_option maxRecDepth 20000 in
theorem tgX4_finish : GoodIn lw_tbl wsX4_finish := goodIn_sub (List.forall_mem_cons.mpr ⟨wm_334, List.forall_mem_append.mpr ⟨List.forall_mem_append.mpr ⟨List.forall_mem_append.mpr ⟨List.forall_mem_append.mpr ⟨iw_wsX4_finish_r1, List.forall_mem_append.mpr ⟨iw_wsX4_finish_r2, List.forall_mem_append.mpr ⟨iw_wsX4_finish_r3, List.forall_mem_append.mpr ⟨iw_wsX4_finish_r4, List.forall_mem_append.mpr ⟨iw_wsX4_finish_r5, iw_wsX4_finish_r6⟩⟩⟩⟩⟩, inX4⟩, inX3⟩, inX1⟩⟩) (by decide +kernel)
set_option maxRecDepth 20000 in
theorem tgX4_clearText : GoodIn lw_tbl wsX4_clearText := goodIn_sub (List.forall_mem_cons.mpr ⟨wm_401, List.forall_mem_append.mpr ⟨(wq wm_20 wz), inX4⟩⟩) (by decide +kernel)
set_option maxRecDepth 20000 in
theorem tgX4_undo : GoodIn lw_tbl wsX4_undo := goodIn_sub (List.forall_mem_cons.mpr ⟨wm_74, List.forall_mem_append.mpr ⟨List.forall_mem_append.mpr ⟨List.forall_mem_append.mpr ⟨(wq wm_17 (wq wm_12 (wq wm_16 (wq wm_75 (wq wm_76 (wq wm_77 (wq wm_11 (wq wm_78 (wq wm_36 (wq wm_38 (wq wm_79 (wq wm_80 (wq wm_81 (wq wm_82 (wq wm_39 (wq wm_40 (wq wm_41 (wq wm_83 (wq wm_84 (wq wm_85 (wq wm_35 (wq wm_86 (wq wm_46 (wq wm_87 wz)))))))))))))))))))))))), inX4⟩, inX3⟩, inX1⟩⟩) (by decide +kernel)
set_option maxRecDepth 20000 in
theorem iw_wsX4_keep_r1 : ∀ w ∈ wsX4_keep_r1, w ∈ lw_tbl := wq wm_14 (wq wm_12 (wq wm_15 (wq wm_75 (wq wm_76 (wq wm_77 (wq wm_11 (wq wm_78 (wq wm_36 (wq wm_38 (wq wm_79 (wq wm_80 (wq wm_81 (wq wm_82 (wq wm_39 (wq wm_40 (wq wm_41 (wq wm_83 (wq wm_84 (wq wm_85 (wq wm_35 (wq wm_86 (wq wm_46 (wq wm_87 wz)))))))))))))))))))))))
set_option maxRecDepth 20000 in
theorem iw_wsX4_keep_r2 : ∀ w ∈ wsX4_keep_r2, w ∈ lw_tbl := wq wm_100 (wq wm_101 (wq wm_102 (wq wm_103 (wq wm_104 (wq wm_105 (wq wm_106 (wq wm_107 (wq wm_108 (wq wm_109 (wq wm_110 (wq wm_111 wz)))))))))))
set_option maxRecDepth 20000 in
theorem tgX4_keep : GoodIn lw_tbl wsX4_keep := goodIn_sub (List.forall_mem_cons.mpr ⟨wm_443, List.forall_mem_append.mpr ⟨List.forall_mem_append.mpr ⟨List.forall_mem_append.mpr ⟨List.forall_mem_append.mpr ⟨iw_wsX4_keep_r1, iw_wsX4_keep_r2⟩, inX4⟩, inX3⟩, inX1⟩⟩) (by decide +kernel)
set_option maxRecDepth 20000 in
theorem iw_wsX4_restore_r1 : ∀ w ∈ wsX4_restore_r1, w ∈ lw_tbl := wq wm_15 (wq wm_12 (wq wm_14 (wq wm_92 (wq wm_93 (wq wm_94 (wq wm_2 (wq wm_95 (wq wm_17 (wq wm_16 (wq wm_96 (wq wm_97 (wq wm_98 (wq wm_99 (wq wm_75 (wq wm_76 (wq wm_77 (wq wm_11 (wq wm_78 (wq wm_36 (wq wm_38 (wq wm_79 (wq wm_80 (wq wm_81 wz)))))))))))))))))))))))
set_option maxRecDepth 20000 in
theorem iw_wsX4_restore_r2 : ∀ w ∈ wsX4_restore_r2, w ∈ lw_tbl := wq wm_82 (wq wm_39 (wq wm_40 (wq wm_41 (wq wm_83 (wq wm_84 (wq wm_85 (wq wm_35 (wq wm_86 (wq wm_46 (wq wm_87 (wq wm_100 (wq wm_101 (wq wm_102 (wq wm_103 (wq wm_104 (wq wm_105 (wq wm_106 (wq wm_107 (wq wm_108 (wq wm_109 (wq wm_110 (wq wm_111 wz))))))))))))))))))))))
set_option maxRecDepth 20000 in
theorem tgX4_restore : GoodIn lw_tbl wsX4_restore := goodIn_sub (List.forall_mem_cons.mpr ⟨wm_91, List.forall_mem_append.mpr ⟨List.forall_mem_append.mpr ⟨List.forall_mem_append.mpr ⟨List.forall_mem_append.mpr ⟨iw_wsX4_restore_r1, iw_wsX4_restore_r2⟩, inX4⟩, inX3⟩, inX1⟩⟩) (by decide +kernel)
set_option maxRecDepth 20000 in
theorem iw_wsX4_visitor_r1 : ∀ w ∈ wsX4_visitor_r1, w ∈ lw_tbl := wq wm_12 (wq wm_159 (wq wm_160 (wq wm_2 (wq wm_161 (wq wm_162 (wq wm_109 (wq wm_110 (wq wm_35 (wq wm_111 (wq wm_46 (wq wm_163 (wq wm_164 (wq wm_165 (wq wm_11 (wq wm_166 (wq wm_38 (wq wm_167 (wq wm_168 (wq wm_169 (wq wm_170 (wq wm_171 (wq wm_172 (wq wm_173 wz)))))))))))))))))))))))
set_option maxRecDepth 20000 in
theorem iw_wsX4_visitor_r2 : ∀ w ∈ wsX4_visitor_r2, w ∈ lw_tbl := wq wm_174 (wq wm_137 (wq wm_117 (wq wm_118 (wq wm_119 (wq wm_175 (wq wm_176 (wq wm_177 (wq wm_178 (wq wm_179 (wq wm_180 (wq wm_181 (wq wm_182 (wq wm_183 (wq wm_184 (wq wm_185 (wq wm_186 (wq wm_187 (wq wm_188 (wq wm_189 (wq wm_190 (wq wm_40 (wq wm_39 wz))))))))))))))))))))))
set_option maxRecDepth 20000 in
theorem tgX4_visitor : GoodIn lw_tbl wsX4_visitor := goodIn_sub (List.forall_mem_cons.mpr ⟨wm_158, List.forall_mem_append.mpr ⟨List.forall_mem_append.mpr ⟨List.forall_mem_append.mpr ⟨List.forall_mem_append.mpr ⟨iw_wsX4_visitor_r1, iw_wsX4_visitor_r2⟩, inX4⟩, inX3⟩, inX1⟩⟩) (by decide +kernel)
set_option maxRecDepth 20000 in
theorem tgX4_inLine : GoodIn lw_tbl wsX4_inLine := goodIn_sub (List.forall_mem_cons.mpr ⟨wm_194, List.forall_mem_append.mpr ⟨List.forall_mem_append.mpr ⟨(wq wm_12 (wq wm_195 (wq wm_196 (wq wm_197 (wq wm_11 (wq wm_198 (wq wm_40 (wq wm_39 wz)))))))), inX4⟩, inX3⟩⟩) (by decide +kernel)
set_option maxRecDepth 20000 in
theorem tgX4_card : GoodIn lw_tbl wsX4_card := goodIn_sub (List.forall_mem_cons.mpr ⟨wm_202, List.forall_mem_append.mpr ⟨List.forall_mem_append.mpr ⟨List.forall_mem_append.mpr ⟨(wq wm_12 (wq wm_203 (wq wm_204 (wq wm_2 (wq wm_205 (wq wm_116 (wq wm_117 (wq wm_118 (wq wm_35 (wq wm_119 (wq wm_46 (wq wm_206 (wq wm_207 (wq wm_208 (wq wm_209 wz))))))))))))))), inX4⟩, inX3⟩, inX1⟩⟩) (by decide +kernel)
set_option maxRecDepth 20000 in
theorem iw_wsX4_total_r1 : ∀ w ∈ wsX4_total_r1, w ∈ lw_tbl := wq wm_12 (wq wm_17 (wq wm_20 (wq wm_116 (wq wm_117 (wq wm_118 (wq wm_35 (wq wm_119 (wq wm_46 (wq wm_120 (wq wm_121 (wq wm_122 (wq wm_123 (wq wm_108 (wq wm_109 (wq wm_110 (wq wm_111 (wq wm_124 (wq wm_125 (wq wm_126 (wq wm_127 (wq wm_100 (wq wm_101 (wq wm_102 wz)))))))))))))))))))))))
set_option maxRecDepth 20000 in
theorem iw_wsX4_total_r2 : ∀ w ∈ wsX4_total_r2, w ∈ lw_tbl := wq wm_11 (wq wm_103 (wq wm_36 (wq wm_104 (wq wm_105 (wq wm_106 (wq wm_107 (wq wm_128 (wq wm_129 (wq wm_130 (wq wm_131 (wq wm_132 (wq wm_38 (wq wm_133 (wq wm_134 (wq wm_135 (wq wm_136 (wq wm_137 (wq wm_138 (wq wm_139 (wq wm_140 (wq wm_141 (wq wm_142 (wq wm_143 wz)))))))))))))))))))))))
set_option maxRecDepth 20000 in
theorem iw_wsX4_total_r3 : ∀ w ∈ wsX4_total_r3, w ∈ lw_tbl := wq wm_144 (wq wm_145 wz)
set_option maxRecDepth 20000 in
theorem tgX4_total : GoodIn lw_tbl wsX4_total := goodIn_sub (List.forall_mem_cons.mpr ⟨wm_115, List.forall_mem_append.mpr ⟨List.forall_mem_append.mpr ⟨List.forall_mem_append.mpr ⟨List.forall_mem_append.mpr ⟨iw_wsX4_total_r1, List.forall_mem_append.mpr ⟨iw_wsX4_total_r2, iw_wsX4_total_r3⟩⟩, inX4⟩, inX3⟩, inX1⟩⟩) (by decide +kernel)
set_option maxRecDepth 20000 in
theorem iw_wsX4_wouldLook_r1 : ∀ w ∈ wsX4_wouldLook_r1, w ∈ lw_tbl := wq wm_12 (wq wm_159 (wq wm_160 (wq wm_2 (wq wm_161 (wq wm_298 (wq wm_236 (wq wm_237 (wq wm_35 (wq wm_238 (wq wm_46 (wq wm_108 (wq wm_109 (wq wm_110 (wq wm_111 (wq wm_239 (wq wm_240 (wq wm_241 (wq wm_242 (wq wm_137 (wq wm_117 (wq wm_118 (wq wm_119 (wq wm_243 wz)))))))))))))))))))))))
set_option maxRecDepth 20000 in
theorem iw_wsX4_wouldLook_r2 : ∀ w ∈ wsX4_wouldLook_r2, w ∈ lw_tbl := wq wm_207 (wq wm_208 (wq wm_209 (wq wm_204 (wq wm_205 wz))))
set_option maxRecDepth 20000 in
theorem tgX4_wouldLook : GoodIn lw_tbl wsX4_wouldLook := goodIn_sub (List.forall_mem_cons.mpr ⟨wm_348, List.forall_mem_append.mpr ⟨List.forall_mem_append.mpr ⟨List.forall_mem_append.mpr ⟨List.forall_mem_append.mpr ⟨iw_wsX4_wouldLook_r1, iw_wsX4_wouldLook_r2⟩, inX4⟩, inX3⟩, inX1⟩⟩) (by decide +kernel)
set_option maxRecDepth 20000 in
theorem tgX4_wouldTouch : GoodIn lw_tbl wsX4_wouldTouch := goodIn_sub (List.forall_mem_cons.mpr ⟨wm_352, List.forall_mem_append.mpr ⟨List.forall_mem_append.mpr ⟨List.forall_mem_append.mpr ⟨(wq wm_12 (wq wm_159 (wq wm_160 (wq wm_2 (wq wm_161 (wq wm_353 (wq wm_231 (wq wm_232 (wq wm_35 (wq wm_233 (wq wm_234 (wq wm_137 (wq wm_117 (wq wm_118 (wq wm_119 (wq wm_46 (wq wm_108 (wq wm_109 (wq wm_110 (wq wm_111 wz)))))))))))))))))))), inX4⟩, inX3⟩, inX1⟩⟩) (by decide +kernel)
set_option maxRecDepth 20000 in
theorem iw_wsX4_stepsToFinish_r1 : ∀ w ∈ wsX4_stepsToFinish_r1, w ∈ lw_tbl := wq wm_13 (wq wm_12 (wq wm_75 (wq wm_76 (wq wm_77 (wq wm_11 (wq wm_78 (wq wm_36 (wq wm_38 (wq wm_79 (wq wm_80 (wq wm_81 (wq wm_82 (wq wm_39 (wq wm_40 (wq wm_41 (wq wm_83 (wq wm_84 (wq wm_85 (wq wm_35 (wq wm_86 (wq wm_46 (wq wm_87 (wq wm_335 wz)))))))))))))))))))))))
set_option maxRecDepth 20000 in
theorem iw_wsX4_stepsToFinish_r2 : ∀ w ∈ wsX4_stepsToFinish_r2, w ∈ lw_tbl := wq wm_336 (wq wm_337 (wq wm_338 (wq wm_339 (wq wm_340 (wq wm_101 (wq wm_102 (wq wm_103 (wq wm_104 (wq wm_105 (wq wm_106 (wq wm_107 (wq wm_108 (wq wm_109 (wq wm_110 (wq wm_111 (wq wm_285 (wq wm_303 (wq wm_223 (wq wm_224 (wq wm_225 (wq wm_226 (wq wm_227 (wq wm_228 wz)))))))))))))))))))))))
set_option maxRecDepth 20000 in
theorem iw_wsX4_stepsToFinish_r3 : ∀ w ∈ wsX4_stepsToFinish_r3, w ∈ lw_tbl := wq wm_229 (wq wm_137 (wq wm_117 (wq wm_118 (wq wm_119 (wq wm_230 (wq wm_231 (wq wm_232 (wq wm_233 (wq wm_234 (wq wm_235 (wq wm_236 (wq wm_237 (wq wm_238 (wq wm_239 (wq wm_240 (wq wm_241 (wq wm_242 (wq wm_243 (wq wm_207 (wq wm_208 (wq wm_209 (wq wm_204 (wq wm_2 wz)))))))))))))))))))))))
set_option maxRecDepth 20000 in
theorem iw_wsX4_stepsToFinish_r4 : ∀ w ∈ wsX4_stepsToFinish_r4, w ∈ lw_tbl := wq wm_205 (wq wm_244 (wq wm_245 (wq wm_246 (wq wm_247 (wq wm_248 (wq wm_249 (wq wm_250 (wq wm_251 (wq wm_252 (wq wm_253 (wq wm_254 (wq wm_255 (wq wm_256 (wq wm_257 (wq wm_258 (wq wm_259 (wq wm_260 (wq wm_160 (wq wm_161 (wq wm_261 (wq wm_262 (wq wm_263 (wq wm_264 wz)))))))))))))))))))))))
set_option maxRecDepth 20000 in
theorem iw_wsX4_stepsToFinish_r5 : ∀ w ∈ wsX4_stepsToFinish_r5, w ∈ lw_tbl := wq wm_265 (wq wm_266 (wq wm_267 (wq wm_268 (wq wm_269 (wq wm_270 (wq wm_271 (wq wm_272 (wq wm_273 (wq wm_274 (wq wm_275 (wq wm_276 (wq wm_277 (wq wm_278 (wq wm_279 (wq wm_280 (wq wm_281 (wq wm_282 (wq wm_283 (wq wm_284 (wq wm_286 (wq wm_287 (wq wm_288 (wq wm_289 wz)))))))))))))))))))))))
set_option maxRecDepth 20000 in
theorem iw_wsX4_stepsToFinish_r6 : ∀ w ∈ wsX4_stepsToFinish_r6, w ∈ lw_tbl := wq wm_290 (wq wm_291 (wq wm_292 (wq wm_293 wz)))
set_option maxRecDepth 20000 in
theorem tgX4_stepsToFinish : GoodIn lw_tbl wsX4_stepsToFinish := goodIn_sub (List.forall_mem_cons.mpr ⟨wm_344, List.forall_mem_append.mpr ⟨List.forall_mem_append.mpr ⟨List.forall_mem_append.mpr ⟨List.forall_mem_append.mpr ⟨iw_wsX4_stepsToFinish_r1, List.forall_mem_append.mpr ⟨iw_wsX4_stepsToFinish_r2, List.forall_mem_append.mpr ⟨iw_wsX4_stepsToFinish_r3, List.forall_mem_append.mpr ⟨iw_wsX4_stepsToFinish_r4, List.forall_mem_append.mpr ⟨iw_wsX4_stepsToFinish_r5, iw_wsX4_stepsToFinish_r6⟩⟩⟩⟩⟩, inX4⟩, inX3⟩, inX1⟩⟩) (by decide +kernel)
set_option maxRecDepth 20000 in
theorem iw_wsX4_orders_r1 : ∀ w ∈ wsX4_orders_r1, w ∈ lw_tbl := wq wm_28 (wq wm_12 (wq wm_159 (wq wm_160 (wq wm_2 (wq wm_161 (wq wm_358 (wq wm_359 (wq wm_360 (wq wm_27 (wq wm_361 (wq wm_69 (wq wm_68 (wq wm_362 (wq wm_84 (wq wm_85 (wq wm_35 (wq wm_86 (wq wm_46 (wq wm_87 (wq wm_80 (wq wm_81 (wq wm_82 (wq wm_363 wz)))))))))))))))))))))))
set_option maxRecDepth 20000 in
theorem iw_wsX4_orders_r2 : ∀ w ∈ wsX4_orders_r2, w ∈ lw_tbl := wq wm_364 (wq wm_365 (wq wm_366 (wq wm_66 (wq wm_65 (wq wm_34 (wq wm_67 (wq wm_70 (wq wm_43 (wq wm_44 (wq wm_45 (wq wm_7 (wq wm_8 (wq wm_37 (wq wm_47 (wq wm_48 (wq wm_49 (wq wm_50 (wq wm_367 (wq wm_368 (wq wm_369 (wq wm_370 (wq wm_371 (wq wm_245 wz)))))))))))))))))))))))
set_option maxRecDepth 20000 in
theorem iw_wsX4_orders_r3 : ∀ w ∈ wsX4_orders_r3, w ∈ lw_tbl := wq wm_246 (wq wm_247 (wq wm_248 (wq wm_236 (wq wm_237 (wq wm_238 (wq wm_108 (wq wm_109 (wq wm_110 (wq wm_111 (wq wm_239 (wq wm_240 (wq wm_241 (wq wm_242 (wq wm_137 (wq wm_117 (wq wm_118 (wq wm_119 (wq wm_243 (wq wm_207 (wq wm_208 (wq wm_209 (wq wm_204 (wq wm_205 wz)))))))))))))))))))))))
set_option maxRecDepth 20000 in
theorem iw_wsX4_orders_r4 : ∀ w ∈ wsX4_orders_r4, w ∈ lw_tbl := wq wm_249 (wq wm_250 (wq wm_251 (wq wm_252 (wq wm_253 (wq wm_254 (wq wm_255 (wq wm_256 (wq wm_257 (wq wm_258 (wq wm_259 (wq wm_260 (wq wm_261 (wq wm_262 (wq wm_263 (wq wm_264 (wq wm_265 (wq wm_266 (wq wm_267 (wq wm_268 (wq wm_269 (wq wm_270 (wq wm_271 (wq wm_272 wz)))))))))))))))))))))))
set_option maxRecDepth 20000 in
theorem iw_wsX4_orders_r5 : ∀ w ∈ wsX4_orders_r5, w ∈ lw_tbl := wq wm_273 (wq wm_274 (wq wm_275 (wq wm_276 (wq wm_277 (wq wm_278 (wq wm_279 (wq wm_280 (wq wm_281 (wq wm_282 (wq wm_283 (wq wm_284 (wq wm_372 (wq wm_373 (wq wm_374 (wq wm_375 (wq wm_376 (wq wm_377 (wq wm_378 (wq wm_379 (wq wm_380 (wq wm_381 (wq wm_382 (wq wm_383 wz)))))))))))))))))))))))
set_option maxRecDepth 20000 in
theorem iw_wsX4_orders_r6 : ∀ w ∈ wsX4_orders_r6, w ∈ lw_tbl := wq wm_384 (wq wm_385 (wq wm_386 (wq wm_387 (wq wm_388 (wq wm_389 (wq wm_390 (wq wm_391 (wq wm_392 (wq wm_393 (wq wm_394 (wq wm_395 (wq wm_396 (wq wm_397 wz)))))))))))))
set_option maxRecDepth 20000 in
theorem tgX4_orders : GoodIn lw_tbl wsX4_orders := goodIn_sub (List.forall_mem_cons.mpr ⟨wm_357, List.forall_mem_append.mpr ⟨List.forall_mem_append.mpr ⟨List.forall_mem_append.mpr ⟨List.forall_mem_append.mpr ⟨List.forall_mem_append.mpr ⟨iw_wsX4_orders_r1, List.forall_mem_append.mpr ⟨iw_wsX4_orders_r2, List.forall_mem_append.mpr ⟨iw_wsX4_orders_r3, List.forall_mem_append.mpr ⟨iw_wsX4_orders_r4, List.forall_mem_append.mpr ⟨iw_wsX4_orders_r5, iw_wsX4_orders_r6⟩⟩⟩⟩⟩, inX4⟩, inX3⟩, inX0⟩, inX1⟩⟩) (by decide +kernel)
set_option maxRecDepth 20000 in
theorem iw_wsX4_init_r1 : ∀ w ∈ wsX4_init_r1, w ∈ lw_tbl := wq wm_6 (wq wm_7 (wq wm_8 (wq wm_9 (wq wm_10 (wq wm_11 (wq wm_12 (wq wm_13 (wq wm_14 (wq wm_15 (wq wm_16 (wq wm_17 (wq wm_18 (wq wm_19 (wq wm_20 (wq wm_21 (wq wm_22 (wq wm_23 (wq wm_24 (wq wm_25 (wq wm_26 (wq wm_27 (wq wm_28 (wq wm_29 wz)))))))))))))))))))))))
set_option maxRecDepth 20000 in
theorem iw_wsX4_init_r2 : ∀ w ∈ wsX4_init_r2, w ∈ lw_tbl := wq wm_30 (wq wm_31 (wq wm_32 (wq wm_33 (wq wm_34 (wq wm_35 (wq wm_36 (wq wm_37 (wq wm_38 (wq wm_39 (wq wm_40 (wq wm_41 (wq wm_42 (wq wm_43 (wq wm_44 (wq wm_45 (wq wm_46 (wq wm_47 (wq wm_48 (wq wm_49 (wq wm_50 (wq wm_51 (wq wm_52 (wq wm_53 wz)))))))))))))))))))))))
set_option maxRecDepth 20000 in
theorem iw_wsX4_init_r3 : ∀ w ∈ wsX4_init_r3, w ∈ lw_tbl := wq wm_54 (wq wm_55 (wq wm_56 (wq wm_57 (wq wm_58 (wq wm_59 (wq wm_60 (wq wm_61 (wq wm_62 (wq wm_63 (wq wm_64 (wq wm_65 (wq wm_66 (wq wm_67 (wq wm_68 (wq wm_69 (wq wm_70 wz))))))))))))))))
set_option maxRecDepth 20000 in
theorem tgX4_init : GoodIn lw_tbl wsX4_init := goodIn_sub (List.forall_mem_cons.mpr ⟨wm_5, List.forall_mem_append.mpr ⟨List.forall_mem_append.mpr ⟨List.forall_mem_append.mpr ⟨List.forall_mem_append.mpr ⟨List.forall_mem_append.mpr ⟨List.forall_mem_append.mpr ⟨iw_wsX4_init_r1, List.forall_mem_append.mpr ⟨iw_wsX4_init_r2, iw_wsX4_init_r3⟩⟩, inX3⟩, inX4⟩, inX2⟩, inX0⟩, inX1⟩⟩) (by decide +kernel)
