set_option maxRecDepth 20000 in
theorem iw_wsX4_total_r3 : ∀ w ∈ wsX4_total_r3, w ∈ wsL_law := wq wm_544 (wq wm_545 wz)
set_option maxRecDepth 20000 in
theorem ggL_law_X4_total : GoodIn wsL_law wsX4_total := goodIn_sub (List.forall_mem_cons.mpr ⟨wm_524, List.forall_mem_append.mpr ⟨List.forall_mem_append.mpr ⟨List.forall_mem_append.mpr ⟨List.forall_mem_append.mpr ⟨iw_wsX4_total_r1, List.forall_mem_append.mpr ⟨iw_wsX4_total_r2, iw_wsX4_total_r3⟩⟩, inlX4⟩, inlX3⟩, inlX1⟩⟩) (by decide +kernel)
set_option maxRecDepth 20000 in
theorem gL_law_X4_total : GoodIn wsL_law (wsV RL 77 RX4 yX4_total wsX4_total) := goodIn_app (goodIn_of _ (by decide +kernel)) ggL_law_X4_total
set_option maxRecDepth 20000 in
theorem ggL_law_X5_total : GoodIn wsL_law wsX5_total := goodIn_sub (List.forall_mem_cons.mpr ⟨wm_549, List.forall_mem_append.mpr ⟨(wq wm_78 (wq wm_150 (wq wm_396 (wq wm_550 (wq wm_551 (wq wm_552 (wq wm_5 (wq wm_553 (wq wm_142 (wq wm_143 (wq wm_144 (wq wm_145 (wq wm_554 (wq wm_555 (wq wm_556 (wq wm_557 (wq wm_335 (wq wm_336 (wq wm_337 (wq wm_338 wz)))))))))))))))))))), inlX5⟩⟩) (by decide +kernel)
set_option maxRecDepth 20000 in
theorem gL_law_X5_total : GoodIn wsL_law (wsV RL 80 RX5 yX5_total wsX5_total) := goodIn_app (goodIn_of _ (by decide +kernel)) ggL_law_X5_total
set_option maxRecDepth 20000 in
theorem iw_wsX4_wouldLook_r1 : ∀ w ∈ wsX4_wouldLook_r1, w ∈ wsL_law := wq wm_15 (wq wm_158 (wq wm_159 (wq wm_2 (wq wm_160 (wq wm_290 (wq wm_176 (wq wm_177 (wq wm_38 (wq wm_178 (wq wm_49 (wq wm_105 (wq wm_106 (wq wm_107 (wq wm_108 (wq wm_179 (wq wm_180 (wq wm_181 (wq wm_182 (wq wm_169 (wq wm_131 (wq wm_132 (wq wm_133 (wq wm_183 wz)))))))))))))))))))))))
set_option maxRecDepth 20000 in
theorem iw_wsX4_wouldLook_r2 : ∀ w ∈ wsX4_wouldLook_r2, w ∈ wsL_law := wq wm_184 (wq wm_185 (wq wm_186 (wq wm_187 (wq wm_188 wz))))
set_option maxRecDepth 20000 in
theorem ggL_law_X4_wouldLook : GoodIn wsL_law wsX4_wouldLook := goodIn_sub (List.forall_mem_cons.mpr ⟨wm_561, List.forall_mem_append.mpr ⟨List.forall_mem_append.mpr ⟨List.forall_mem_append.mpr ⟨List.forall_mem_append.mpr ⟨iw_wsX4_wouldLook_r1, iw_wsX4_wouldLook_r2⟩, inlX4⟩, inlX3⟩, inlX1⟩⟩) (by decide +kernel)
set_option maxRecDepth 20000 in
theorem gL_law_X4_wouldLook : GoodIn wsL_law (wsV RL 81 RX4 yX4_wouldLook wsX4_wouldLook) := goodIn_app (goodIn_of _ (by decide +kernel)) ggL_law_X4_wouldLook
set_option maxRecDepth 20000 in
theorem ggL_law_X5_wouldLook : GoodIn wsL_law wsX5_wouldLook := goodIn_sub (List.forall_mem_cons.mpr ⟨wm_565, List.forall_mem_append.mpr ⟨(wq wm_244 (wq wm_245 (wq wm_5 (wq wm_246 (wq wm_139 (wq wm_140 (wq wm_141 (wq wm_251 (wq wm_252 (wq wm_253 (wq wm_254 (wq wm_78 wz)))))))))))), inlX5⟩⟩) (by decide +kernel)
set_option maxRecDepth 20000 in
theorem gL_law_X5_wouldLook : GoodIn wsL_law (wsV RL 84 RX5 yX5_wouldLook wsX5_wouldLook) := goodIn_app (goodIn_of _ (by decide +kernel)) ggL_law_X5_wouldLook
set_option maxRecDepth 20000 in
theorem ggL_law_X4_wouldTouch : GoodIn wsL_law wsX4_wouldTouch := goodIn_sub (List.forall_mem_cons.mpr ⟨wm_569, List.forall_mem_append.mpr ⟨List.forall_mem_append.mpr ⟨List.forall_mem_append.mpr ⟨(wq wm_15 (wq wm_158 (wq wm_159 (wq wm_2 (wq wm_160 (wq wm_570 (wq wm_171 (wq wm_172 (wq wm_38 (wq wm_173 (wq wm_174 (wq wm_169 (wq wm_131 (wq wm_132 (wq wm_133 (wq wm_49 (wq wm_105 (wq wm_106 (wq wm_107 (wq wm_108 wz)))))))))))))))))))), inlX4⟩, inlX3⟩, inlX1⟩⟩) (by decide +kernel)
set_option maxRecDepth 20000 in
theorem gL_law_X4_wouldTouch : GoodIn wsL_law (wsV RL 85 RX4 yX4_wouldTouch wsX4_wouldTouch) := goodIn_app (goodIn_of _ (by decide +kernel)) ggL_law_X4_wouldTouch
set_option maxRecDepth 20000 in
theorem ggL_law_X5_wouldTouch : GoodIn wsL_law wsX5_wouldTouch := goodIn_sub (List.forall_mem_cons.mpr ⟨wm_574, List.forall_mem_append.mpr ⟨(wq wm_78 (wq wm_244 (wq wm_245 (wq wm_5 (wq wm_246 (wq wm_139 (wq wm_140 (wq wm_141 (wq wm_255 (wq wm_256 (wq wm_257 wz))))))))))), inlX5⟩⟩) (by decide +kernel)
set_option maxRecDepth 20000 in
theorem gL_law_X5_wouldTouch : GoodIn wsL_law (wsV RL 88 RX5 yX5_wouldTouch wsX5_wouldTouch) := goodIn_app (goodIn_of _ (by decide +kernel)) ggL_law_X5_wouldTouch
set_option maxRecDepth 20000 in
theorem iw_wsX4_stepsToFinish_r1 : ∀ w ∈ wsX4_stepsToFinish_r1, w ∈ wsL_law := wq wm_16 (wq wm_15 (wq wm_117 (wq wm_118 (wq wm_119 (wq wm_14 (wq wm_120 (wq wm_39 (wq wm_41 (wq wm_121 (wq wm_122 (wq wm_123 (wq wm_124 (wq wm_42 (wq wm_43 (wq wm_44 (wq wm_125 (wq wm_126 (wq wm_127 (wq wm_38 (wq wm_128 (wq wm_49 (wq wm_129 (wq wm_408 wz)))))))))))))))))))))))
set_option maxRecDepth 20000 in
theorem iw_wsX4_stepsToFinish_r2 : ∀ w ∈ wsX4_stepsToFinish_r2, w ∈ wsL_law := wq wm_409 (wq wm_410 (wq wm_411 (wq wm_412 (wq wm_413 (wq wm_98 (wq wm_99 (wq wm_100 (wq wm_101 (wq wm_102 (wq wm_103 (wq wm_104 (wq wm_105 (wq wm_106 (wq wm_107 (wq wm_108 (wq wm_230 (wq wm_295 (wq wm_162 (wq wm_163 (wq wm_164 (wq wm_165 (wq wm_166 (wq wm_167 wz)))))))))))))))))))))))
set_option maxRecDepth 20000 in
theorem iw_wsX4_stepsToFinish_r3 : ∀ w ∈ wsX4_stepsToFinish_r3, w ∈ wsL_law := wq wm_168 (wq wm_169 (wq wm_131 (wq wm_132 (wq wm_133 (wq wm_170 (wq wm_171 (wq wm_172 (wq wm_173 (wq wm_174 (wq wm_175 (wq wm_176 (wq wm_177 (wq wm_178 (wq wm_179 (wq wm_180 (wq wm_181 (wq wm_182 (wq wm_183 (wq wm_184 (wq wm_185 (wq wm_186 (wq wm_187 (wq wm_2 wz)))))))))))))))))))))))
set_option maxRecDepth 20000 in
theorem iw_wsX4_stepsToFinish_r4 : ∀ w ∈ wsX4_stepsToFinish_r4, w ∈ wsL_law := wq wm_188 (wq wm_189 (wq wm_190 (wq wm_191 (wq wm_192 (wq wm_193 (wq wm_194 (wq wm_195 (wq wm_196 (wq wm_197 (wq wm_198 (wq wm_199 (wq wm_200 (wq wm_201 (wq wm_202 (wq wm_203 (wq wm_204 (wq wm_205 (wq wm_159 (wq wm_160 (wq wm_206 (wq wm_207 (wq wm_208 (wq wm_209 wz)))))))))))))))))))))))
set_option maxRecDepth 20000 in
theorem iw_wsX4_stepsToFinish_r5 : ∀ w ∈ wsX4_stepsToFinish_r5, w ∈ wsL_law := wq wm_210 (wq wm_211 (wq wm_212 (wq wm_213 (wq wm_214 (wq wm_215 (wq wm_216 (wq wm_217 (wq wm_218 (wq wm_219 (wq wm_220 (wq wm_221 (wq wm_222 (wq wm_223 (wq wm_224 (wq wm_225 (wq wm_226 (wq wm_227 (wq wm_228 (wq wm_229 (wq wm_231 (wq wm_232 (wq wm_233 (wq wm_234 wz)))))))))))))))))))))))
set_option maxRecDepth 20000 in
theorem iw_wsX4_stepsToFinish_r6 : ∀ w ∈ wsX4_stepsToFinish_r6, w ∈ wsL_law := wq wm_235 (wq wm_236 (wq wm_237 (wq wm_238 wz)))
set_option maxRecDepth 20000 in
theorem ggL_law_X4_stepsToFinish : GoodIn wsL_law wsX4_stepsToFinish := goodIn_sub (List.forall_mem_cons.mpr ⟨wm_578, List.forall_mem_append.mpr ⟨List.forall_mem_append.mpr ⟨List.forall_mem_append.mpr ⟨List.forall_mem_append.mpr ⟨iw_wsX4_stepsToFinish_r1, List.forall_mem_append.mpr ⟨iw_wsX4_stepsToFinish_r2, List.forall_mem_append.mpr ⟨iw_wsX4_stepsToFinish_r3, List.forall_mem_append.mpr ⟨iw_wsX4_stepsToFinish_r4, List.forall_mem_append.mpr ⟨iw_wsX4_stepsToFinish_r5, iw_wsX4_stepsToFinish_r6⟩⟩⟩⟩⟩, inlX4⟩, inlX3⟩, inlX1⟩⟩) (by decide +kernel)
set_option maxRecDepth 20000 in
theorem gL_law_X4_stepsToFinish : GoodIn wsL_law (wsV RL 89 RX4 yX4_stepsToFinish wsX4_stepsToFinish) := goodIn_app (goodIn_of _ (by decide +kernel)) ggL_law_X4_stepsToFinish
set_option maxRecDepth 20000 in
theorem iw_wsX5_stepsToFinish_r1 : ∀ w ∈ wsX5_stepsToFinish_r1, w ∈ wsL_law := wq wm_78 (wq wm_79 (wq wm_151 (wq wm_152 (wq wm_5 (wq wm_153 (wq wm_418 (wq wm_419 (wq wm_420 (wq wm_421 (wq wm_335 (wq wm_336 (wq wm_337 (wq wm_338 (wq wm_142 (wq wm_143 (wq wm_144 (wq wm_145 (wq wm_247 (wq wm_248 (wq wm_249 (wq wm_250 (wq wm_251 (wq wm_252 wz)))))))))))))))))))))))
set_option maxRecDepth 20000 in
theorem iw_wsX5_stepsToFinish_r2 : ∀ w ∈ wsX5_stepsToFinish_r2, w ∈ wsL_law := wq wm_253 (wq wm_254 (wq wm_255 (wq wm_256 (wq wm_257 (wq wm_258 (wq wm_259 (wq wm_260 (wq wm_261 (wq wm_262 (wq wm_263 (wq wm_264 (wq wm_265 (wq wm_266 (wq wm_267 (wq wm_268 (wq wm_269 (wq wm_270 (wq wm_271 (wq wm_272 (wq wm_273 (wq wm_274 (wq wm_275 (wq wm_276 wz)))))))))))))))))))))))
set_option maxRecDepth 20000 in
theorem iw_wsX5_stepsToFinish_r3 : ∀ w ∈ wsX5_stepsToFinish_r3, w ∈ wsL_law := wq wm_277 (wq wm_278 (wq wm_279 (wq wm_280 (wq wm_281 (wq wm_282 (wq wm_283 (wq wm_284 (wq wm_285 wz))))))))
set_option maxRecDepth 20000 in
theorem ggL_law_X5_stepsToFinish : GoodIn wsL_law wsX5_stepsToFinish := goodIn_sub (List.forall_mem_cons.mpr ⟨wm_582, List.forall_mem_append.mpr ⟨List.forall_mem_append.mpr ⟨iw_wsX5_stepsToFinish_r1, List.forall_mem_append.mpr ⟨iw_wsX5_stepsToFinish_r2, iw_wsX5_stepsToFinish_r3⟩⟩, inlX5⟩⟩) (by decide +kernel)
set_option maxRecDepth 20000 in
theorem gL_law_X5_stepsToFinish : GoodIn wsL_law (wsV RL 92 RX5 yX5_stepsToFinish wsX5_stepsToFinish) := goodIn_app (goodIn_of _ (by decide +kernel)) ggL_law_X5_stepsToFinish
set_option maxRecDepth 20000 in
theorem iw_wsX4_orders_r1 : ∀ w ∈ wsX4_orders_r1, w ∈ wsL_law := wq wm_31 (wq wm_15 (wq wm_158 (wq wm_159 (wq wm_2 (wq wm_160 (wq wm_587 (wq wm_588 (wq wm_589 (wq wm_30 (wq wm_590 (wq wm_72 (wq wm_71 (wq wm_591 (wq wm_126 (wq wm_127 (wq wm_38 (wq wm_128 (wq wm_49 (wq wm_129 (wq wm_122 (wq wm_123 (wq wm_124 (wq wm_592 wz)))))))))))))))))))))))
set_option maxRecDepth 20000 in
theorem iw_wsX4_orders_r2 : ∀ w ∈ wsX4_orders_r2, w ∈ wsL_law := wq wm_593 (wq wm_594 (wq wm_595 (wq wm_69 (wq wm_68 (wq wm_37 (wq wm_70 (wq wm_73 (wq wm_46 (wq wm_47 (wq wm_48 (wq wm_10 (wq wm_11 (wq wm_40 (wq wm_50 (wq wm_51 (wq wm_52 (wq wm_53 (wq wm_596 (wq wm_597 (wq wm_598 (wq wm_599 (wq wm_600 (wq wm_190 wz)))))))))))))))))))))))
set_option maxRecDepth 20000 in
theorem iw_wsX4_orders_r3 : ∀ w ∈ wsX4_orders_r3, w ∈ wsL_law := wq wm_191 (wq wm_192 (wq wm_193 (wq wm_176 (wq wm_177 (wq wm_178 (wq wm_105 (wq wm_106 (wq wm_107 (wq wm_108 (wq wm_179 (wq wm_180 (wq wm_181 (wq wm_182 (wq wm_169 (wq wm_131 (wq wm_132 (wq wm_133 (wq wm_183 (wq wm_184 (wq wm_185 (wq wm_186 (wq wm_187 (wq wm_188 wz)))))))))))))))))))))))
set_option maxRecDepth 20000 in
theorem iw_wsX4_orders_r4 : ∀ w ∈ wsX4_orders_r4, w ∈ wsL_law := wq wm_194 (wq wm_195 (wq wm_196 (wq wm_197 (wq wm_198 (wq wm_199 (wq wm_200 (wq wm_201 (wq wm_202 (wq wm_203 (wq wm_204 (wq wm_205 (wq wm_206 (wq wm_207 (wq wm_208 (wq wm_209 (wq wm_210 (wq wm_211 (wq wm_212 (wq wm_213 (wq wm_214 (wq wm_215 (wq wm_216 (wq wm_217 wz)))))))))))))))))))))))
set_option maxRecDepth 20000 in
theorem iw_wsX4_orders_r5 : ∀ w ∈ wsX4_orders_r5, w ∈ wsL_law := wq wm_218 (wq wm_219 (wq wm_220 (wq wm_221 (wq wm_222 (wq wm_223 (wq wm_224 (wq wm_225 (wq wm_226 (wq wm_227 (wq wm_228 (wq wm_229 (wq wm_601 (wq wm_602 (wq wm_603 (wq wm_604 (wq wm_605 (wq wm_606 (wq wm_607 (wq wm_608 (wq wm_609 (wq wm_610 (wq wm_611 (wq wm_612 wz)))))))))))))))))))))))
set_option maxRecDepth 20000 in
theorem iw_wsX4_orders_r6 : ∀ w ∈ wsX4_orders_r6, w ∈ wsL_law := wq wm_613 (wq wm_614 (wq wm_615 (wq wm_616 (wq wm_617 (wq wm_618 (wq wm_619 (wq wm_620 (wq wm_621 (wq wm_622 (wq wm_623 (wq wm_624 (wq wm_625 (wq wm_626 wz)))))))))))))
set_option maxRecDepth 20000 in
theorem ggL_law_X4_orders : GoodIn wsL_law wsX4_orders := goodIn_sub (List.forall_mem_cons.mpr ⟨wm_586, List.forall_mem_append.mpr ⟨List.forall_mem_append.mpr ⟨List.forall_mem_append.mpr ⟨List.forall_mem_append.mpr ⟨List.forall_mem_append.mpr ⟨iw_wsX4_orders_r1, List.forall_mem_append.mpr ⟨iw_wsX4_orders_r2, List.forall_mem_append.mpr ⟨iw_wsX4_orders_r3, List.forall_mem_append.mpr ⟨iw_wsX4_orders_r4, List.forall_mem_append.mpr ⟨iw_wsX4_orders_r5, iw_wsX4_orders_r6⟩⟩⟩⟩⟩, inlX4⟩, inlX3⟩, inlX0⟩, inlX1⟩⟩) (by decide +kernel)
set_option maxRecDepth 20000 in
theorem gL_law_X4_orders : GoodIn wsL_law (wsV RL 93 RX4 yX4_orders wsX4_orders) := goodIn_app (goodIn_of _ (by decide +kernel)) ggL_law_X4_orders
set_option maxRecDepth 20000 in
theorem iw_wsX5_orders_r1 : ∀ w ∈ wsX5_orders_r1, w ∈ wsL_law := wq wm_78 (wq wm_79 (wq wm_631 (wq wm_632 (wq wm_633 (wq wm_244 (wq wm_245 (wq wm_5 (wq wm_246 (wq wm_139 (wq wm_140 (wq wm_141 (wq wm_151 (wq wm_152 (wq wm_153 (wq wm_634 (wq wm_635 (wq wm_636 (wq wm_637 (wq wm_88 (wq wm_638 (wq wm_639 (wq wm_640 (wq wm_641 wz)))))))))))))))))))))))
set_option maxRecDepth 20000 in
theorem iw_wsX5_orders_r2 : ∀ w ∈ wsX5_orders_r2, w ∈ wsL_law := wq wm_642 (wq wm_643 (wq wm_644 (wq wm_645 (wq wm_251 (wq wm_252 (wq wm_253 (wq wm_254 (wq wm_258 (wq wm_259 (wq wm_260 (wq wm_261 (wq wm_262 (wq wm_263 (wq wm_264 (wq wm_265 (wq wm_266 (wq wm_267 (wq wm_268 (wq wm_269 (wq wm_270 (wq wm_271 (wq wm_272 (wq wm_273 wz)))))))))))))))))))))))
set_option maxRecDepth 20000 in
theorem iw_wsX5_orders_r3 : ∀ w ∈ wsX5_orders_r3, w ∈ wsL_law := wq wm_274 (wq wm_275 (wq wm_276 (wq wm_277 (wq wm_646 (wq wm_647 (wq wm_648 (wq wm_649 wz)))))))
set_option maxRecDepth 20000 in
theorem ggL_law_X5_orders : GoodIn wsL_law wsX5_orders := goodIn_sub (List.forall_mem_cons.mpr ⟨wm_630, List.forall_mem_append.mpr ⟨List.forall_mem_append.mpr ⟨iw_wsX5_orders_r1, List.forall_mem_append.mpr ⟨iw_wsX5_orders_r2, iw_wsX5_orders_r3⟩⟩, inlX5⟩⟩) (by decide +kernel)
set_option maxRecDepth 20000 in
theorem gL_law_X5_orders : GoodIn wsL_law (wsV RL 97 RX5 yX5_orders wsX5_orders) := goodIn_app (goodIn_of _ (by decide +kernel)) ggL_law_X5_orders
