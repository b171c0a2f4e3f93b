set_option maxRecDepth 20000 in
theorem iw_wsX4_init_r1 : ∀ w ∈ wsX4_init_r1, w ∈ wsL_law := wq wm_9 (wq wm_10 (wq wm_11 (wq wm_12 (wq wm_13 (wq wm_14 (wq wm_15 (wq wm_16 (wq wm_17 (wq wm_18 (wq wm_19 (wq wm_20 (wq wm_21 (wq wm_22 (wq wm_23 (wq wm_24 (wq wm_25 (wq wm_26 (wq wm_27 (wq wm_28 (wq wm_29 (wq wm_30 (wq wm_31 (wq wm_32 wz)))))))))))))))))))))))
set_option maxRecDepth 20000 in
theorem iw_wsX4_init_r2 : ∀ w ∈ wsX4_init_r2, w ∈ wsL_law := wq wm_33 (wq wm_34 (wq wm_35 (wq wm_36 (wq wm_37 (wq wm_38 (wq wm_39 (wq wm_40 (wq wm_41 (wq wm_42 (wq wm_43 (wq wm_44 (wq wm_45 (wq wm_46 (wq wm_47 (wq wm_48 (wq wm_49 (wq wm_50 (wq wm_51 (wq wm_52 (wq wm_53 (wq wm_54 (wq wm_55 (wq wm_56 wz)))))))))))))))))))))))
set_option maxRecDepth 20000 in
theorem iw_wsX4_init_r3 : ∀ w ∈ wsX4_init_r3, w ∈ wsL_law := wq wm_57 (wq wm_58 (wq wm_59 (wq wm_60 (wq wm_61 (wq wm_62 (wq wm_63 (wq wm_64 (wq wm_65 (wq wm_66 (wq wm_67 (wq wm_68 (wq wm_69 (wq wm_70 (wq wm_71 (wq wm_72 (wq wm_73 wz))))))))))))))))
set_option maxRecDepth 20000 in
theorem ggL_law_X4_init : GoodIn wsL_law wsX4_init := goodIn_sub (List.forall_mem_cons.mpr ⟨wm_8, List.forall_mem_append.mpr ⟨List.forall_mem_append.mpr ⟨List.forall_mem_append.mpr ⟨List.forall_mem_append.mpr ⟨List.forall_mem_append.mpr ⟨List.forall_mem_append.mpr ⟨iw_wsX4_init_r1, List.forall_mem_append.mpr ⟨iw_wsX4_init_r2, iw_wsX4_init_r3⟩⟩, inlX3⟩, inlX4⟩, inlX2⟩, inlX0⟩, inlX1⟩⟩) (by decide +kernel)
set_option maxRecDepth 20000 in
theorem gL_law_X4_init : GoodIn wsL_law (wsX4_init) := ggL_law_X4_init
set_option maxRecDepth 20000 in
theorem ggL_law_X5_init : GoodIn wsL_law wsX5_init := goodIn_sub (List.forall_mem_cons.mpr ⟨wm_76, List.forall_mem_append.mpr ⟨(wq wm_77 (wq wm_10 (wq wm_11 (wq wm_40 (wq wm_78 (wq wm_79 (wq wm_80 (wq wm_81 (wq wm_82 (wq wm_83 (wq wm_84 (wq wm_85 (wq wm_86 (wq wm_87 (wq wm_88 (wq wm_89 (wq wm_90 (wq wm_91 (wq wm_5 (wq wm_92 wz)))))))))))))))))))), inlX5⟩⟩) (by decide +kernel)
set_option maxRecDepth 20000 in
theorem gL_law_X5_init : GoodIn wsL_law (wsX5_init) := ggL_law_X5_init
set_option maxRecDepth 20000 in
theorem iw_wsX4_build_r1 : ∀ w ∈ wsX4_build_r1, w ∈ wsL_law := wq wm_15 (wq wm_97 (wq wm_98 (wq wm_99 (wq wm_14 (wq wm_100 (wq wm_39 (wq wm_101 (wq wm_102 (wq wm_103 (wq wm_38 (wq wm_104 (wq wm_105 (wq wm_106 (wq wm_107 (wq wm_108 (wq wm_49 (wq wm_109 (wq wm_110 (wq wm_111 (wq wm_2 (wq wm_112 (wq wm_20 (wq wm_19 wz)))))))))))))))))))))))
set_option maxRecDepth 20000 in
theorem iw_wsX4_build_r2 : ∀ w ∈ wsX4_build_r2, w ∈ wsL_law := wq wm_113 (wq wm_114 (wq wm_115 (wq wm_116 (wq wm_117 (wq wm_118 (wq wm_119 (wq wm_120 (wq wm_41 (wq wm_121 (wq wm_122 (wq wm_123 (wq wm_124 (wq wm_42 (wq wm_43 (wq wm_44 (wq wm_125 (wq wm_126 (wq wm_127 (wq wm_128 (wq wm_129 (wq wm_130 (wq wm_131 (wq wm_132 wz)))))))))))))))))))))))
set_option maxRecDepth 20000 in
theorem iw_wsX4_build_r3 : ∀ w ∈ wsX4_build_r3, w ∈ wsL_law := wq wm_133 (wq wm_134 (wq wm_51 (wq wm_52 (wq wm_53 wz))))
set_option maxRecDepth 20000 in
theorem ggL_law_X4_build : GoodIn wsL_law wsX4_build := goodIn_sub (List.forall_mem_cons.mpr ⟨wm_96, List.forall_mem_append.mpr ⟨List.forall_mem_append.mpr ⟨List.forall_mem_append.mpr ⟨List.forall_mem_append.mpr ⟨iw_wsX4_build_r1, List.forall_mem_append.mpr ⟨iw_wsX4_build_r2, iw_wsX4_build_r3⟩⟩, inlX4⟩, inlX3⟩, inlX1⟩⟩) (by decide +kernel)
set_option maxRecDepth 20000 in
theorem gL_law_X4_build : GoodIn wsL_law (wsV RL 13 RX4 yX4_build wsX4_build) := goodIn_app (goodIn_of _ (by decide +kernel)) ggL_law_X4_build
set_option maxRecDepth 20000 in
theorem ggL_law_X5_build : GoodIn wsL_law wsX5_build := goodIn_sub (List.forall_mem_cons.mpr ⟨wm_138, List.forall_mem_append.mpr ⟨(wq wm_78 (wq wm_139 (wq wm_140 (wq wm_5 (wq wm_141 (wq wm_142 (wq wm_143 (wq wm_144 (wq wm_145 (wq wm_146 (wq wm_147 (wq wm_148 (wq wm_149 (wq wm_150 (wq wm_80 (wq wm_151 (wq wm_152 (wq wm_153 (wq wm_89 (wq wm_90 (wq wm_91 (wq wm_92 wz)))))))))))))))))))))), inlX5⟩⟩) (by decide +kernel)
set_option maxRecDepth 20000 in
theorem gL_law_X5_build : GoodIn wsL_law (wsV RL 17 RX5 yX5_build wsX5_build) := goodIn_app (goodIn_of _ (by decide +kernel)) ggL_law_X5_build
set_option maxRecDepth 20000 in
theorem iw_wsX4_step_r1 : ∀ w ∈ wsX4_step_r1, w ∈ wsL_law := wq wm_15 (wq wm_158 (wq wm_159 (wq wm_2 (wq wm_160 (wq wm_109 (wq wm_110 (wq wm_111 (wq wm_112 (wq wm_20 (wq wm_19 (wq wm_113 (wq wm_114 (wq wm_115 (wq wm_116 (wq wm_117 (wq wm_118 (wq wm_119 (wq wm_14 (wq wm_120 (wq wm_39 (wq wm_41 (wq wm_121 (wq wm_122 wz)))))))))))))))))))))))
set_option maxRecDepth 20000 in
theorem iw_wsX4_step_r2 : ∀ w ∈ wsX4_step_r2, w ∈ wsL_law := wq wm_123 (wq wm_124 (wq wm_42 (wq wm_43 (wq wm_44 (wq wm_125 (wq wm_126 (wq wm_127 (wq wm_38 (wq wm_128 (wq wm_49 (wq wm_129 (wq wm_161 (wq wm_162 (wq wm_163 (wq wm_164 (wq wm_165 (wq wm_166 (wq wm_167 (wq wm_168 (wq wm_169 (wq wm_131 (wq wm_132 (wq wm_133 wz)))))))))))))))))))))))
set_option maxRecDepth 20000 in
theorem iw_wsX4_step_r3 : ∀ w ∈ wsX4_step_r3, w ∈ wsL_law := wq wm_105 (wq wm_106 (wq wm_107 (wq wm_108 (wq wm_170 (wq wm_171 (wq wm_172 (wq wm_173 (wq wm_174 (wq wm_175 (wq wm_176 (wq wm_177 (wq wm_178 (wq wm_179 (wq wm_180 (wq wm_181 (wq wm_182 (wq wm_183 (wq wm_184 (wq wm_185 (wq wm_186 (wq wm_187 (wq wm_188 (wq wm_189 wz)))))))))))))))))))))))
set_option maxRecDepth 20000 in
theorem iw_wsX4_step_r4 : ∀ w ∈ wsX4_step_r4, w ∈ wsL_law := wq wm_190 (wq wm_191 (wq wm_192 (wq wm_193 (wq wm_194 (wq wm_195 (wq wm_196 (wq wm_197 (wq wm_198 (wq wm_199 (wq wm_200 (wq wm_201 (wq wm_202 (wq wm_203 (wq wm_204 (wq wm_205 (wq wm_206 (wq wm_207 (wq wm_208 (wq wm_209 (wq wm_210 (wq wm_211 (wq wm_212 (wq wm_213 wz)))))))))))))))))))))))
set_option maxRecDepth 20000 in
theorem iw_wsX4_step_r5 : ∀ w ∈ wsX4_step_r5, w ∈ wsL_law := wq wm_214 (wq wm_215 (wq wm_216 (wq wm_217 (wq wm_218 (wq wm_219 (wq wm_220 (wq wm_221 (wq wm_222 (wq wm_223 (wq wm_224 (wq wm_225 (wq wm_226 (wq wm_227 (wq wm_228 (wq wm_229 (wq wm_230 (wq wm_231 (wq wm_232 (wq wm_233 (wq wm_234 (wq wm_235 (wq wm_236 (wq wm_237 wz)))))))))))))))))))))))
set_option maxRecDepth 20000 in
theorem iw_wsX4_step_r6 : ∀ w ∈ wsX4_step_r6, w ∈ wsL_law := wq wm_238 (wq wm_239 wz)
set_option maxRecDepth 20000 in
theorem ggL_law_X4_step : GoodIn wsL_law wsX4_step := goodIn_sub (List.forall_mem_cons.mpr ⟨wm_157, List.forall_mem_append.mpr ⟨List.forall_mem_append.mpr ⟨List.forall_mem_append.mpr ⟨List.forall_mem_append.mpr ⟨iw_wsX4_step_r1, List.forall_mem_append.mpr ⟨iw_wsX4_step_r2, List.forall_mem_append.mpr ⟨iw_wsX4_step_r3, List.forall_mem_append.mpr ⟨iw_wsX4_step_r4, List.forall_mem_append.mpr ⟨iw_wsX4_step_r5, iw_wsX4_step_r6⟩⟩⟩⟩⟩, inlX4⟩, inlX3⟩, inlX1⟩⟩) (by decide +kernel)
set_option maxRecDepth 20000 in
theorem gL_law_X4_step : GoodIn wsL_law (wsV RL 18 RX4 yX4_step wsX4_step) := goodIn_app (goodIn_of _ (by decide +kernel)) ggL_law_X4_step
set_option maxRecDepth 20000 in
theorem iw_wsX5_step_r1 : ∀ w ∈ wsX5_step_r1, w ∈ wsL_law := wq wm_78 (wq wm_244 (wq wm_245 (wq wm_5 (wq wm_246 (wq wm_139 (wq wm_140 (wq wm_141 (wq wm_146 (wq wm_147 (wq wm_148 (wq wm_149 (wq wm_150 (wq wm_80 (wq wm_151 (wq wm_152 (wq wm_153 (wq wm_247 (wq wm_248 (wq wm_249 (wq wm_250 (wq wm_251 (wq wm_252 (wq wm_253 wz)))))))))))))))))))))))
set_option maxRecDepth 20000 in
theorem iw_wsX5_step_r2 : ∀ w ∈ wsX5_step_r2, w ∈ wsL_law := wq wm_254 (wq wm_255 (wq wm_256 (wq wm_257 (wq wm_258 (wq wm_259 (wq wm_260 (wq wm_261 (wq wm_262 (wq wm_263 (wq wm_264 (wq wm_265 (wq wm_266 (wq wm_267 (wq wm_268 (wq wm_269 (wq wm_270 (wq wm_271 (wq wm_272 (wq wm_273 (wq wm_274 (wq wm_275 (wq wm_276 (wq wm_277 wz)))))))))))))))))))))))
set_option maxRecDepth 20000 in
theorem iw_wsX5_step_r3 : ∀ w ∈ wsX5_step_r3, w ∈ wsL_law := wq wm_278 (wq wm_279 (wq wm_280 (wq wm_281 (wq wm_282 (wq wm_283 (wq wm_284 (wq wm_285 wz)))))))
set_option maxRecDepth 20000 in
theorem ggL_law_X5_step : GoodIn wsL_law wsX5_step := goodIn_sub (List.forall_mem_cons.mpr ⟨wm_243, List.forall_mem_append.mpr ⟨List.forall_mem_append.mpr ⟨iw_wsX5_step_r1, List.forall_mem_append.mpr ⟨iw_wsX5_step_r2, iw_wsX5_step_r3⟩⟩, inlX5⟩⟩) (by decide +kernel)
set_option maxRecDepth 20000 in
theorem gL_law_X5_step : GoodIn wsL_law (wsV RL 21 RX5 yX5_step wsX5_step) := goodIn_app (goodIn_of _ (by decide +kernel)) ggL_law_X5_step
set_option maxRecDepth 20000 in
theorem iw_wsX4_go_r1 : ∀ w ∈ wsX4_go_r1, w ∈ wsL_law := wq wm_15 (wq wm_158 (wq wm_159 (wq wm_2 (wq wm_160 (wq wm_290 (wq wm_176 (wq wm_177 (wq wm_38 (wq wm_178 (wq wm_49 (wq wm_105 (wq wm_106 (wq wm_107 (wq wm_108 (wq wm_179 (wq wm_180 (wq wm_181 (wq wm_182 (wq wm_169 (wq wm_131 (wq wm_132 (wq wm_133 (wq wm_183 wz)))))))))))))))))))))))
set_option maxRecDepth 20000 in
theorem iw_wsX4_go_r2 : ∀ w ∈ wsX4_go_r2, w ∈ wsL_law := wq wm_184 (wq wm_185 (wq wm_186 (wq wm_187 (wq wm_188 (wq wm_109 (wq wm_110 (wq wm_111 (wq wm_112 (wq wm_20 (wq wm_19 (wq wm_113 (wq wm_114 (wq wm_115 (wq wm_116 (wq wm_117 (wq wm_118 (wq wm_119 (wq wm_14 (wq wm_120 (wq wm_39 (wq wm_41 (wq wm_121 (wq wm_122 wz)))))))))))))))))))))))
set_option maxRecDepth 20000 in
theorem iw_wsX4_go_r3 : ∀ w ∈ wsX4_go_r3, w ∈ wsL_law := wq wm_123 (wq wm_124 (wq wm_42 (wq wm_43 (wq wm_44 (wq wm_125 (wq wm_126 (wq wm_127 (wq wm_128 (wq wm_129 (wq wm_291 (wq wm_292 (wq wm_293 (wq wm_294 (wq wm_295 (wq wm_162 (wq wm_163 (wq wm_164 (wq wm_165 (wq wm_166 (wq wm_167 (wq wm_168 (wq wm_170 (wq wm_171 wz)))))))))))))))))))))))
set_option maxRecDepth 20000 in
theorem iw_wsX4_go_r4 : ∀ w ∈ wsX4_go_r4, w ∈ wsL_law := wq wm_172 (wq wm_173 (wq wm_174 (wq wm_175 (wq wm_189 (wq wm_190 (wq wm_191 (wq wm_192 (wq wm_193 (wq wm_194 (wq wm_195 (wq wm_196 (wq wm_197 (wq wm_198 (wq wm_199 (wq wm_200 (wq wm_201 (wq wm_202 (wq wm_203 (wq wm_204 (wq wm_205 (wq wm_206 (wq wm_207 (wq wm_208 wz)))))))))))))))))))))))
set_option maxRecDepth 20000 in
theorem iw_wsX4_go_r5 : ∀ w ∈ wsX4_go_r5, w ∈ wsL_law := wq wm_209 (wq wm_210 (wq wm_211 (wq wm_212 (wq wm_213 (wq wm_214 (wq wm_215 (wq wm_216 (wq wm_217 (wq wm_218 (wq wm_219 (wq wm_220 (wq wm_221 (wq wm_222 (wq wm_223 (wq wm_224 (wq wm_225 (wq wm_226 (wq wm_227 (wq wm_228 (wq wm_229 (wq wm_230 (wq wm_231 (wq wm_232 wz)))))))))))))))))))))))
set_option maxRecDepth 20000 in
theorem iw_wsX4_go_r6 : ∀ w ∈ wsX4_go_r6, w ∈ wsL_law := wq wm_233 (wq wm_234 (wq wm_235 (wq wm_236 (wq wm_237 (wq wm_238 (wq wm_296 (wq wm_297 (wq wm_298 (wq wm_299 wz)))))))))
set_option maxRecDepth 20000 in
theorem ggL_law_X4_go : GoodIn wsL_law wsX4_go := goodIn_sub (List.forall_mem_cons.mpr ⟨wm_289, List.forall_mem_append.mpr ⟨List.forall_mem_append.mpr ⟨List.forall_mem_append.mpr ⟨List.forall_mem_append.mpr ⟨iw_wsX4_go_r1, List.forall_mem_append.mpr ⟨iw_wsX4_go_r2, List.forall_mem_append.mpr ⟨iw_wsX4_go_r3, List.forall_mem_append.mpr ⟨iw_wsX4_go_r4, List.forall_mem_append.mpr ⟨iw_wsX4_go_r5, iw_wsX4_go_r6⟩⟩⟩⟩⟩, inlX4⟩, inlX3⟩, inlX1⟩⟩) (by decide +kernel)
set_option maxRecDepth 20000 in
theorem gL_law_X4_go : GoodIn wsL_law (wsV RL 22 RX4 yX4_go wsX4_go) := goodIn_app (goodIn_of _ (by decide +kernel)) ggL_law_X4_go
set_option maxRecDepth 20000 in
theorem iw_wsX5_go_r1 : ∀ w ∈ wsX5_go_r1, w ∈ wsL_law := wq wm_78 (wq wm_244 (wq wm_245 (wq wm_5 (wq wm_246 (wq wm_139 (wq wm_140 (wq wm_141 (wq wm_251 (wq wm_252 (wq wm_253 (wq wm_254 (wq wm_146 (wq wm_147 (wq wm_148 (wq wm_149 (wq wm_150 (wq wm_80 (wq wm_151 (wq wm_152 (wq wm_153 (wq wm_247 (wq wm_248 (wq wm_249 wz)))))))))))))))))))))))
set_option maxRecDepth 20000 in
theorem iw_wsX5_go_r2 : ∀ w ∈ wsX5_go_r2, w ∈ wsL_law := wq wm_250 (wq wm_255 (wq wm_256 (wq wm_257 (wq wm_258 (wq wm_259 (wq wm_260 (wq wm_261 (wq wm_262 (wq wm_263 (wq wm_264 (wq wm_265 (wq wm_266 (wq wm_267 (wq wm_268 (wq wm_269 (wq wm_270 (wq wm_271 (wq wm_272 (wq wm_273 (wq wm_274 (wq wm_275 (wq wm_276 (wq wm_277 wz)))))))))))))))))))))))
set_option maxRecDepth 20000 in
theorem iw_wsX5_go_r3 : ∀ w ∈ wsX5_go_r3, w ∈ wsL_law := wq wm_278 (wq wm_279 (wq wm_280 (wq wm_281 (wq wm_282 (wq wm_283 (wq wm_284 (wq wm_285 wz)))))))
set_option maxRecDepth 20000 in
theorem ggL_law_X5_go : GoodIn wsL_law wsX5_go := goodIn_sub (List.forall_mem_cons.mpr ⟨wm_303, List.forall_mem_append.mpr ⟨List.forall_mem_append.mpr ⟨iw_wsX5_go_r1, List.forall_mem_append.mpr ⟨iw_wsX5_go_r2, iw_wsX5_go_r3⟩⟩, inlX5⟩⟩) (by decide +kernel)
set_option maxRecDepth 20000 in
theorem gL_law_X5_go : GoodIn wsL_law (wsV RL 25 RX5 yX5_go wsX5_go) := goodIn_app (goodIn_of _ (by decide +kernel)) ggL_law_X5_go
set_option maxRecDepth 20000 in
theorem iw_wsX4_draw_r1 : ∀ w ∈ wsX4_draw_r1, w ∈ wsL_law := wq wm_15 (wq wm_109 (wq wm_110 (wq wm_111 (wq wm_2 (wq wm_112 (wq wm_20 (wq wm_19 (wq wm_113 (wq wm_114 (wq wm_115 (wq wm_116 (wq wm_117 (wq wm_118 (wq wm_119 (wq wm_14 (wq wm_120 (wq wm_39 (wq wm_41 (wq wm_121 (wq wm_122 (wq wm_123 (wq wm_124 (wq wm_42 wz)))))))))))))))))))))))
set_option maxRecDepth 20000 in
theorem iw_wsX4_draw_r2 : ∀ w ∈ wsX4_draw_r2, w ∈ wsL_law := wq wm_43 (wq wm_44 (wq wm_125 (wq wm_126 (wq wm_127 (wq wm_38 (wq wm_128 (wq wm_49 (wq wm_129 (wq wm_308 (wq wm_309 (wq wm_310 (wq wm_311 (wq wm_312 (wq wm_313 (wq wm_314 (wq wm_315 (wq wm_316 (wq wm_317 (wq wm_318 (wq wm_319 (wq wm_320 (wq wm_321 (wq wm_322 wz)))))))))))))))))))))))
