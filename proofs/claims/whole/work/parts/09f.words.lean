set_option maxRecDepth 20000 in
theorem ggL_law_X5_finish : GoodIn wsL_law wsX5_finish := goodIn_sub (List.forall_mem_cons.mpr ⟨wm_417, List.forall_mem_append.mpr ⟨List.forall_mem_append.mpr ⟨iw_wsX5_finish_r1, List.forall_mem_append.mpr ⟨iw_wsX5_finish_r2, iw_wsX5_finish_r3⟩⟩, inlX5⟩⟩) (by decide +kernel)
set_option maxRecDepth 20000 in
theorem gL_law_X5_finish : GoodIn wsL_law (wsV RL 43 RX5 yX5_finish wsX5_finish) := goodIn_app (goodIn_of _ (by decide +kernel)) ggL_law_X5_finish
set_option maxRecDepth 20000 in
theorem ggL_law_X4_type : GoodIn wsL_law wsX4_type := goodIn_sub (List.forall_mem_cons.mpr ⟨wm_425, List.forall_mem_append.mpr ⟨(wq wm_23 (wq wm_22 wz)), inlX4⟩⟩) (by decide +kernel)
set_option maxRecDepth 20000 in
theorem gL_law_X4_type : GoodIn wsL_law (wsV RL 44 RX4 yX4_type wsX4_type) := goodIn_app (goodIn_of _ (by decide +kernel)) ggL_law_X4_type
set_option maxRecDepth 20000 in
theorem ggL_law_X5_type : GoodIn wsL_law wsX5_type := goodIn_sub (List.forall_mem_cons.mpr ⟨wm_429, List.forall_mem_append.mpr ⟨(wq wm_396 (wq wm_82 wz)), inlX5⟩⟩) (by decide +kernel)
set_option maxRecDepth 20000 in
theorem gL_law_X5_type : GoodIn wsL_law (wsV RL 48 RX5 yX5_type wsX5_type) := goodIn_app (goodIn_of _ (by decide +kernel)) ggL_law_X5_type
set_option maxRecDepth 20000 in
theorem ggL_law_X4_clearText : GoodIn wsL_law wsX4_clearText := goodIn_sub (List.forall_mem_cons.mpr ⟨wm_433, List.forall_mem_append.mpr ⟨(wq wm_23 wz), inlX4⟩⟩) (by decide +kernel)
set_option maxRecDepth 20000 in
theorem gL_law_X4_clearText : GoodIn wsL_law (wsV RL 49 RX4 yX4_clearText wsX4_clearText) := goodIn_app (goodIn_of _ (by decide +kernel)) ggL_law_X4_clearText
set_option maxRecDepth 20000 in
theorem ggL_law_X5_clearText : GoodIn wsL_law wsX5_clearText := goodIn_sub (List.forall_mem_cons.mpr ⟨wm_437, List.forall_mem_append.mpr ⟨(wq wm_396 wz), inlX5⟩⟩) (by decide +kernel)
set_option maxRecDepth 20000 in
theorem gL_law_X5_clearText : GoodIn wsL_law (wsV RL 52 RX5 yX5_clearText wsX5_clearText) := goodIn_app (goodIn_of _ (by decide +kernel)) ggL_law_X5_clearText
set_option maxRecDepth 20000 in
theorem ggL_law_X4_undo : GoodIn wsL_law wsX4_undo := goodIn_sub (List.forall_mem_cons.mpr ⟨wm_441, List.forall_mem_append.mpr ⟨List.forall_mem_append.mpr ⟨List.forall_mem_append.mpr ⟨(wq wm_20 (wq wm_15 (wq wm_19 (wq wm_117 (wq wm_118 (wq wm_119 (wq wm_14 (wq wm_120 (wq wm_39 (wq wm_41 (wq wm_121 (wq wm_122 (wq wm_123 (wq wm_124 (wq wm_42 (wq wm_43 (wq wm_44 (wq wm_125 (wq wm_126 (wq wm_127 (wq wm_38 (wq wm_128 (wq wm_49 (wq wm_129 wz)))))))))))))))))))))))), inlX4⟩, inlX3⟩, inlX1⟩⟩) (by decide +kernel)
set_option maxRecDepth 20000 in
theorem gL_law_X4_undo : GoodIn wsL_law (wsV RL 53 RX4 yX4_undo wsX4_undo) := goodIn_app (goodIn_of _ (by decide +kernel)) ggL_law_X4_undo
set_option maxRecDepth 20000 in
theorem ggL_law_X5_undo : GoodIn wsL_law wsX5_undo := goodIn_sub (List.forall_mem_cons.mpr ⟨wm_445, List.forall_mem_append.mpr ⟨(wq wm_150 (wq wm_80 (wq wm_78 (wq wm_151 (wq wm_152 (wq wm_5 (wq wm_153 wz))))))), inlX5⟩⟩) (by decide +kernel)
set_option maxRecDepth 20000 in
theorem gL_law_X5_undo : GoodIn wsL_law (wsV RL 56 RX5 yX5_undo wsX5_undo) := goodIn_app (goodIn_of _ (by decide +kernel)) ggL_law_X5_undo
set_option maxRecDepth 20000 in
theorem iw_wsX4_keep_r1 : ∀ w ∈ wsX4_keep_r1, w ∈ wsL_law := wq wm_17 (wq wm_15 (wq wm_18 (wq wm_117 (wq wm_118 (wq wm_119 (wq wm_14 (wq wm_120 (wq wm_39 (wq wm_41 (wq wm_121 (wq wm_122 (wq wm_123 (wq wm_124 (wq wm_42 (wq wm_43 (wq wm_44 (wq wm_125 (wq wm_126 (wq wm_127 (wq wm_38 (wq wm_128 (wq wm_49 (wq wm_129 wz)))))))))))))))))))))))
set_option maxRecDepth 20000 in
theorem iw_wsX4_keep_r2 : ∀ w ∈ wsX4_keep_r2, w ∈ wsL_law := wq wm_97 (wq wm_98 (wq wm_99 (wq wm_100 (wq wm_101 (wq wm_102 (wq wm_103 (wq wm_104 (wq wm_105 (wq wm_106 (wq wm_107 (wq wm_108 wz)))))))))))
set_option maxRecDepth 20000 in
theorem ggL_law_X4_keep : GoodIn wsL_law wsX4_keep := goodIn_sub (List.forall_mem_cons.mpr ⟨wm_449, List.forall_mem_append.mpr ⟨List.forall_mem_append.mpr ⟨List.forall_mem_append.mpr ⟨List.forall_mem_append.mpr ⟨iw_wsX4_keep_r1, iw_wsX4_keep_r2⟩, inlX4⟩, inlX3⟩, inlX1⟩⟩) (by decide +kernel)
set_option maxRecDepth 20000 in
theorem gL_law_X4_keep : GoodIn wsL_law (wsV RL 57 RX4 yX4_keep wsX4_keep) := goodIn_app (goodIn_of _ (by decide +kernel)) ggL_law_X4_keep
set_option maxRecDepth 20000 in
theorem ggL_law_X5_keep : GoodIn wsL_law wsX5_keep := goodIn_sub (List.forall_mem_cons.mpr ⟨wm_453, List.forall_mem_append.mpr ⟨(wq wm_78 (wq wm_81 (wq wm_454 (wq wm_151 (wq wm_152 (wq wm_5 (wq wm_153 (wq wm_142 (wq wm_143 (wq wm_144 (wq wm_145 wz))))))))))), inlX5⟩⟩) (by decide +kernel)
set_option maxRecDepth 20000 in
theorem gL_law_X5_keep : GoodIn wsL_law (wsV RL 60 RX5 yX5_keep wsX5_keep) := goodIn_app (goodIn_of _ (by decide +kernel)) ggL_law_X5_keep
set_option maxRecDepth 20000 in
theorem iw_wsX4_restore_r1 : ∀ w ∈ wsX4_restore_r1, w ∈ wsL_law := wq wm_18 (wq wm_15 (wq wm_17 (wq wm_109 (wq wm_110 (wq wm_111 (wq wm_2 (wq wm_112 (wq wm_20 (wq wm_19 (wq wm_113 (wq wm_114 (wq wm_115 (wq wm_116 (wq wm_117 (wq wm_118 (wq wm_119 (wq wm_14 (wq wm_120 (wq wm_39 (wq wm_41 (wq wm_121 (wq wm_122 (wq wm_123 wz)))))))))))))))))))))))
set_option maxRecDepth 20000 in
theorem iw_wsX4_restore_r2 : ∀ w ∈ wsX4_restore_r2, w ∈ wsL_law := wq wm_124 (wq wm_42 (wq wm_43 (wq wm_44 (wq wm_125 (wq wm_126 (wq wm_127 (wq wm_38 (wq wm_128 (wq wm_49 (wq wm_129 (wq wm_97 (wq wm_98 (wq wm_99 (wq wm_100 (wq wm_101 (wq wm_102 (wq wm_103 (wq wm_104 (wq wm_105 (wq wm_106 (wq wm_107 (wq wm_108 wz))))))))))))))))))))))
set_option maxRecDepth 20000 in
theorem ggL_law_X4_restore : GoodIn wsL_law wsX4_restore := goodIn_sub (List.forall_mem_cons.mpr ⟨wm_458, List.forall_mem_append.mpr ⟨List.forall_mem_append.mpr ⟨List.forall_mem_append.mpr ⟨List.forall_mem_append.mpr ⟨iw_wsX4_restore_r1, iw_wsX4_restore_r2⟩, inlX4⟩, inlX3⟩, inlX1⟩⟩) (by decide +kernel)
set_option maxRecDepth 20000 in
theorem gL_law_X4_restore : GoodIn wsL_law (wsV RL 61 RX4 yX4_restore wsX4_restore) := goodIn_app (goodIn_of _ (by decide +kernel)) ggL_law_X4_restore
set_option maxRecDepth 20000 in
theorem ggL_law_X5_restore : GoodIn wsL_law wsX5_restore := goodIn_sub (List.forall_mem_cons.mpr ⟨wm_462, List.forall_mem_append.mpr ⟨(wq wm_454 (wq wm_81 (wq wm_78 (wq wm_146 (wq wm_147 (wq wm_148 (wq wm_5 (wq wm_149 (wq wm_150 (wq wm_80 (wq wm_151 (wq wm_152 (wq wm_153 (wq wm_142 (wq wm_143 (wq wm_144 (wq wm_145 wz))))))))))))))))), inlX5⟩⟩) (by decide +kernel)
set_option maxRecDepth 20000 in
theorem gL_law_X5_restore : GoodIn wsL_law (wsV RL 64 RX5 yX5_restore wsX5_restore) := goodIn_app (goodIn_of _ (by decide +kernel)) ggL_law_X5_restore
set_option maxRecDepth 20000 in
theorem iw_wsX4_visitor_r1 : ∀ w ∈ wsX4_visitor_r1, w ∈ wsL_law := wq wm_15 (wq wm_158 (wq wm_159 (wq wm_2 (wq wm_160 (wq wm_239 (wq wm_106 (wq wm_107 (wq wm_38 (wq wm_108 (wq wm_49 (wq wm_467 (wq wm_468 (wq wm_469 (wq wm_14 (wq wm_470 (wq wm_41 (wq wm_471 (wq wm_472 (wq wm_473 (wq wm_474 (wq wm_475 (wq wm_476 (wq wm_477 wz)))))))))))))))))))))))
set_option maxRecDepth 20000 in
theorem iw_wsX4_visitor_r2 : ∀ w ∈ wsX4_visitor_r2, w ∈ wsL_law := wq wm_478 (wq wm_169 (wq wm_131 (wq wm_132 (wq wm_133 (wq wm_479 (wq wm_480 (wq wm_481 (wq wm_482 (wq wm_483 (wq wm_484 (wq wm_485 (wq wm_486 (wq wm_487 (wq wm_488 (wq wm_489 (wq wm_490 (wq wm_491 (wq wm_492 (wq wm_493 (wq wm_494 (wq wm_43 (wq wm_42 wz))))))))))))))))))))))
set_option maxRecDepth 20000 in
theorem ggL_law_X4_visitor : GoodIn wsL_law wsX4_visitor := goodIn_sub (List.forall_mem_cons.mpr ⟨wm_466, List.forall_mem_append.mpr ⟨List.forall_mem_append.mpr ⟨List.forall_mem_append.mpr ⟨List.forall_mem_append.mpr ⟨iw_wsX4_visitor_r1, iw_wsX4_visitor_r2⟩, inlX4⟩, inlX3⟩, inlX1⟩⟩) (by decide +kernel)
set_option maxRecDepth 20000 in
theorem gL_law_X4_visitor : GoodIn wsL_law (wsV RL 65 RX4 yX4_visitor wsX4_visitor) := goodIn_app (goodIn_of _ (by decide +kernel)) ggL_law_X4_visitor
set_option maxRecDepth 20000 in
theorem ggL_law_X5_visitor : GoodIn wsL_law wsX5_visitor := goodIn_sub (List.forall_mem_cons.mpr ⟨wm_498, List.forall_mem_append.mpr ⟨(wq wm_78 (wq wm_244 (wq wm_245 (wq wm_5 (wq wm_246 (wq wm_139 (wq wm_140 (wq wm_141 (wq wm_282 (wq wm_283 (wq wm_284 (wq wm_285 wz)))))))))))), inlX5⟩⟩) (by decide +kernel)
set_option maxRecDepth 20000 in
theorem gL_law_X5_visitor : GoodIn wsL_law (wsV RL 68 RX5 yX5_visitor wsX5_visitor) := goodIn_app (goodIn_of _ (by decide +kernel)) ggL_law_X5_visitor
set_option maxRecDepth 20000 in
theorem ggL_law_X4_inLine : GoodIn wsL_law wsX4_inLine := goodIn_sub (List.forall_mem_cons.mpr ⟨wm_502, List.forall_mem_append.mpr ⟨List.forall_mem_append.mpr ⟨(wq wm_15 (wq wm_503 (wq wm_504 (wq wm_505 (wq wm_14 (wq wm_506 (wq wm_43 (wq wm_42 wz)))))))), inlX4⟩, inlX3⟩⟩) (by decide +kernel)
set_option maxRecDepth 20000 in
theorem gL_law_X4_inLine : GoodIn wsL_law (wsV RL 69 RX4 yX4_inLine wsX4_inLine) := goodIn_app (goodIn_of _ (by decide +kernel)) ggL_law_X4_inLine
set_option maxRecDepth 20000 in
theorem ggL_law_X5_inLine : GoodIn wsL_law wsX5_inLine := goodIn_sub (List.forall_mem_cons.mpr ⟨wm_510, List.forall_mem_append.mpr ⟨(wq wm_78 wz), inlX5⟩⟩) (by decide +kernel)
set_option maxRecDepth 20000 in
theorem gL_law_X5_inLine : GoodIn wsL_law (wsV RL 72 RX5 yX5_inLine wsX5_inLine) := goodIn_app (goodIn_of _ (by decide +kernel)) ggL_law_X5_inLine
set_option maxRecDepth 20000 in
theorem ggL_law_X4_card : GoodIn wsL_law wsX4_card := goodIn_sub (List.forall_mem_cons.mpr ⟨wm_514, List.forall_mem_append.mpr ⟨List.forall_mem_append.mpr ⟨List.forall_mem_append.mpr ⟨(wq wm_15 (wq wm_515 (wq wm_187 (wq wm_2 (wq wm_188 (wq wm_130 (wq wm_131 (wq wm_132 (wq wm_38 (wq wm_133 (wq wm_49 (wq wm_516 (wq wm_184 (wq wm_185 (wq wm_186 wz))))))))))))))), inlX4⟩, inlX3⟩, inlX1⟩⟩) (by decide +kernel)
set_option maxRecDepth 20000 in
theorem gL_law_X4_card : GoodIn wsL_law (wsV RL 73 RX4 yX4_card wsX4_card) := goodIn_app (goodIn_of _ (by decide +kernel)) ggL_law_X4_card
set_option maxRecDepth 20000 in
theorem ggL_law_X5_card : GoodIn wsL_law wsX5_card := goodIn_sub (List.forall_mem_cons.mpr ⟨wm_520, List.forall_mem_append.mpr ⟨(wq wm_78 (wq wm_139 (wq wm_140 (wq wm_5 (wq wm_141 wz))))), inlX5⟩⟩) (by decide +kernel)
set_option maxRecDepth 20000 in
theorem gL_law_X5_card : GoodIn wsL_law (wsV RL 76 RX5 yX5_card wsX5_card) := goodIn_app (goodIn_of _ (by decide +kernel)) ggL_law_X5_card
set_option maxRecDepth 20000 in
theorem iw_wsX4_total_r1 : ∀ w ∈ wsX4_total_r1, w ∈ wsL_law := wq wm_15 (wq wm_20 (wq wm_23 (wq wm_130 (wq wm_131 (wq wm_132 (wq wm_38 (wq wm_133 (wq wm_49 (wq wm_525 (wq wm_526 (wq wm_527 (wq wm_528 (wq wm_105 (wq wm_106 (wq wm_107 (wq wm_108 (wq wm_529 (wq wm_530 (wq wm_531 (wq wm_532 (wq wm_97 (wq wm_98 (wq wm_99 wz)))))))))))))))))))))))
set_option maxRecDepth 20000 in
theorem iw_wsX4_total_r2 : ∀ w ∈ wsX4_total_r2, w ∈ wsL_law := wq wm_14 (wq wm_100 (wq wm_39 (wq wm_101 (wq wm_102 (wq wm_103 (wq wm_104 (wq wm_533 (wq wm_308 (wq wm_309 (wq wm_310 (wq wm_311 (wq wm_41 (wq wm_534 (wq wm_535 (wq wm_536 (wq wm_537 (wq wm_169 (wq wm_538 (wq wm_539 (wq wm_540 (wq wm_541 (wq wm_542 (wq wm_543 wz)))))))))))))))))))))))
